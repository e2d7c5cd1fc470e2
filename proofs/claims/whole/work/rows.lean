section
-- ===== PART A: goes FIRST, ahead of the names: the tables' words, and 'selects' of the private methods out of them =====
/-- a private method of a class that the tables say can be made, by its rows of tables_1 -/
def lw_okq (q : MethodName × Nat) : Prop := (q.1.cls ≠ "java/lang/invoke/MethodHandle" ∧ q.1.cls ≠ "java/lang/invoke/VarHandle") ∧ Cond.instantiable q.1.cls q.2 ∈ tables_1 ∧ Cond.privateMethod q.1 ∈ tables_1 ∧ Cond.instanceMethod q.1 ∈ tables_1
theorem lw_p0 : lw_okq (⟨"ComposedInterval", "tell", "(I)I"⟩, 7) := ⟨⟨by decide +kernel, by decide +kernel⟩, List.mem_of_getElem? (i := 21) (by decide +kernel), List.mem_of_getElem? (i := 254) (by decide +kernel), List.mem_of_getElem? (i := 255) (by decide +kernel)⟩
theorem lw_p1 : lw_okq (⟨"ComposedInterval$Foyer", "look", "()V"⟩, 15) := ⟨⟨by decide +kernel, by decide +kernel⟩, List.mem_of_getElem? (i := 125) (by decide +kernel), List.mem_of_getElem? (i := 266) (by decide +kernel), List.mem_of_getElem? (i := 267) (by decide +kernel)⟩
theorem lw_p2 : lw_okq (⟨"ComposedInterval$Foyer", "whoIsDueHere", "()I"⟩, 15) := ⟨⟨by decide +kernel, by decide +kernel⟩, List.mem_of_getElem? (i := 125) (by decide +kernel), List.mem_of_getElem? (i := 270) (by decide +kernel), List.mem_of_getElem? (i := 271) (by decide +kernel)⟩
theorem lw_p3 : lw_okq (⟨"ComposedInterval$Foyer", "dueOf", "(I)I"⟩, 15) := ⟨⟨by decide +kernel, by decide +kernel⟩, List.mem_of_getElem? (i := 125) (by decide +kernel), List.mem_of_getElem? (i := 274) (by decide +kernel), List.mem_of_getElem? (i := 275) (by decide +kernel)⟩
theorem lw_p4 : lw_okq (⟨"ComposedInterval$Foyer", "guest", "(I)LComposedInterval$Guest;"⟩, 15) := ⟨⟨by decide +kernel, by decide +kernel⟩, List.mem_of_getElem? (i := 125) (by decide +kernel), List.mem_of_getElem? (i := 278) (by decide +kernel), List.mem_of_getElem? (i := 279) (by decide +kernel)⟩
theorem lw_p5 : lw_okq (⟨"ComposedInterval$Cast", "numbered", "(I)LComposedInterval$Guest;"⟩, 6) := ⟨⟨by decide +kernel, by decide +kernel⟩, List.mem_of_getElem? (i := 58) (by decide +kernel), List.mem_of_getElem? (i := 282) (by decide +kernel), List.mem_of_getElem? (i := 283) (by decide +kernel)⟩
theorem lw_p6 : lw_okq (⟨"ComposedInterval$Foyer", "sumHarmony", "()I"⟩, 15) := ⟨⟨by decide +kernel, by decide +kernel⟩, List.mem_of_getElem? (i := 125) (by decide +kernel), List.mem_of_getElem? (i := 334) (by decide +kernel), List.mem_of_getElem? (i := 335) (by decide +kernel)⟩
theorem lw_p7 : lw_okq (⟨"ComposedInterval$Foyer", "sumOf", "([I)I"⟩, 15) := ⟨⟨by decide +kernel, by decide +kernel⟩, List.mem_of_getElem? (i := 125) (by decide +kernel), List.mem_of_getElem? (i := 338) (by decide +kernel), List.mem_of_getElem? (i := 339) (by decide +kernel)⟩
theorem lw_p8 : lw_okq (⟨"ComposedInterval$Foyer", "whoIsAt", "(I)I"⟩, 15) := ⟨⟨by decide +kernel, by decide +kernel⟩, List.mem_of_getElem? (i := 125) (by decide +kernel), List.mem_of_getElem? (i := 346) (by decide +kernel), List.mem_of_getElem? (i := 347) (by decide +kernel)⟩
theorem lw_p9 : lw_okq (⟨"ComposedInterval$Foyer", "admit", "(III)V"⟩, 15) := ⟨⟨by decide +kernel, by decide +kernel⟩, List.mem_of_getElem? (i := 125) (by decide +kernel), List.mem_of_getElem? (i := 358) (by decide +kernel), List.mem_of_getElem? (i := 359) (by decide +kernel)⟩
theorem lw_p10 : lw_okq (⟨"ComposedInterval", "isNobody", "(I)Z"⟩, 7) := ⟨⟨by decide +kernel, by decide +kernel⟩, List.mem_of_getElem? (i := 21) (by decide +kernel), List.mem_of_getElem? (i := 366) (by decide +kernel), List.mem_of_getElem? (i := 367) (by decide +kernel)⟩
theorem lw_p11 : lw_okq (⟨"ComposedInterval$Foyer", "isDeceived", "(I)Z"⟩, 15) := ⟨⟨by decide +kernel, by decide +kernel⟩, List.mem_of_getElem? (i := 125) (by decide +kernel), List.mem_of_getElem? (i := 371) (by decide +kernel), List.mem_of_getElem? (i := 372) (by decide +kernel)⟩
theorem lw_p12 : lw_okq (⟨"ComposedInterval$Foyer", "isBarred", "(II)Z"⟩, 15) := ⟨⟨by decide +kernel, by decide +kernel⟩, List.mem_of_getElem? (i := 125) (by decide +kernel), List.mem_of_getElem? (i := 389) (by decide +kernel), List.mem_of_getElem? (i := 390) (by decide +kernel)⟩
theorem lw_p13 : lw_okq (⟨"ComposedInterval$Foyer", "go", "(I)V"⟩, 15) := ⟨⟨by decide +kernel, by decide +kernel⟩, List.mem_of_getElem? (i := 125) (by decide +kernel), List.mem_of_getElem? (i := 451) (by decide +kernel), List.mem_of_getElem? (i := 452) (by decide +kernel)⟩
theorem lw_p14 : lw_okq (⟨"ComposedInterval$Foyer", "passMinute", "()V"⟩, 15) := ⟨⟨by decide +kernel, by decide +kernel⟩, List.mem_of_getElem? (i := 125) (by decide +kernel), List.mem_of_getElem? (i := 455) (by decide +kernel), List.mem_of_getElem? (i := 456) (by decide +kernel)⟩
theorem lw_p15 : lw_okq (⟨"ComposedInterval$Foyer", "markMinute", "()V"⟩, 15) := ⟨⟨by decide +kernel, by decide +kernel⟩, List.mem_of_getElem? (i := 125) (by decide +kernel), List.mem_of_getElem? (i := 467) (by decide +kernel), List.mem_of_getElem? (i := 468) (by decide +kernel)⟩
def lw_privs_1 : List (MethodName × Nat) := [(⟨"ComposedInterval", "tell", "(I)I"⟩, 7), (⟨"ComposedInterval$Foyer", "look", "()V"⟩, 15), (⟨"ComposedInterval$Foyer", "whoIsDueHere", "()I"⟩, 15), (⟨"ComposedInterval$Foyer", "dueOf", "(I)I"⟩, 15), (⟨"ComposedInterval$Foyer", "guest", "(I)LComposedInterval$Guest;"⟩, 15), (⟨"ComposedInterval$Cast", "numbered", "(I)LComposedInterval$Guest;"⟩, 6), (⟨"ComposedInterval$Foyer", "sumHarmony", "()I"⟩, 15), (⟨"ComposedInterval$Foyer", "sumOf", "([I)I"⟩, 15), (⟨"ComposedInterval$Foyer", "whoIsAt", "(I)I"⟩, 15), (⟨"ComposedInterval$Foyer", "admit", "(III)V"⟩, 15), (⟨"ComposedInterval", "isNobody", "(I)Z"⟩, 7), (⟨"ComposedInterval$Foyer", "isDeceived", "(I)Z"⟩, 15), (⟨"ComposedInterval$Foyer", "isBarred", "(II)Z"⟩, 15), (⟨"ComposedInterval$Foyer", "go", "(I)V"⟩, 15), (⟨"ComposedInterval$Foyer", "passMinute", "()V"⟩, 15), (⟨"ComposedInterval$Foyer", "markMinute", "()V"⟩, 15)]
theorem lw_r1 : ∀ q ∈ lw_privs_1, lw_okq q := List.forall_mem_cons.mpr ⟨lw_p0, List.forall_mem_cons.mpr ⟨lw_p1, List.forall_mem_cons.mpr ⟨lw_p2, List.forall_mem_cons.mpr ⟨lw_p3, List.forall_mem_cons.mpr ⟨lw_p4, List.forall_mem_cons.mpr ⟨lw_p5, List.forall_mem_cons.mpr ⟨lw_p6, List.forall_mem_cons.mpr ⟨lw_p7, List.forall_mem_cons.mpr ⟨lw_p8, List.forall_mem_cons.mpr ⟨lw_p9, List.forall_mem_cons.mpr ⟨lw_p10, List.forall_mem_cons.mpr ⟨lw_p11, List.forall_mem_cons.mpr ⟨lw_p12, List.forall_mem_cons.mpr ⟨lw_p13, List.forall_mem_cons.mpr ⟨lw_p14, List.forall_mem_cons.mpr ⟨lw_p15, fun _ h => absurd h List.not_mem_nil⟩⟩⟩⟩⟩⟩⟩⟩⟩⟩⟩⟩⟩⟩⟩⟩
theorem lw_p16 : lw_okq (⟨"ComposedInterval$Foyer", "become", "(LComposedInterval$Foyer;)V"⟩, 15) := ⟨⟨by decide +kernel, by decide +kernel⟩, List.mem_of_getElem? (i := 125) (by decide +kernel), List.mem_of_getElem? (i := 476) (by decide +kernel), List.mem_of_getElem? (i := 477) (by decide +kernel)⟩
theorem lw_p17 : lw_okq (⟨"ComposedInterval", "bestPlayed", "([IIII)I"⟩, 7) := ⟨⟨by decide +kernel, by decide +kernel⟩, List.mem_of_getElem? (i := 21) (by decide +kernel), List.mem_of_getElem? (i := 505) (by decide +kernel), List.mem_of_getElem? (i := 506) (by decide +kernel)⟩
theorem lw_p18 : lw_okq (⟨"ComposedInterval$Tape", "append", "(I)V"⟩, 6) := ⟨⟨by decide +kernel, by decide +kernel⟩, List.mem_of_getElem? (i := 29) (by decide +kernel), List.mem_of_getElem? (i := 533) (by decide +kernel), List.mem_of_getElem? (i := 534) (by decide +kernel)⟩
theorem lw_p19 : lw_okq (⟨"ComposedInterval$Tape", "perform", "(LComposedInterval$Foyer;)I"⟩, 6) := ⟨⟨by decide +kernel, by decide +kernel⟩, List.mem_of_getElem? (i := 29) (by decide +kernel), List.mem_of_getElem? (i := 545) (by decide +kernel), List.mem_of_getElem? (i := 546) (by decide +kernel)⟩
theorem lw_p20 : lw_okq (⟨"ComposedInterval$Tape", "advance", "()V"⟩, 6) := ⟨⟨by decide +kernel, by decide +kernel⟩, List.mem_of_getElem? (i := 29) (by decide +kernel), List.mem_of_getElem? (i := 549) (by decide +kernel), List.mem_of_getElem? (i := 550) (by decide +kernel)⟩
theorem lw_p21 : lw_okq (⟨"ComposedInterval$Tape", "takeItem", "(LComposedInterval$Foyer;)Z"⟩, 6) := ⟨⟨by decide +kernel, by decide +kernel⟩, List.mem_of_getElem? (i := 29) (by decide +kernel), List.mem_of_getElem? (i := 560) (by decide +kernel), List.mem_of_getElem? (i := 561) (by decide +kernel)⟩
theorem lw_p22 : lw_okq (⟨"ComposedInterval$Tape", "isWord", "(Ljava/lang/String;)Z"⟩, 6) := ⟨⟨by decide +kernel, by decide +kernel⟩, List.mem_of_getElem? (i := 29) (by decide +kernel), List.mem_of_getElem? (i := 565) (by decide +kernel), List.mem_of_getElem? (i := 566) (by decide +kernel)⟩
theorem lw_p23 : lw_okq (⟨"ComposedInterval$Tape", "takeScore", "(LComposedInterval$Foyer;)Z"⟩, 6) := ⟨⟨by decide +kernel, by decide +kernel⟩, List.mem_of_getElem? (i := 29) (by decide +kernel), List.mem_of_getElem? (i := 617) (by decide +kernel), List.mem_of_getElem? (i := 618) (by decide +kernel)⟩
theorem lw_p24 : lw_okq (⟨"ComposedInterval$Tape", "isNumber", "(II)Z"⟩, 6) := ⟨⟨by decide +kernel, by decide +kernel⟩, List.mem_of_getElem? (i := 29) (by decide +kernel), List.mem_of_getElem? (i := 621) (by decide +kernel), List.mem_of_getElem? (i := 622) (by decide +kernel)⟩
theorem lw_p25 : lw_okq (⟨"ComposedInterval$Tape", "takeBell", "(LComposedInterval$Foyer;)Z"⟩, 6) := ⟨⟨by decide +kernel, by decide +kernel⟩, List.mem_of_getElem? (i := 29) (by decide +kernel), List.mem_of_getElem? (i := 626) (by decide +kernel), List.mem_of_getElem? (i := 627) (by decide +kernel)⟩
theorem lw_p26 : lw_okq (⟨"ComposedInterval$Tape", "takePerson", "(LComposedInterval$Foyer;I)Z"⟩, 6) := ⟨⟨by decide +kernel, by decide +kernel⟩, List.mem_of_getElem? (i := 29) (by decide +kernel), List.mem_of_getElem? (i := 639) (by decide +kernel), List.mem_of_getElem? (i := 640) (by decide +kernel)⟩
theorem lw_p27 : lw_okq (⟨"ComposedInterval$Sheet", "lay", "(II)V"⟩, 3) := ⟨⟨by decide +kernel, by decide +kernel⟩, List.mem_of_getElem? (i := 201) (by decide +kernel), List.mem_of_getElem? (i := 654) (by decide +kernel), List.mem_of_getElem? (i := 655) (by decide +kernel)⟩
theorem lw_p28 : lw_okq (⟨"ComposedInterval", "sheetFinding", "(I)I"⟩, 7) := ⟨⟨by decide +kernel, by decide +kernel⟩, List.mem_of_getElem? (i := 21) (by decide +kernel), List.mem_of_getElem? (i := 665) (by decide +kernel), List.mem_of_getElem? (i := 666) (by decide +kernel)⟩
theorem lw_p29 : lw_okq (⟨"ComposedInterval$Sheet", "isMissing", "()Z"⟩, 3) := ⟨⟨by decide +kernel, by decide +kernel⟩, List.mem_of_getElem? (i := 201) (by decide +kernel), List.mem_of_getElem? (i := 669) (by decide +kernel), List.mem_of_getElem? (i := 670) (by decide +kernel)⟩
theorem lw_p30 : lw_okq (⟨"ComposedInterval$Sheet", "narrow", "(J)J"⟩, 3) := ⟨⟨by decide +kernel, by decide +kernel⟩, List.mem_of_getElem? (i := 201) (by decide +kernel), List.mem_of_getElem? (i := 674) (by decide +kernel), List.mem_of_getElem? (i := 675) (by decide +kernel)⟩
theorem lw_p31 : lw_okq (⟨"ComposedInterval$Sheet", "hasRun", "(II)Z"⟩, 3) := ⟨⟨by decide +kernel, by decide +kernel⟩, List.mem_of_getElem? (i := 201) (by decide +kernel), List.mem_of_getElem? (i := 682) (by decide +kernel), List.mem_of_getElem? (i := 683) (by decide +kernel)⟩
def lw_privs_2 : List (MethodName × Nat) := [(⟨"ComposedInterval$Foyer", "become", "(LComposedInterval$Foyer;)V"⟩, 15), (⟨"ComposedInterval", "bestPlayed", "([IIII)I"⟩, 7), (⟨"ComposedInterval$Tape", "append", "(I)V"⟩, 6), (⟨"ComposedInterval$Tape", "perform", "(LComposedInterval$Foyer;)I"⟩, 6), (⟨"ComposedInterval$Tape", "advance", "()V"⟩, 6), (⟨"ComposedInterval$Tape", "takeItem", "(LComposedInterval$Foyer;)Z"⟩, 6), (⟨"ComposedInterval$Tape", "isWord", "(Ljava/lang/String;)Z"⟩, 6), (⟨"ComposedInterval$Tape", "takeScore", "(LComposedInterval$Foyer;)Z"⟩, 6), (⟨"ComposedInterval$Tape", "isNumber", "(II)Z"⟩, 6), (⟨"ComposedInterval$Tape", "takeBell", "(LComposedInterval$Foyer;)Z"⟩, 6), (⟨"ComposedInterval$Tape", "takePerson", "(LComposedInterval$Foyer;I)Z"⟩, 6), (⟨"ComposedInterval$Sheet", "lay", "(II)V"⟩, 3), (⟨"ComposedInterval", "sheetFinding", "(I)I"⟩, 7), (⟨"ComposedInterval$Sheet", "isMissing", "()Z"⟩, 3), (⟨"ComposedInterval$Sheet", "narrow", "(J)J"⟩, 3), (⟨"ComposedInterval$Sheet", "hasRun", "(II)Z"⟩, 3)]
theorem lw_r2 : ∀ q ∈ lw_privs_2, lw_okq q := List.forall_mem_cons.mpr ⟨lw_p16, List.forall_mem_cons.mpr ⟨lw_p17, List.forall_mem_cons.mpr ⟨lw_p18, List.forall_mem_cons.mpr ⟨lw_p19, List.forall_mem_cons.mpr ⟨lw_p20, List.forall_mem_cons.mpr ⟨lw_p21, List.forall_mem_cons.mpr ⟨lw_p22, List.forall_mem_cons.mpr ⟨lw_p23, List.forall_mem_cons.mpr ⟨lw_p24, List.forall_mem_cons.mpr ⟨lw_p25, List.forall_mem_cons.mpr ⟨lw_p26, List.forall_mem_cons.mpr ⟨lw_p27, List.forall_mem_cons.mpr ⟨lw_p28, List.forall_mem_cons.mpr ⟨lw_p29, List.forall_mem_cons.mpr ⟨lw_p30, List.forall_mem_cons.mpr ⟨lw_p31, fun _ h => absurd h List.not_mem_nil⟩⟩⟩⟩⟩⟩⟩⟩⟩⟩⟩⟩⟩⟩⟩⟩
theorem lw_p32 : lw_okq (⟨"ComposedInterval", "goesAsTold", "(LComposedInterval$Sheet;I)Z"⟩, 7) := ⟨⟨by decide +kernel, by decide +kernel⟩, List.mem_of_getElem? (i := 21) (by decide +kernel), List.mem_of_getElem? (i := 700) (by decide +kernel), List.mem_of_getElem? (i := 701) (by decide +kernel)⟩
theorem lw_p33 : lw_okq (⟨"ComposedIntervalModel", "becomes", "(II)I"⟩, 18) := ⟨⟨by decide +kernel, by decide +kernel⟩, List.mem_of_getElem? (i := 725) (by decide +kernel), List.mem_of_getElem? (i := 801) (by decide +kernel), List.mem_of_getElem? (i := 802) (by decide +kernel)⟩
theorem lw_p34 : lw_okq (⟨"ComposedIntervalModel", "finds", "(I)I"⟩, 18) := ⟨⟨by decide +kernel, by decide +kernel⟩, List.mem_of_getElem? (i := 725) (by decide +kernel), List.mem_of_getElem? (i := 806) (by decide +kernel), List.mem_of_getElem? (i := 807) (by decide +kernel)⟩
theorem lw_p35 : lw_okq (⟨"ComposedIntervalModel", "quarter", "()I"⟩, 18) := ⟨⟨by decide +kernel, by decide +kernel⟩, List.mem_of_getElem? (i := 725) (by decide +kernel), List.mem_of_getElem? (i := 823) (by decide +kernel), List.mem_of_getElem? (i := 824) (by decide +kernel)⟩
theorem lw_p36 : lw_okq (⟨"ComposedIntervalModel", "ringing", "()I"⟩, 18) := ⟨⟨by decide +kernel, by decide +kernel⟩, List.mem_of_getElem? (i := 725) (by decide +kernel), List.mem_of_getElem? (i := 827) (by decide +kernel), List.mem_of_getElem? (i := 828) (by decide +kernel)⟩
theorem lw_p37 : lw_okq (⟨"ComposedIntervalModel", "dueOnes", "()I"⟩, 18) := ⟨⟨by decide +kernel, by decide +kernel⟩, List.mem_of_getElem? (i := 725) (by decide +kernel), List.mem_of_getElem? (i := 831) (by decide +kernel), List.mem_of_getElem? (i := 832) (by decide +kernel)⟩
theorem lw_p38 : lw_okq (⟨"ComposedIntervalModel", "its", "(II)I"⟩, 18) := ⟨⟨by decide +kernel, by decide +kernel⟩, List.mem_of_getElem? (i := 725) (by decide +kernel), List.mem_of_getElem? (i := 835) (by decide +kernel), List.mem_of_getElem? (i := 836) (by decide +kernel)⟩
theorem lw_p39 : lw_okq (⟨"ComposedIntervalModel", "dueOf", "(I)I"⟩, 18) := ⟨⟨by decide +kernel, by decide +kernel⟩, List.mem_of_getElem? (i := 725) (by decide +kernel), List.mem_of_getElem? (i := 842) (by decide +kernel), List.mem_of_getElem? (i := 843) (by decide +kernel)⟩
theorem lw_p40 : lw_okq (⟨"ComposedIntervalModel", "isHearing", "(I)Z"⟩, 18) := ⟨⟨by decide +kernel, by decide +kernel⟩, List.mem_of_getElem? (i := 725) (by decide +kernel), List.mem_of_getElem? (i := 846) (by decide +kernel), List.mem_of_getElem? (i := 847) (by decide +kernel)⟩
theorem lw_p41 : lw_okq (⟨"ComposedIntervalModel", "writtenFor", "(I)I"⟩, 18) := ⟨⟨by decide +kernel, by decide +kernel⟩, List.mem_of_getElem? (i := 725) (by decide +kernel), List.mem_of_getElem? (i := 850) (by decide +kernel), List.mem_of_getElem? (i := 851) (by decide +kernel)⟩
theorem lw_p42 : lw_okq (⟨"ComposedIntervalModel", "harmonyNow", "()I"⟩, 18) := ⟨⟨by decide +kernel, by decide +kernel⟩, List.mem_of_getElem? (i := 725) (by decide +kernel), List.mem_of_getElem? (i := 855) (by decide +kernel), List.mem_of_getElem? (i := 856) (by decide +kernel)⟩
theorem lw_p43 : lw_okq (⟨"ComposedIntervalModel", "together", "(I)I"⟩, 18) := ⟨⟨by decide +kernel, by decide +kernel⟩, List.mem_of_getElem? (i := 725) (by decide +kernel), List.mem_of_getElem? (i := 859) (by decide +kernel), List.mem_of_getElem? (i := 860) (by decide +kernel)⟩
theorem lw_p44 : lw_okq (⟨"ComposedIntervalModel", "whoAt", "(I)I"⟩, 18) := ⟨⟨by decide +kernel, by decide +kernel⟩, List.mem_of_getElem? (i := 725) (by decide +kernel), List.mem_of_getElem? (i := 867) (by decide +kernel), List.mem_of_getElem? (i := 868) (by decide +kernel)⟩
theorem lw_p45 : lw_okq (⟨"ComposedIntervalModel", "adds", "(II)I"⟩, 18) := ⟨⟨by decide +kernel, by decide +kernel⟩, List.mem_of_getElem? (i := 725) (by decide +kernel), List.mem_of_getElem? (i := 879) (by decide +kernel), List.mem_of_getElem? (i := 880) (by decide +kernel)⟩
theorem lw_p46 : lw_okq (⟨"ComposedIntervalModel", "isPerson", "(I)Z"⟩, 18) := ⟨⟨by decide +kernel, by decide +kernel⟩, List.mem_of_getElem? (i := 725) (by decide +kernel), List.mem_of_getElem? (i := 887) (by decide +kernel), List.mem_of_getElem? (i := 888) (by decide +kernel)⟩
theorem lw_p47 : lw_okq (⟨"ComposedIntervalModel", "walksOf", "(I)I"⟩, 18) := ⟨⟨by decide +kernel, by decide +kernel⟩, List.mem_of_getElem? (i := 725) (by decide +kernel), List.mem_of_getElem? (i := 892) (by decide +kernel), List.mem_of_getElem? (i := 893) (by decide +kernel)⟩
def lw_privs_3 : List (MethodName × Nat) := [(⟨"ComposedInterval", "goesAsTold", "(LComposedInterval$Sheet;I)Z"⟩, 7), (⟨"ComposedIntervalModel", "becomes", "(II)I"⟩, 18), (⟨"ComposedIntervalModel", "finds", "(I)I"⟩, 18), (⟨"ComposedIntervalModel", "quarter", "()I"⟩, 18), (⟨"ComposedIntervalModel", "ringing", "()I"⟩, 18), (⟨"ComposedIntervalModel", "dueOnes", "()I"⟩, 18), (⟨"ComposedIntervalModel", "its", "(II)I"⟩, 18), (⟨"ComposedIntervalModel", "dueOf", "(I)I"⟩, 18), (⟨"ComposedIntervalModel", "isHearing", "(I)Z"⟩, 18), (⟨"ComposedIntervalModel", "writtenFor", "(I)I"⟩, 18), (⟨"ComposedIntervalModel", "harmonyNow", "()I"⟩, 18), (⟨"ComposedIntervalModel", "together", "(I)I"⟩, 18), (⟨"ComposedIntervalModel", "whoAt", "(I)I"⟩, 18), (⟨"ComposedIntervalModel", "adds", "(II)I"⟩, 18), (⟨"ComposedIntervalModel", "isPerson", "(I)Z"⟩, 18), (⟨"ComposedIntervalModel", "walksOf", "(I)I"⟩, 18)]
theorem lw_r3 : ∀ q ∈ lw_privs_3, lw_okq q := List.forall_mem_cons.mpr ⟨lw_p32, List.forall_mem_cons.mpr ⟨lw_p33, List.forall_mem_cons.mpr ⟨lw_p34, List.forall_mem_cons.mpr ⟨lw_p35, List.forall_mem_cons.mpr ⟨lw_p36, List.forall_mem_cons.mpr ⟨lw_p37, List.forall_mem_cons.mpr ⟨lw_p38, List.forall_mem_cons.mpr ⟨lw_p39, List.forall_mem_cons.mpr ⟨lw_p40, List.forall_mem_cons.mpr ⟨lw_p41, List.forall_mem_cons.mpr ⟨lw_p42, List.forall_mem_cons.mpr ⟨lw_p43, List.forall_mem_cons.mpr ⟨lw_p44, List.forall_mem_cons.mpr ⟨lw_p45, List.forall_mem_cons.mpr ⟨lw_p46, List.forall_mem_cons.mpr ⟨lw_p47, fun _ h => absurd h List.not_mem_nil⟩⟩⟩⟩⟩⟩⟩⟩⟩⟩⟩⟩⟩⟩⟩⟩
theorem lw_p48 : lw_okq (⟨"ComposedIntervalModel", "isBarred", "(I)Z"⟩, 18) := ⟨⟨by decide +kernel, by decide +kernel⟩, List.mem_of_getElem? (i := 725) (by decide +kernel), List.mem_of_getElem? (i := 896) (by decide +kernel), List.mem_of_getElem? (i := 897) (by decide +kernel)⟩
theorem lw_p49 : lw_okq (⟨"ComposedIntervalModel", "spoilsOf", "(I)I"⟩, 18) := ⟨⟨by decide +kernel, by decide +kernel⟩, List.mem_of_getElem? (i := 725) (by decide +kernel), List.mem_of_getElem? (i := 903) (by decide +kernel), List.mem_of_getElem? (i := 904) (by decide +kernel)⟩
theorem lw_p50 : lw_okq (⟨"ComposedIntervalModel", "minutesGo", "(I)V"⟩, 18) := ⟨⟨by decide +kernel, by decide +kernel⟩, List.mem_of_getElem? (i := 725) (by decide +kernel), List.mem_of_getElem? (i := 932) (by decide +kernel), List.mem_of_getElem? (i := 933) (by decide +kernel)⟩
theorem lw_p51 : lw_okq (⟨"ComposedIntervalModel", "minute", "()V"⟩, 18) := ⟨⟨by decide +kernel, by decide +kernel⟩, List.mem_of_getElem? (i := 725) (by decide +kernel), List.mem_of_getElem? (i := 936) (by decide +kernel), List.mem_of_getElem? (i := 937) (by decide +kernel)⟩
theorem lw_p52 : lw_okq (⟨"ComposedIntervalModel", "walks", "(I)V"⟩, 18) := ⟨⟨by decide +kernel, by decide +kernel⟩, List.mem_of_getElem? (i := 725) (by decide +kernel), List.mem_of_getElem? (i := 940) (by decide +kernel), List.mem_of_getElem? (i := 941) (by decide +kernel)⟩
theorem lw_p53 : lw_okq (⟨"ComposedIntervalModel", "behind", "(II)I"⟩, 18) := ⟨⟨by decide +kernel, by decide +kernel⟩, List.mem_of_getElem? (i := 725) (by decide +kernel), List.mem_of_getElem? (i := 952) (by decide +kernel), List.mem_of_getElem? (i := 953) (by decide +kernel)⟩
theorem lw_p54 : lw_okq (⟨"ComposedIntervalModel", "laysAside", "()V"⟩, 18) := ⟨⟨by decide +kernel, by decide +kernel⟩, List.mem_of_getElem? (i := 725) (by decide +kernel), List.mem_of_getElem? (i := 956) (by decide +kernel), List.mem_of_getElem? (i := 957) (by decide +kernel)⟩
theorem lw_p55 : lw_okq (⟨"ComposedIntervalModel", "takesBack", "(I)I"⟩, 18) := ⟨⟨by decide +kernel, by decide +kernel⟩, List.mem_of_getElem? (i := 725) (by decide +kernel), List.mem_of_getElem? (i := 960) (by decide +kernel), List.mem_of_getElem? (i := 961) (by decide +kernel)⟩
theorem lw_p56 : lw_okq (⟨"ComposedIntervalModel", "toldAt", "(I)I"⟩, 18) := ⟨⟨by decide +kernel, by decide +kernel⟩, List.mem_of_getElem? (i := 725) (by decide +kernel), List.mem_of_getElem? (i := 972) (by decide +kernel), List.mem_of_getElem? (i := 973) (by decide +kernel)⟩
theorem lw_p57 : lw_okq (⟨"ComposedIntervalModel", "mostBy", "(IIIII)I"⟩, 18) := ⟨⟨by decide +kernel, by decide +kernel⟩, List.mem_of_getElem? (i := 725) (by decide +kernel), List.mem_of_getElem? (i := 993) (by decide +kernel), List.mem_of_getElem? (i := 994) (by decide +kernel)⟩
theorem lw_p58 : lw_okq (⟨"ComposedIntervalModel", "saves", "()V"⟩, 18) := ⟨⟨by decide +kernel, by decide +kernel⟩, List.mem_of_getElem? (i := 725) (by decide +kernel), List.mem_of_getElem? (i := 1031) (by decide +kernel), List.mem_of_getElem? (i := 1032) (by decide +kernel)⟩
theorem lw_p59 : lw_okq (⟨"ComposedIntervalModel", "token", "()V"⟩, 18) := ⟨⟨by decide +kernel, by decide +kernel⟩, List.mem_of_getElem? (i := 725) (by decide +kernel), List.mem_of_getElem? (i := 1035) (by decide +kernel), List.mem_of_getElem? (i := 1036) (by decide +kernel)⟩
theorem lw_p60 : lw_okq (⟨"ComposedIntervalModel", "byteAt", "(I)I"⟩, 18) := ⟨⟨by decide +kernel, by decide +kernel⟩, List.mem_of_getElem? (i := 725) (by decide +kernel), List.mem_of_getElem? (i := 1039) (by decide +kernel), List.mem_of_getElem? (i := 1040) (by decide +kernel)⟩
theorem lw_p61 : lw_okq (⟨"ComposedIntervalModel", "item", "()V"⟩, 18) := ⟨⟨by decide +kernel, by decide +kernel⟩, List.mem_of_getElem? (i := 725) (by decide +kernel), List.mem_of_getElem? (i := 1053) (by decide +kernel), List.mem_of_getElem? (i := 1054) (by decide +kernel)⟩
theorem lw_p62 : lw_okq (⟨"ComposedIntervalModel", "kindHere", "()I"⟩, 18) := ⟨⟨by decide +kernel, by decide +kernel⟩, List.mem_of_getElem? (i := 725) (by decide +kernel), List.mem_of_getElem? (i := 1057) (by decide +kernel), List.mem_of_getElem? (i := 1058) (by decide +kernel)⟩
theorem lw_p63 : lw_okq (⟨"ComposedIntervalModel", "word", "()J"⟩, 18) := ⟨⟨by decide +kernel, by decide +kernel⟩, List.mem_of_getElem? (i := 725) (by decide +kernel), List.mem_of_getElem? (i := 1061) (by decide +kernel), List.mem_of_getElem? (i := 1062) (by decide +kernel)⟩
def lw_privs_4 : List (MethodName × Nat) := [(⟨"ComposedIntervalModel", "isBarred", "(I)Z"⟩, 18), (⟨"ComposedIntervalModel", "spoilsOf", "(I)I"⟩, 18), (⟨"ComposedIntervalModel", "minutesGo", "(I)V"⟩, 18), (⟨"ComposedIntervalModel", "minute", "()V"⟩, 18), (⟨"ComposedIntervalModel", "walks", "(I)V"⟩, 18), (⟨"ComposedIntervalModel", "behind", "(II)I"⟩, 18), (⟨"ComposedIntervalModel", "laysAside", "()V"⟩, 18), (⟨"ComposedIntervalModel", "takesBack", "(I)I"⟩, 18), (⟨"ComposedIntervalModel", "toldAt", "(I)I"⟩, 18), (⟨"ComposedIntervalModel", "mostBy", "(IIIII)I"⟩, 18), (⟨"ComposedIntervalModel", "saves", "()V"⟩, 18), (⟨"ComposedIntervalModel", "token", "()V"⟩, 18), (⟨"ComposedIntervalModel", "byteAt", "(I)I"⟩, 18), (⟨"ComposedIntervalModel", "item", "()V"⟩, 18), (⟨"ComposedIntervalModel", "kindHere", "()I"⟩, 18), (⟨"ComposedIntervalModel", "word", "()J"⟩, 18)]
theorem lw_r4 : ∀ q ∈ lw_privs_4, lw_okq q := List.forall_mem_cons.mpr ⟨lw_p48, List.forall_mem_cons.mpr ⟨lw_p49, List.forall_mem_cons.mpr ⟨lw_p50, List.forall_mem_cons.mpr ⟨lw_p51, List.forall_mem_cons.mpr ⟨lw_p52, List.forall_mem_cons.mpr ⟨lw_p53, List.forall_mem_cons.mpr ⟨lw_p54, List.forall_mem_cons.mpr ⟨lw_p55, List.forall_mem_cons.mpr ⟨lw_p56, List.forall_mem_cons.mpr ⟨lw_p57, List.forall_mem_cons.mpr ⟨lw_p58, List.forall_mem_cons.mpr ⟨lw_p59, List.forall_mem_cons.mpr ⟨lw_p60, List.forall_mem_cons.mpr ⟨lw_p61, List.forall_mem_cons.mpr ⟨lw_p62, List.forall_mem_cons.mpr ⟨lw_p63, fun _ h => absurd h List.not_mem_nil⟩⟩⟩⟩⟩⟩⟩⟩⟩⟩⟩⟩⟩⟩⟩⟩
theorem lw_p64 : lw_okq (⟨"ComposedIntervalModel", "personItem", "(I)V"⟩, 18) := ⟨⟨by decide +kernel, by decide +kernel⟩, List.mem_of_getElem? (i := 725) (by decide +kernel), List.mem_of_getElem? (i := 1073) (by decide +kernel), List.mem_of_getElem? (i := 1074) (by decide +kernel)⟩
theorem lw_p65 : lw_okq (⟨"ComposedIntervalModel", "must", "(Z)V"⟩, 18) := ⟨⟨by decide +kernel, by decide +kernel⟩, List.mem_of_getElem? (i := 725) (by decide +kernel), List.mem_of_getElem? (i := 1077) (by decide +kernel), List.mem_of_getElem? (i := 1078) (by decide +kernel)⟩
theorem lw_p66 : lw_okq (⟨"ComposedIntervalModel", "number", "(II)V"⟩, 18) := ⟨⟨by decide +kernel, by decide +kernel⟩, List.mem_of_getElem? (i := 725) (by decide +kernel), List.mem_of_getElem? (i := 1081) (by decide +kernel), List.mem_of_getElem? (i := 1082) (by decide +kernel)⟩
theorem lw_p67 : lw_okq (⟨"ComposedIntervalModel", "toldItem", "(III)V"⟩, 18) := ⟨⟨by decide +kernel, by decide +kernel⟩, List.mem_of_getElem? (i := 725) (by decide +kernel), List.mem_of_getElem? (i := 1087) (by decide +kernel), List.mem_of_getElem? (i := 1088) (by decide +kernel)⟩
theorem lw_p68 : lw_okq (⟨"ComposedIntervalModel", "putsBack", "()V"⟩, 18) := ⟨⟨by decide +kernel, by decide +kernel⟩, List.mem_of_getElem? (i := 725) (by decide +kernel), List.mem_of_getElem? (i := 1092) (by decide +kernel), List.mem_of_getElem? (i := 1093) (by decide +kernel)⟩
theorem lw_p69 : lw_okq (⟨"ComposedIntervalModel", "wrongSheet", "(I)I"⟩, 18) := ⟨⟨by decide +kernel, by decide +kernel⟩, List.mem_of_getElem? (i := 725) (by decide +kernel), List.mem_of_getElem? (i := 1109) (by decide +kernel), List.mem_of_getElem? (i := 1110) (by decide +kernel)⟩
theorem lw_p70 : lw_okq (⟨"ComposedIntervalModel", "isBook", "(II)Z"⟩, 18) := ⟨⟨by decide +kernel, by decide +kernel⟩, List.mem_of_getElem? (i := 725) (by decide +kernel), List.mem_of_getElem? (i := 1133) (by decide +kernel), List.mem_of_getElem? (i := 1134) (by decide +kernel)⟩
def lw_privs_5 : List (MethodName × Nat) := [(⟨"ComposedIntervalModel", "personItem", "(I)V"⟩, 18), (⟨"ComposedIntervalModel", "must", "(Z)V"⟩, 18), (⟨"ComposedIntervalModel", "number", "(II)V"⟩, 18), (⟨"ComposedIntervalModel", "toldItem", "(III)V"⟩, 18), (⟨"ComposedIntervalModel", "putsBack", "()V"⟩, 18), (⟨"ComposedIntervalModel", "wrongSheet", "(I)I"⟩, 18), (⟨"ComposedIntervalModel", "isBook", "(II)Z"⟩, 18)]
theorem lw_r5 : ∀ q ∈ lw_privs_5, lw_okq q := List.forall_mem_cons.mpr ⟨lw_p64, List.forall_mem_cons.mpr ⟨lw_p65, List.forall_mem_cons.mpr ⟨lw_p66, List.forall_mem_cons.mpr ⟨lw_p67, List.forall_mem_cons.mpr ⟨lw_p68, List.forall_mem_cons.mpr ⟨lw_p69, List.forall_mem_cons.mpr ⟨lw_p70, fun _ h => absurd h List.not_mem_nil⟩⟩⟩⟩⟩⟩⟩
def lw_privs : List (MethodName × Nat) := lw_privs_1 ++ (lw_privs_2 ++ (lw_privs_3 ++ (lw_privs_4 ++ (lw_privs_5))))
def lw_tbl : List Cond := k2_sels lw_privs ++ tables_1
theorem lw_privs_ok : ∀ q ∈ lw_privs, lw_okq q := by
  show ∀ q ∈ lw_privs_1 ++ (lw_privs_2 ++ (lw_privs_3 ++ (lw_privs_4 ++ (lw_privs_5)))), lw_okq q
  exact List.forall_mem_append.mpr ⟨lw_r1, List.forall_mem_append.mpr ⟨lw_r2, List.forall_mem_append.mpr ⟨lw_r3, List.forall_mem_append.mpr ⟨lw_r4, lw_r5⟩⟩⟩⟩
-- ===== end of PART A; then your names; then what follows =====
end
section
def RX0 : String := "ComposedInterval$Cast"
def TX0 : u_T := fun k => match k with
  | 0 => ("ComposedInterval$Cast", "guest", "LComposedInterval$Guest;", true)
  | 1 => ("ComposedInterval$Cast", "enemy", "LComposedInterval$Guest;", true)
  | 2 => ("ComposedInterval$Cast", "singer", "LComposedInterval$Guest;", true)
  | 3 => ("ComposedInterval$Cast", "late", "LComposedInterval$Guest;", true)
  | 4 => ("ComposedInterval$Cast", "diva", "LComposedInterval$Guest;", true)
  | _ => ("ComposedInterval$Cast", "rival", "LComposedInterval$Guest;", true)
def tyX0 : Nat → FieldType := fun k => match k with
  | 0 => .object "ComposedInterval$Guest"
  | 1 => .object "ComposedInterval$Guest"
  | 2 => .object "ComposedInterval$Guest"
  | 3 => .object "ComposedInterval$Guest"
  | 4 => .object "ComposedInterval$Guest"
  | _ => .object "ComposedInterval$Guest"
abbrev wsX00 : List Cond := u_ws RX0 TX0 6
theorem nmX0 : ∀ a, a < 6 → ∀ b, b < 6 → a ≠ b → (TX0 a).2.1 ≠ (TX0 b).2.1 := by decide +kernel
theorem tyX0_ok : ∀ k, k < 6 → parseFieldDescriptor (TX0 k).2.2.1 = some (tyX0 k) := by decide +kernel
abbrev cX0_init : ByteArray := prog_2_method_1_code
def yX0_init : MethodName := ⟨RX0, "<init>", "()V"⟩
abbrev cX0_numbered : ByteArray := prog_2_method_2_code
def yX0_numbered : MethodName := ⟨RX0, "numbered", "(I)LComposedInterval$Guest;"⟩
abbrev cX0_nameOf : ByteArray := prog_2_method_3_code
def yX0_nameOf : MethodName := ⟨RX0, "nameOf", "(I)Ljava/lang/String;"⟩
def RX1 : String := "ComposedInterval$Diva"
def TX1 : u_T := fun k => match k with
  | _ => ("", "", "", false)
def tyX1 : Nat → FieldType := fun k => match k with
  | _ => .int
abbrev wsX10 : List Cond := u_ws RX1 TX1 0
theorem nmX1 : ∀ a, a < 0 → ∀ b, b < 0 → a ≠ b → (TX1 a).2.1 ≠ (TX1 b).2.1 := by decide +kernel
theorem tyX1_ok : ∀ k, k < 0 → parseFieldDescriptor (TX1 k).2.2.1 = some (tyX1 k) := by decide +kernel
abbrev cX1_init : ByteArray := prog_3_method_1_code
def yX1_init : MethodName := ⟨RX1, "<init>", "()V"⟩
abbrev cX1_due : ByteArray := prog_3_method_2_code
def yX1_due : MethodName := ⟨RX1, "due", "(LComposedInterval$Foyer;I)I"⟩
abbrev cX1_hears : ByteArray := prog_3_method_3_code
def yX1_hears : MethodName := ⟨RX1, "hears", "(LComposedInterval$Foyer;I)Z"⟩
abbrev cX1_walks : ByteArray := prog_3_method_4_code
def yX1_walks : MethodName := ⟨RX1, "walks", "(LComposedInterval$Foyer;II)I"⟩
abbrev cX1_spoils : ByteArray := prog_3_method_5_code
def yX1_spoils : MethodName := ⟨RX1, "spoils", "()I"⟩
def RX2 : String := "ComposedInterval$Enemy"
def TX2 : u_T := fun k => match k with
  | _ => ("", "", "", false)
def tyX2 : Nat → FieldType := fun k => match k with
  | _ => .int
abbrev wsX20 : List Cond := u_ws RX2 TX2 0
theorem nmX2 : ∀ a, a < 0 → ∀ b, b < 0 → a ≠ b → (TX2 a).2.1 ≠ (TX2 b).2.1 := by decide +kernel
theorem tyX2_ok : ∀ k, k < 0 → parseFieldDescriptor (TX2 k).2.2.1 = some (tyX2 k) := by decide +kernel
abbrev cX2_init : ByteArray := prog_4_method_1_code
def yX2_init : MethodName := ⟨RX2, "<init>", "()V"⟩
abbrev cX2_due : ByteArray := prog_4_method_2_code
def yX2_due : MethodName := ⟨RX2, "due", "(LComposedInterval$Foyer;I)I"⟩
abbrev cX2_walks : ByteArray := prog_4_method_3_code
def yX2_walks : MethodName := ⟨RX2, "walks", "(LComposedInterval$Foyer;II)I"⟩
abbrev cX2_spoils : ByteArray := prog_4_method_4_code
def yX2_spoils : MethodName := ⟨RX2, "spoils", "()I"⟩
def RX3 : String := "ComposedInterval$Foyer"
def TX3 : u_T := fun k => match k with
  | 0 => ("ComposedInterval$Foyer", "cast", "LComposedInterval$Cast;", true)
  | 1 => ("ComposedInterval$Foyer", "score", "[I", true)
  | 2 => ("ComposedInterval$Foyer", "bells", "[I", true)
  | 3 => ("ComposedInterval$Foyer", "kind", "[I", true)
  | 4 => ("ComposedInterval$Foyer", "at", "[I", true)
  | 5 => ("ComposedInterval$Foyer", "quick", "[I", true)
  | 6 => ("ComposedInterval$Foyer", "played", "[I", true)
  | 7 => ("ComposedInterval$Foyer", "spoilt", "[I", true)
  | 8 => ("ComposedInterval$Foyer", "minute", "I", false)
  | 9 => ("ComposedInterval$Foyer", "people", "I", false)
  | 10 => ("ComposedInterval$Foyer", "quarter", "I", false)
  | 11 => ("ComposedInterval$Foyer", "spot", "I", false)
  | 12 => ("ComposedInterval$Foyer", "ringing", "I", false)
  | 13 => ("ComposedInterval$Foyer", "wasDue", "[I", true)
  | _ => ("ComposedInterval$Foyer", "inTime", "I", false)
def tyX3 : Nat → FieldType := fun k => match k with
  | 0 => .object "ComposedInterval$Cast"
  | 1 => .array .int
  | 2 => .array .int
  | 3 => .array .int
  | 4 => .array .int
  | 5 => .array .int
  | 6 => .array .int
  | 7 => .array .int
  | 8 => .int
  | 9 => .int
  | 10 => .int
  | 11 => .int
  | 12 => .int
  | 13 => .array .int
  | _ => .int
abbrev wsX30 : List Cond := u_ws RX3 TX3 15
theorem nmX3 : ∀ a, a < 15 → ∀ b, b < 15 → a ≠ b → (TX3 a).2.1 ≠ (TX3 b).2.1 := by decide +kernel
theorem tyX3_ok : ∀ k, k < 15 → parseFieldDescriptor (TX3 k).2.2.1 = some (tyX3 k) := by decide +kernel
abbrev cX3_init : ByteArray := prog_5_method_1_code
def yX3_init : MethodName := ⟨RX3, "<init>", "(LComposedInterval$Cast;)V"⟩
abbrev cX3_become : ByteArray := prog_5_method_2_code
def yX3_become : MethodName := ⟨RX3, "become", "(LComposedInterval$Foyer;)V"⟩
abbrev cX3_admit : ByteArray := prog_5_method_3_code
def yX3_admit : MethodName := ⟨RX3, "admit", "(III)V"⟩
abbrev cX3_look : ByteArray := prog_5_method_4_code
def yX3_look : MethodName := ⟨RX3, "look", "()V"⟩
abbrev cX3_guest : ByteArray := prog_5_method_5_code
def yX3_guest : MethodName := ⟨RX3, "guest", "(I)LComposedInterval$Guest;"⟩
abbrev cX3_isDeceived : ByteArray := prog_5_method_6_code
def yX3_isDeceived : MethodName := ⟨RX3, "isDeceived", "(I)Z"⟩
abbrev cX3_dueOf : ByteArray := prog_5_method_7_code
def yX3_dueOf : MethodName := ⟨RX3, "dueOf", "(I)I"⟩
abbrev cX3_go : ByteArray := prog_5_method_8_code
def yX3_go : MethodName := ⟨RX3, "go", "(I)V"⟩
abbrev cX3_passMinute : ByteArray := prog_5_method_9_code
def yX3_passMinute : MethodName := ⟨RX3, "passMinute", "()V"⟩
abbrev cX3_markMinute : ByteArray := prog_5_method_10_code
def yX3_markMinute : MethodName := ⟨RX3, "markMinute", "()V"⟩
abbrev cX3_isBarred : ByteArray := prog_5_method_11_code
def yX3_isBarred : MethodName := ⟨RX3, "isBarred", "(II)Z"⟩
abbrev cX3_whoIsAt : ByteArray := prog_5_method_12_code
def yX3_whoIsAt : MethodName := ⟨RX3, "whoIsAt", "(I)I"⟩
abbrev cX3_whoIsDueHere : ByteArray := prog_5_method_13_code
def yX3_whoIsDueHere : MethodName := ⟨RX3, "whoIsDueHere", "()I"⟩
abbrev cX3_sumOf : ByteArray := prog_5_method_14_code
def yX3_sumOf : MethodName := ⟨RX3, "sumOf", "([I)I"⟩
abbrev cX3_sumHarmony : ByteArray := prog_5_method_15_code
def yX3_sumHarmony : MethodName := ⟨RX3, "sumHarmony", "()I"⟩
def RX4 : String := "ComposedInterval$Guest"
def TX4 : u_T := fun k => match k with
  | _ => ("", "", "", false)
def tyX4 : Nat → FieldType := fun k => match k with
  | _ => .int
abbrev wsX40 : List Cond := u_ws RX4 TX4 0
theorem nmX4 : ∀ a, a < 0 → ∀ b, b < 0 → a ≠ b → (TX4 a).2.1 ≠ (TX4 b).2.1 := by decide +kernel
theorem tyX4_ok : ∀ k, k < 0 → parseFieldDescriptor (TX4 k).2.2.1 = some (tyX4 k) := by decide +kernel
abbrev cX4_init : ByteArray := prog_6_method_1_code
def yX4_init : MethodName := ⟨RX4, "<init>", "()V"⟩
abbrev cX4_due : ByteArray := prog_6_method_2_code
def yX4_due : MethodName := ⟨RX4, "due", "(LComposedInterval$Foyer;I)I"⟩
abbrev cX4_hears : ByteArray := prog_6_method_3_code
def yX4_hears : MethodName := ⟨RX4, "hears", "(LComposedInterval$Foyer;I)Z"⟩
abbrev cX4_walks : ByteArray := prog_6_method_4_code
def yX4_walks : MethodName := ⟨RX4, "walks", "(LComposedInterval$Foyer;II)I"⟩
abbrev cX4_spoils : ByteArray := prog_6_method_5_code
def yX4_spoils : MethodName := ⟨RX4, "spoils", "()I"⟩
def RX5 : String := "ComposedInterval$Late"
def TX5 : u_T := fun k => match k with
  | _ => ("", "", "", false)
def tyX5 : Nat → FieldType := fun k => match k with
  | _ => .int
abbrev wsX50 : List Cond := u_ws RX5 TX5 0
theorem nmX5 : ∀ a, a < 0 → ∀ b, b < 0 → a ≠ b → (TX5 a).2.1 ≠ (TX5 b).2.1 := by decide +kernel
theorem tyX5_ok : ∀ k, k < 0 → parseFieldDescriptor (TX5 k).2.2.1 = some (tyX5 k) := by decide +kernel
abbrev cX5_init : ByteArray := prog_7_method_1_code
def yX5_init : MethodName := ⟨RX5, "<init>", "()V"⟩
abbrev cX5_due : ByteArray := prog_7_method_2_code
def yX5_due : MethodName := ⟨RX5, "due", "(LComposedInterval$Foyer;I)I"⟩
abbrev cX5_hears : ByteArray := prog_7_method_3_code
def yX5_hears : MethodName := ⟨RX5, "hears", "(LComposedInterval$Foyer;I)Z"⟩
abbrev cX5_walks : ByteArray := prog_7_method_4_code
def yX5_walks : MethodName := ⟨RX5, "walks", "(LComposedInterval$Foyer;II)I"⟩
abbrev cX5_spoils : ByteArray := prog_7_method_5_code
def yX5_spoils : MethodName := ⟨RX5, "spoils", "()I"⟩
def RX6 : String := "ComposedInterval$Rival"
def TX6 : u_T := fun k => match k with
  | _ => ("", "", "", false)
def tyX6 : Nat → FieldType := fun k => match k with
  | _ => .int
abbrev wsX60 : List Cond := u_ws RX6 TX6 0
theorem nmX6 : ∀ a, a < 0 → ∀ b, b < 0 → a ≠ b → (TX6 a).2.1 ≠ (TX6 b).2.1 := by decide +kernel
theorem tyX6_ok : ∀ k, k < 0 → parseFieldDescriptor (TX6 k).2.2.1 = some (tyX6 k) := by decide +kernel
abbrev cX6_init : ByteArray := prog_8_method_1_code
def yX6_init : MethodName := ⟨RX6, "<init>", "()V"⟩
abbrev cX6_due : ByteArray := prog_8_method_2_code
def yX6_due : MethodName := ⟨RX6, "due", "(LComposedInterval$Foyer;I)I"⟩
abbrev cX6_hears : ByteArray := prog_8_method_3_code
def yX6_hears : MethodName := ⟨RX6, "hears", "(LComposedInterval$Foyer;I)Z"⟩
abbrev cX6_spoils : ByteArray := prog_8_method_4_code
def yX6_spoils : MethodName := ⟨RX6, "spoils", "()I"⟩
def RX7 : String := "ComposedInterval$Sheet"
def TX7 : u_T := fun k => match k with
  | 0 => ("ComposedInterval$Sheet", "numbers", "[J", true)
  | 1 => ("ComposedInterval$Sheet", "bits", "I", false)
  | _ => ("ComposedInterval$Sheet", "size", "I", false)
def tyX7 : Nat → FieldType := fun k => match k with
  | 0 => .array .long
  | 1 => .int
  | _ => .int
abbrev wsX70 : List Cond := u_ws RX7 TX7 3
theorem nmX7 : ∀ a, a < 3 → ∀ b, b < 3 → a ≠ b → (TX7 a).2.1 ≠ (TX7 b).2.1 := by decide +kernel
theorem tyX7_ok : ∀ k, k < 3 → parseFieldDescriptor (TX7 k).2.2.1 = some (tyX7 k) := by decide +kernel
abbrev cX7_init : ByteArray := prog_9_method_1_code
def yX7_init : MethodName := ⟨RX7, "<init>", "()V"⟩
abbrev cX7_lay : ByteArray := prog_9_method_2_code
def yX7_lay : MethodName := ⟨RX7, "lay", "(II)V"⟩
abbrev cX7_isMissing : ByteArray := prog_9_method_3_code
def yX7_isMissing : MethodName := ⟨RX7, "isMissing", "()Z"⟩
abbrev cX7_narrow : ByteArray := prog_9_method_4_code
def yX7_narrow : MethodName := ⟨RX7, "narrow", "(J)J"⟩
abbrev cX7_hasRun : ByteArray := prog_9_method_5_code
def yX7_hasRun : MethodName := ⟨RX7, "hasRun", "(II)Z"⟩
def RX8 : String := "ComposedInterval$Singer"
def TX8 : u_T := fun k => match k with
  | _ => ("", "", "", false)
def tyX8 : Nat → FieldType := fun k => match k with
  | _ => .int
abbrev wsX80 : List Cond := u_ws RX8 TX8 0
theorem nmX8 : ∀ a, a < 0 → ∀ b, b < 0 → a ≠ b → (TX8 a).2.1 ≠ (TX8 b).2.1 := by decide +kernel
theorem tyX8_ok : ∀ k, k < 0 → parseFieldDescriptor (TX8 k).2.2.1 = some (tyX8 k) := by decide +kernel
abbrev cX8_init : ByteArray := prog_10_method_1_code
def yX8_init : MethodName := ⟨RX8, "<init>", "()V"⟩
abbrev cX8_due : ByteArray := prog_10_method_2_code
def yX8_due : MethodName := ⟨RX8, "due", "(LComposedInterval$Foyer;I)I"⟩
abbrev cX8_hears : ByteArray := prog_10_method_3_code
def yX8_hears : MethodName := ⟨RX8, "hears", "(LComposedInterval$Foyer;I)Z"⟩
abbrev cX8_walks : ByteArray := prog_10_method_4_code
def yX8_walks : MethodName := ⟨RX8, "walks", "(LComposedInterval$Foyer;II)I"⟩
abbrev cX8_spoils : ByteArray := prog_10_method_5_code
def yX8_spoils : MethodName := ⟨RX8, "spoils", "()I"⟩
def RX9 : String := "ComposedInterval$Tape"
def TX9 : u_T := fun k => match k with
  | 0 => ("ComposedInterval$Tape", "bytes", "[I", true)
  | 1 => ("ComposedInterval$Tape", "length", "I", false)
  | 2 => ("ComposedInterval$Tape", "token", "I", false)
  | 3 => ("ComposedInterval$Tape", "start", "I", false)
  | 4 => ("ComposedInterval$Tape", "next", "I", false)
  | _ => ("ComposedInterval$Tape", "value", "I", false)
def tyX9 : Nat → FieldType := fun k => match k with
  | 0 => .array .int
  | 1 => .int
  | 2 => .int
  | 3 => .int
  | 4 => .int
  | _ => .int
abbrev wsX90 : List Cond := u_ws RX9 TX9 6
theorem nmX9 : ∀ a, a < 6 → ∀ b, b < 6 → a ≠ b → (TX9 a).2.1 ≠ (TX9 b).2.1 := by decide +kernel
theorem tyX9_ok : ∀ k, k < 6 → parseFieldDescriptor (TX9 k).2.2.1 = some (tyX9 k) := by decide +kernel
abbrev cX9_init : ByteArray := prog_11_method_1_code
def yX9_init : MethodName := ⟨RX9, "<init>", "()V"⟩
abbrev cX9_append : ByteArray := prog_11_method_2_code
def yX9_append : MethodName := ⟨RX9, "append", "(I)V"⟩
abbrev cX9_perform : ByteArray := prog_11_method_3_code
def yX9_perform : MethodName := ⟨RX9, "perform", "(LComposedInterval$Foyer;)I"⟩
abbrev cX9_takeItem : ByteArray := prog_11_method_4_code
def yX9_takeItem : MethodName := ⟨RX9, "takeItem", "(LComposedInterval$Foyer;)Z"⟩
abbrev cX9_takeScore : ByteArray := prog_11_method_5_code
def yX9_takeScore : MethodName := ⟨RX9, "takeScore", "(LComposedInterval$Foyer;)Z"⟩
abbrev cX9_takeBell : ByteArray := prog_11_method_6_code
def yX9_takeBell : MethodName := ⟨RX9, "takeBell", "(LComposedInterval$Foyer;)Z"⟩
abbrev cX9_takePerson : ByteArray := prog_11_method_7_code
def yX9_takePerson : MethodName := ⟨RX9, "takePerson", "(LComposedInterval$Foyer;I)Z"⟩
abbrev cX9_isNumber : ByteArray := prog_11_method_8_code
def yX9_isNumber : MethodName := ⟨RX9, "isNumber", "(II)Z"⟩
abbrev cX9_isWord : ByteArray := prog_11_method_9_code
def yX9_isWord : MethodName := ⟨RX9, "isWord", "(Ljava/lang/String;)Z"⟩
abbrev cX9_advance : ByteArray := prog_11_method_10_code
def yX9_advance : MethodName := ⟨RX9, "advance", "()V"⟩
abbrev cX9_isLetter : ByteArray := prog_11_method_11_code
def yX9_isLetter : MethodName := ⟨RX9, "isLetter", "(I)Z"⟩
abbrev cX9_isDigit : ByteArray := prog_11_method_12_code
def yX9_isDigit : MethodName := ⟨RX9, "isDigit", "(I)Z"⟩
def RX10 : String := "ComposedInterval"
def TX10 : u_T := fun k => match k with
  | 0 => ("ComposedInterval", "present", "LComposedInterval$Foyer;", true)
  | 1 => ("ComposedInterval", "trial", "LComposedInterval$Foyer;", true)
  | 2 => ("ComposedInterval", "kept", "LComposedInterval$Foyer;", true)
  | 3 => ("ComposedInterval", "tape", "LComposedInterval$Tape;", true)
  | 4 => ("ComposedInterval", "sheets", "[LComposedInterval$Sheet;", true)
  | 5 => ("ComposedInterval", "told", "[I", true)
  | _ => ("ComposedInterval", "isKept", "Z", false)
def tyX10 : Nat → FieldType := fun k => match k with
  | 0 => .object "ComposedInterval$Foyer"
  | 1 => .object "ComposedInterval$Foyer"
  | 2 => .object "ComposedInterval$Foyer"
  | 3 => .object "ComposedInterval$Tape"
  | 4 => .array (.object "ComposedInterval$Sheet")
  | 5 => .array .int
  | _ => .boolean
abbrev wsX100 : List Cond := u_ws RX10 TX10 7
theorem nmX10 : ∀ a, a < 7 → ∀ b, b < 7 → a ≠ b → (TX10 a).2.1 ≠ (TX10 b).2.1 := by decide +kernel
theorem tyX10_ok : ∀ k, k < 7 → parseFieldDescriptor (TX10 k).2.2.1 = some (tyX10 k) := by decide +kernel
abbrev cX10_init : ByteArray := prog_1_method_1_code
def yX10_init : MethodName := ⟨RX10, "<init>", "()V"⟩
abbrev cX10_score : ByteArray := prog_1_method_2_code
def yX10_score : MethodName := ⟨RX10, "score", "(II)I"⟩
abbrev cX10_bell : ByteArray := prog_1_method_3_code
def yX10_bell : MethodName := ⟨RX10, "bell", "(II)I"⟩
abbrev cX10_now : ByteArray := prog_1_method_4_code
def yX10_now : MethodName := ⟨RX10, "now", "(I)I"⟩
abbrev cX10_who : ByteArray := prog_1_method_5_code
def yX10_who : MethodName := ⟨RX10, "who", "(I)I"⟩
abbrev cX10_person : ByteArray := prog_1_method_6_code
def yX10_person : MethodName := ⟨RX10, "person", "(II)I"⟩
abbrev cX10_of : ByteArray := prog_1_method_7_code
def yX10_of : MethodName := ⟨RX10, "of", "(II)I"⟩
abbrev cX10_set : ByteArray := prog_1_method_8_code
def yX10_set : MethodName := ⟨RX10, "set", "(III)I"⟩
abbrev cX10_turn : ByteArray := prog_1_method_9_code
def yX10_turn : MethodName := ⟨RX10, "turn", "(II)I"⟩
abbrev cX10_as : ByteArray := prog_1_method_10_code
def yX10_as : MethodName := ⟨RX10, "as", "(II)I"⟩
abbrev cX10_minutes : ByteArray := prog_1_method_11_code
def yX10_minutes : MethodName := ⟨RX10, "minutes", "(I)I"⟩
abbrev cX10_on : ByteArray := prog_1_method_12_code
def yX10_on : MethodName := ⟨RX10, "on", "(III)I"⟩
abbrev cX10_harmony : ByteArray := prog_1_method_13_code
def yX10_harmony : MethodName := ⟨RX10, "harmony", "(I)I"⟩
abbrev cX10_comes : ByteArray := prog_1_method_14_code
def yX10_comes : MethodName := ⟨RX10, "comes", "(II)I"⟩
abbrev cX10_plays : ByteArray := prog_1_method_15_code
def yX10_plays : MethodName := ⟨RX10, "plays", "(I)I"⟩
abbrev cX10_meet : ByteArray := prog_1_method_16_code
def yX10_meet : MethodName := ⟨RX10, "meet", "(II)I"⟩
abbrev cX10_begin : ByteArray := prog_1_method_17_code
def yX10_begin : MethodName := ⟨RX10, "begin", "(II)I"⟩
abbrev cX10_kind : ByteArray := prog_1_method_18_code
def yX10_kind : MethodName := ⟨RX10, "kind", "(II)I"⟩
abbrev cX10_quick : ByteArray := prog_1_method_19_code
def yX10_quick : MethodName := ⟨RX10, "quick", "(III)I"⟩
abbrev cX10_compose : ByteArray := prog_1_method_20_code
def yX10_compose : MethodName := ⟨RX10, "compose", "(II)I"⟩
abbrev cX10_deceive : ByteArray := prog_1_method_21_code
def yX10_deceive : MethodName := ⟨RX10, "deceive", "(II)I"⟩
abbrev cX10_worst : ByteArray := prog_1_method_22_code
def yX10_worst : MethodName := ⟨RX10, "worst", "(I)I"⟩
abbrev cX10_feed : ByteArray := prog_1_method_23_code
def yX10_feed : MethodName := ⟨RX10, "feed", "(II)I"⟩
abbrev cX10_wipe : ByteArray := prog_1_method_24_code
def yX10_wipe : MethodName := ⟨RX10, "wipe", "()I"⟩
abbrev cX10_interval : ByteArray := prog_1_method_25_code
def yX10_interval : MethodName := ⟨RX10, "interval", "()I"⟩
abbrev cX10_sheet : ByteArray := prog_1_method_26_code
def yX10_sheet : MethodName := ⟨RX10, "sheet", "(III)I"⟩
abbrev cX10_write : ByteArray := prog_1_method_27_code
def yX10_write : MethodName := ⟨RX10, "write", "(IIJ)J"⟩
abbrev cX10_copy : ByteArray := prog_1_method_28_code
def yX10_copy : MethodName := ⟨RX10, "copy", "(IIIII)I"⟩
abbrev cX10_lays : ByteArray := prog_1_method_29_code
def yX10_lays : MethodName := ⟨RX10, "lays", "(I)I"⟩
abbrev cX10_book : ByteArray := prog_1_method_30_code
def yX10_book : MethodName := ⟨RX10, "book", "(II)I"⟩
abbrev cX10_read : ByteArray := prog_1_method_31_code
def yX10_read : MethodName := ⟨RX10, "read", "(II)I"⟩
abbrev cX10_image : ByteArray := prog_1_method_32_code
def yX10_image : MethodName := ⟨RX10, "image", "()I"⟩
abbrev cX10_undo : ByteArray := prog_1_method_33_code
def yX10_undo : MethodName := ⟨RX10, "undo", "()I"⟩
abbrev cX10_tear : ByteArray := prog_1_method_34_code
def yX10_tear : MethodName := ⟨RX10, "tear", "()I"⟩
abbrev cX10_count : ByteArray := prog_1_method_35_code
def yX10_count : MethodName := ⟨RX10, "count", "(I)I"⟩
abbrev cX10_status : ByteArray := prog_1_method_36_code
def yX10_status : MethodName := ⟨RX10, "status", "(I)I"⟩
abbrev cX10_tell : ByteArray := prog_1_method_37_code
def yX10_tell : MethodName := ⟨RX10, "tell", "(I)I"⟩
abbrev cX10_bestPlayed : ByteArray := prog_1_method_38_code
def yX10_bestPlayed : MethodName := ⟨RX10, "bestPlayed", "([IIII)I"⟩
abbrev cX10_sheetFinding : ByteArray := prog_1_method_39_code
def yX10_sheetFinding : MethodName := ⟨RX10, "sheetFinding", "(I)I"⟩
abbrev cX10_goesAsTold : ByteArray := prog_1_method_40_code
def yX10_goesAsTold : MethodName := ⟨RX10, "goesAsTold", "(LComposedInterval$Sheet;I)Z"⟩
abbrev cX10_isNobody : ByteArray := prog_1_method_41_code
def yX10_isNobody : MethodName := ⟨RX10, "isNobody", "(I)Z"⟩
abbrev cX10_isOutside : ByteArray := prog_1_method_42_code
def yX10_isOutside : MethodName := ⟨RX10, "isOutside", "(III)Z"⟩
abbrev cX10_isNoSpot : ByteArray := prog_1_method_43_code
def yX10_isNoSpot : MethodName := ⟨RX10, "isNoSpot", "(I)Z"⟩
abbrev cX10_isNoKind : ByteArray := prog_1_method_44_code
def yX10_isNoKind : MethodName := ⟨RX10, "isNoKind", "(I)Z"⟩
abbrev cX10_isNoSheet : ByteArray := prog_1_method_45_code
def yX10_isNoSheet : MethodName := ⟨RX10, "isNoSheet", "(I)Z"⟩
abbrev cX10_isOfKind : ByteArray := prog_1_method_46_code
def yX10_isOfKind : MethodName := ⟨RX10, "isOfKind", "(II)Z"⟩
abbrev cX10_exchange : ByteArray := prog_1_method_47_code
def yX10_exchange : MethodName := ⟨RX10, "exchange", "([III)I"⟩
def RX11 : String := "ComposedIntervalModel"
def TX11 : u_T := fun k => match k with
  | 0 => ("ComposedIntervalModel", "s", "[I", true)
  | 1 => ("ComposedIntervalModel", "keptS", "[I", true)
  | 2 => ("ComposedIntervalModel", "other", "[I", true)
  | 3 => ("ComposedIntervalModel", "aside", "[I", true)
  | 4 => ("ComposedIntervalModel", "statuses", "[I", true)
  | 5 => ("ComposedIntervalModel", "due", "[I", true)
  | 6 => ("ComposedIntervalModel", "isKept", "Z", false)
  | 7 => ("ComposedIntervalModel", "inTime", "I", false)
  | 8 => ("ComposedIntervalModel", "tape", "[I", true)
  | 9 => ("ComposedIntervalModel", "taped", "I", false)
  | 10 => ("ComposedIntervalModel", "from", "I", false)
  | 11 => ("ComposedIntervalModel", "to", "I", false)
  | 12 => ("ComposedIntervalModel", "value", "I", false)
  | 13 => ("ComposedIntervalModel", "isWrong", "Z", false)
  | 14 => ("ComposedIntervalModel", "bitsOf", "[I", true)
  | 15 => ("ComposedIntervalModel", "sizeOf", "[I", true)
  | 16 => ("ComposedIntervalModel", "numbers", "[J", true)
  | _ => ("ComposedIntervalModel", "moved", "[J", true)
def tyX11 : Nat → FieldType := fun k => match k with
  | 0 => .array .int
  | 1 => .array .int
  | 2 => .array .int
  | 3 => .array .int
  | 4 => .array .int
  | 5 => .array .int
  | 6 => .boolean
  | 7 => .int
  | 8 => .array .int
  | 9 => .int
  | 10 => .int
  | 11 => .int
  | 12 => .int
  | 13 => .boolean
  | 14 => .array .int
  | 15 => .array .int
  | 16 => .array .long
  | _ => .array .long
abbrev wsX110 : List Cond := u_ws RX11 TX11 18
theorem nmX11 : ∀ a, a < 18 → ∀ b, b < 18 → a ≠ b → (TX11 a).2.1 ≠ (TX11 b).2.1 := by decide +kernel
theorem tyX11_ok : ∀ k, k < 18 → parseFieldDescriptor (TX11 k).2.2.1 = some (tyX11 k) := by decide +kernel
abbrev cX11_init : ByteArray := prog_13_method_1_code
def yX11_init : MethodName := ⟨RX11, "<init>", "()V"⟩
abbrev cX11_in : ByteArray := prog_13_method_2_code
def yX11_in : MethodName := ⟨RX11, "in", "(JJJ)Z"⟩
abbrev cX11_finds : ByteArray := prog_13_method_3_code
def yX11_finds : MethodName := ⟨RX11, "finds", "(I)I"⟩
abbrev cX11_saves : ByteArray := prog_13_method_4_code
def yX11_saves : MethodName := ⟨RX11, "saves", "()V"⟩
abbrev cX11_putsBack : ByteArray := prog_13_method_5_code
def yX11_putsBack : MethodName := ⟨RX11, "putsBack", "()V"⟩
abbrev cX11_laysAside : ByteArray := prog_13_method_6_code
def yX11_laysAside : MethodName := ⟨RX11, "laysAside", "()V"⟩
abbrev cX11_takesBack : ByteArray := prog_13_method_7_code
def yX11_takesBack : MethodName := ⟨RX11, "takesBack", "(I)I"⟩
abbrev cX11_becomes : ByteArray := prog_13_method_8_code
def yX11_becomes : MethodName := ⟨RX11, "becomes", "(II)I"⟩
abbrev cX11_spot : ByteArray := prog_13_method_9_code
def yX11_spot : MethodName := ⟨RX11, "spot", "(II)I"⟩
abbrev cX11_its : ByteArray := prog_13_method_10_code
def yX11_its : MethodName := ⟨RX11, "its", "(II)I"⟩
abbrev cX11_isPerson : ByteArray := prog_13_method_11_code
def yX11_isPerson : MethodName := ⟨RX11, "isPerson", "(I)Z"⟩
abbrev cX11_isSpot : ByteArray := prog_13_method_12_code
def yX11_isSpot : MethodName := ⟨RX11, "isSpot", "(I)Z"⟩
abbrev cX11_isQuarter : ByteArray := prog_13_method_13_code
def yX11_isQuarter : MethodName := ⟨RX11, "isQuarter", "(I)Z"⟩
abbrev cX11_isBell : ByteArray := prog_13_method_14_code
def yX11_isBell : MethodName := ⟨RX11, "isBell", "(I)Z"⟩
abbrev cX11_isKind : ByteArray := prog_13_method_15_code
def yX11_isKind : MethodName := ⟨RX11, "isKind", "(I)Z"⟩
abbrev cX11_together : ByteArray := prog_13_method_16_code
def yX11_together : MethodName := ⟨RX11, "together", "(I)I"⟩
abbrev cX11_harmonyNow : ByteArray := prog_13_method_17_code
def yX11_harmonyNow : MethodName := ⟨RX11, "harmonyNow", "()I"⟩
abbrev cX11_score : ByteArray := prog_13_method_18_code
def yX11_score : MethodName := ⟨RX11, "score", "(II)I"⟩
abbrev cX11_bell : ByteArray := prog_13_method_19_code
def yX11_bell : MethodName := ⟨RX11, "bell", "(II)I"⟩
abbrev cX11_quarter : ByteArray := prog_13_method_20_code
def yX11_quarter : MethodName := ⟨RX11, "quarter", "()I"⟩
abbrev cX11_ringing : ByteArray := prog_13_method_21_code
def yX11_ringing : MethodName := ⟨RX11, "ringing", "()I"⟩
abbrev cX11_dueOnes : ByteArray := prog_13_method_22_code
def yX11_dueOnes : MethodName := ⟨RX11, "dueOnes", "()I"⟩
abbrev cX11_now : ByteArray := prog_13_method_23_code
def yX11_now : MethodName := ⟨RX11, "now", "(I)I"⟩
abbrev cX11_whoAt : ByteArray := prog_13_method_24_code
def yX11_whoAt : MethodName := ⟨RX11, "whoAt", "(I)I"⟩
abbrev cX11_who : ByteArray := prog_13_method_25_code
def yX11_who : MethodName := ⟨RX11, "who", "(I)I"⟩
abbrev cX11_isHearing : ByteArray := prog_13_method_26_code
def yX11_isHearing : MethodName := ⟨RX11, "isHearing", "(I)Z"⟩
abbrev cX11_writtenFor : ByteArray := prog_13_method_27_code
def yX11_writtenFor : MethodName := ⟨RX11, "writtenFor", "(I)I"⟩
abbrev cX11_dueOf : ByteArray := prog_13_method_28_code
def yX11_dueOf : MethodName := ⟨RX11, "dueOf", "(I)I"⟩
abbrev cX11_signOf : ByteArray := prog_13_method_29_code
def yX11_signOf : MethodName := ⟨RX11, "signOf", "(I)I"⟩
abbrev cX11_isBarred : ByteArray := prog_13_method_30_code
def yX11_isBarred : MethodName := ⟨RX11, "isBarred", "(I)Z"⟩
abbrev cX11_walksOf : ByteArray := prog_13_method_31_code
def yX11_walksOf : MethodName := ⟨RX11, "walksOf", "(I)I"⟩
abbrev cX11_spoilsOf : ByteArray := prog_13_method_32_code
def yX11_spoilsOf : MethodName := ⟨RX11, "spoilsOf", "(I)I"⟩
abbrev cX11_adds : ByteArray := prog_13_method_33_code
def yX11_adds : MethodName := ⟨RX11, "adds", "(II)I"⟩
abbrev cX11_person : ByteArray := prog_13_method_34_code
def yX11_person : MethodName := ⟨RX11, "person", "(II)I"⟩
abbrev cX11_of : ByteArray := prog_13_method_35_code
def yX11_of : MethodName := ⟨RX11, "of", "(II)I"⟩
abbrev cX11_set : ByteArray := prog_13_method_36_code
def yX11_set : MethodName := ⟨RX11, "set", "(III)I"⟩
abbrev cX11_turn : ByteArray := prog_13_method_37_code
def yX11_turn : MethodName := ⟨RX11, "turn", "(II)I"⟩
abbrev cX11_isUnder : ByteArray := prog_13_method_38_code
def yX11_isUnder : MethodName := ⟨RX11, "isUnder", "(II)Z"⟩
abbrev cX11_as : ByteArray := prog_13_method_39_code
def yX11_as : MethodName := ⟨RX11, "as", "(II)I"⟩
abbrev cX11_walks : ByteArray := prog_13_method_40_code
def yX11_walks : MethodName := ⟨RX11, "walks", "(I)V"⟩
abbrev cX11_minute : ByteArray := prog_13_method_41_code
def yX11_minute : MethodName := ⟨RX11, "minute", "()V"⟩
abbrev cX11_minutesGo : ByteArray := prog_13_method_42_code
def yX11_minutesGo : MethodName := ⟨RX11, "minutesGo", "(I)V"⟩
abbrev cX11_minutes : ByteArray := prog_13_method_43_code
def yX11_minutes : MethodName := ⟨RX11, "minutes", "(I)I"⟩
abbrev cX11_isAhead : ByteArray := prog_13_method_44_code
def yX11_isAhead : MethodName := ⟨RX11, "isAhead", "(I)Z"⟩
abbrev cX11_behind : ByteArray := prog_13_method_45_code
def yX11_behind : MethodName := ⟨RX11, "behind", "(II)I"⟩
abbrev cX11_on : ByteArray := prog_13_method_46_code
def yX11_on : MethodName := ⟨RX11, "on", "(III)I"⟩
abbrev cX11_harmony : ByteArray := prog_13_method_47_code
def yX11_harmony : MethodName := ⟨RX11, "harmony", "(I)I"⟩
abbrev cX11_toldAt : ByteArray := prog_13_method_48_code
def yX11_toldAt : MethodName := ⟨RX11, "toldAt", "(I)I"⟩
abbrev cX11_comes : ByteArray := prog_13_method_49_code
def yX11_comes : MethodName := ⟨RX11, "comes", "(II)I"⟩
abbrev cX11_plays : ByteArray := prog_13_method_50_code
def yX11_plays : MethodName := ⟨RX11, "plays", "(I)I"⟩
abbrev cX11_meet : ByteArray := prog_13_method_51_code
def yX11_meet : MethodName := ⟨RX11, "meet", "(II)I"⟩
abbrev cX11_isSoon : ByteArray := prog_13_method_52_code
def yX11_isSoon : MethodName := ⟨RX11, "isSoon", "(I)Z"⟩
abbrev cX11_mostBy : ByteArray := prog_13_method_53_code
def yX11_mostBy : MethodName := ⟨RX11, "mostBy", "(IIIII)I"⟩
abbrev cX11_begin : ByteArray := prog_13_method_54_code
def yX11_begin : MethodName := ⟨RX11, "begin", "(II)I"⟩
abbrev cX11_kind : ByteArray := prog_13_method_55_code
def yX11_kind : MethodName := ⟨RX11, "kind", "(II)I"⟩
abbrev cX11_quick : ByteArray := prog_13_method_56_code
def yX11_quick : MethodName := ⟨RX11, "quick", "(III)I"⟩
abbrev cX11_compose : ByteArray := prog_13_method_57_code
def yX11_compose : MethodName := ⟨RX11, "compose", "(II)I"⟩
abbrev cX11_deceive : ByteArray := prog_13_method_58_code
def yX11_deceive : MethodName := ⟨RX11, "deceive", "(II)I"⟩
abbrev cX11_worst : ByteArray := prog_13_method_59_code
def yX11_worst : MethodName := ⟨RX11, "worst", "(I)I"⟩
abbrev cX11_feed : ByteArray := prog_13_method_60_code
def yX11_feed : MethodName := ⟨RX11, "feed", "(II)I"⟩
abbrev cX11_wipe : ByteArray := prog_13_method_61_code
def yX11_wipe : MethodName := ⟨RX11, "wipe", "()I"⟩
abbrev cX11_byteAt : ByteArray := prog_13_method_62_code
def yX11_byteAt : MethodName := ⟨RX11, "byteAt", "(I)I"⟩
abbrev cX11_isLetter : ByteArray := prog_13_method_63_code
def yX11_isLetter : MethodName := ⟨RX11, "isLetter", "(I)Z"⟩
abbrev cX11_isDigit : ByteArray := prog_13_method_64_code
def yX11_isDigit : MethodName := ⟨RX11, "isDigit", "(I)Z"⟩
abbrev cX11_token : ByteArray := prog_13_method_65_code
def yX11_token : MethodName := ⟨RX11, "token", "()V"⟩
abbrev cX11_must : ByteArray := prog_13_method_66_code
def yX11_must : MethodName := ⟨RX11, "must", "(Z)V"⟩
abbrev cX11_word : ByteArray := prog_13_method_67_code
def yX11_word : MethodName := ⟨RX11, "word", "()J"⟩
abbrev cX11_number : ByteArray := prog_13_method_68_code
def yX11_number : MethodName := ⟨RX11, "number", "(II)V"⟩
abbrev cX11_kindHere : ByteArray := prog_13_method_69_code
def yX11_kindHere : MethodName := ⟨RX11, "kindHere", "()I"⟩
abbrev cX11_personItem : ByteArray := prog_13_method_70_code
def yX11_personItem : MethodName := ⟨RX11, "personItem", "(I)V"⟩
abbrev cX11_toldItem : ByteArray := prog_13_method_71_code
def yX11_toldItem : MethodName := ⟨RX11, "toldItem", "(III)V"⟩
abbrev cX11_item : ByteArray := prog_13_method_72_code
def yX11_item : MethodName := ⟨RX11, "item", "()V"⟩
abbrev cX11_interval : ByteArray := prog_13_method_73_code
def yX11_interval : MethodName := ⟨RX11, "interval", "()I"⟩
abbrev cX11_isOne : ByteArray := prog_13_method_74_code
def yX11_isOne : MethodName := ⟨RX11, "isOne", "(I)Z"⟩
abbrev cX11_sheet : ByteArray := prog_13_method_75_code
def yX11_sheet : MethodName := ⟨RX11, "sheet", "(III)I"⟩
abbrev cX11_narrowed : ByteArray := prog_13_method_76_code
def yX11_narrowed : MethodName := ⟨RX11, "narrowed", "(IJ)J"⟩
abbrev cX11_wrongSheet : ByteArray := prog_13_method_77_code
def yX11_wrongSheet : MethodName := ⟨RX11, "wrongSheet", "(I)I"⟩
abbrev cX11_write : ByteArray := prog_13_method_78_code
def yX11_write : MethodName := ⟨RX11, "write", "(IIJ)J"⟩
abbrev cX11_copy : ByteArray := prog_13_method_79_code
def yX11_copy : MethodName := ⟨RX11, "copy", "(IIIII)I"⟩
abbrev cX11_lays : ByteArray := prog_13_method_80_code
def yX11_lays : MethodName := ⟨RX11, "lays", "(I)I"⟩
abbrev cX11_book : ByteArray := prog_13_method_81_code
def yX11_book : MethodName := ⟨RX11, "book", "(II)I"⟩
abbrev cX11_isBook : ByteArray := prog_13_method_82_code
def yX11_isBook : MethodName := ⟨RX11, "isBook", "(II)Z"⟩
abbrev cX11_read : ByteArray := prog_13_method_83_code
def yX11_read : MethodName := ⟨RX11, "read", "(II)I"⟩
abbrev cX11_image : ByteArray := prog_13_method_84_code
def yX11_image : MethodName := ⟨RX11, "image", "()I"⟩
abbrev cX11_undo : ByteArray := prog_13_method_85_code
def yX11_undo : MethodName := ⟨RX11, "undo", "()I"⟩
abbrev cX11_tear : ByteArray := prog_13_method_86_code
def yX11_tear : MethodName := ⟨RX11, "tear", "()I"⟩
abbrev cX11_count : ByteArray := prog_13_method_87_code
def yX11_count : MethodName := ⟨RX11, "count", "(I)I"⟩
abbrev cX11_status : ByteArray := prog_13_method_88_code
def yX11_status : MethodName := ⟨RX11, "status", "(I)I"⟩
def RJx145de : String := "java/io/Serializable"
def TJx145de : u_T := fun k => match k with
  | _ => ("", "", "", false)
def tyJx145de : Nat → FieldType := fun k => match k with
  | _ => .int
theorem nmJx145de : ∀ a, a < 0 → ∀ b, b < 0 → a ≠ b → (TJx145de a).2.1 ≠ (TJx145de b).2.1 := by decide +kernel
theorem tyJx145de_ok : ∀ k, k < 0 → parseFieldDescriptor (TJx145de k).2.2.1 = some (tyJx145de k) := by decide +kernel
def RJx9f9b0 : String := "java/lang/CharSequence"
def TJx9f9b0 : u_T := fun k => match k with
  | _ => ("", "", "", false)
def tyJx9f9b0 : Nat → FieldType := fun k => match k with
  | _ => .int
theorem nmJx9f9b0 : ∀ a, a < 0 → ∀ b, b < 0 → a ≠ b → (TJx9f9b0 a).2.1 ≠ (TJx9f9b0 b).2.1 := by decide +kernel
theorem tyJx9f9b0_ok : ∀ k, k < 0 → parseFieldDescriptor (TJx9f9b0 k).2.2.1 = some (tyJx9f9b0 k) := by decide +kernel
def RJxb160c : String := "java/lang/Comparable"
def TJxb160c : u_T := fun k => match k with
  | _ => ("", "", "", false)
def tyJxb160c : Nat → FieldType := fun k => match k with
  | _ => .int
theorem nmJxb160c : ∀ a, a < 0 → ∀ b, b < 0 → a ≠ b → (TJxb160c a).2.1 ≠ (TJxb160c b).2.1 := by decide +kernel
theorem tyJxb160c_ok : ∀ k, k < 0 → parseFieldDescriptor (TJxb160c k).2.2.1 = some (tyJxb160c k) := by decide +kernel
def RJ9 : String := "java/lang/Math"
def TJ9 : u_T := fun k => match k with
  | _ => ("", "", "", false)
def tyJ9 : Nat → FieldType := fun k => match k with
  | _ => .int
theorem nmJ9 : ∀ a, a < 0 → ∀ b, b < 0 → a ≠ b → (TJ9 a).2.1 ≠ (TJ9 b).2.1 := by decide +kernel
theorem tyJ9_ok : ∀ k, k < 0 → parseFieldDescriptor (TJ9 k).2.2.1 = some (tyJ9 k) := by decide +kernel
abbrev cJ9_abs_0f7a4 : ByteArray := prog_14_method_59_code
def yJ9_abs_0f7a4 : MethodName := ⟨RJ9, "abs", "(I)I"⟩
abbrev cJ9_max_7cf53 : ByteArray := prog_14_method_65_code
def yJ9_max_7cf53 : MethodName := ⟨RJ9, "max", "(II)I"⟩
abbrev cJ9_min_7cf53 : ByteArray := prog_14_method_69_code
def yJ9_min_7cf53 : MethodName := ⟨RJ9, "min", "(II)I"⟩
def RJ0 : String := "java/lang/String"
def TJ0 : u_T := fun k => match k with
  | _ => ("", "", "", false)
def tyJ0 : Nat → FieldType := fun k => match k with
  | _ => .int
theorem nmJ0 : ∀ a, a < 0 → ∀ b, b < 0 → a ≠ b → (TJ0 a).2.1 ≠ (TJ0 b).2.1 := by decide +kernel
theorem tyJ0_ok : ∀ k, k < 0 → parseFieldDescriptor (TJ0 k).2.2.1 = some (tyJ0 k) := by decide +kernel
abbrev cJ0_length_8abf5 : ByteArray := prog_15_method_54_code
def yJ0_length_8abf5 : MethodName := ⟨RJ0, "length", "()I"⟩
abbrev cJ0_charAt_5068e : ByteArray := prog_15_method_56_code
def yJ0_charAt_5068e : MethodName := ⟨RJ0, "charAt", "(I)C"⟩
abbrev cJ0_coder_7d493 : ByteArray := prog_15_method_152_code
def yJ0_coder_7d493 : MethodName := ⟨RJ0, "coder", "()B"⟩
abbrev cJ0_isLatin1_aae02 : ByteArray := prog_15_method_154_code
def yJ0_isLatin1_aae02 : MethodName := ⟨RJ0, "isLatin1", "()Z"⟩
abbrev cJ0_checkIndex_df160 : ByteArray := prog_15_method_155_code
def yJ0_checkIndex_df160 : MethodName := ⟨RJ0, "checkIndex", "(II)V"⟩
def RJ1 : String := "java/lang/StringLatin1"
def TJ1 : u_T := fun k => match k with
  | _ => ("", "", "", false)
def tyJ1 : Nat → FieldType := fun k => match k with
  | _ => .int
theorem nmJ1 : ∀ a, a < 0 → ∀ b, b < 0 → a ≠ b → (TJ1 a).2.1 ≠ (TJ1 b).2.1 := by decide +kernel
theorem tyJ1_ok : ∀ k, k < 0 → parseFieldDescriptor (TJ1 k).2.2.1 = some (tyJ1 k) := by decide +kernel
abbrev cJ1_charAt_3b067 : ByteArray := prog_16_method_2_code
def yJ1_charAt_3b067 : MethodName := ⟨RJ1, "charAt", "([BI)C"⟩
def RJ2 : String := "java/lang/StringUTF16"
def TJ2 : u_T := fun k => match k with
  | _ => ("", "", "", false)
def tyJ2 : Nat → FieldType := fun k => match k with
  | _ => .int
theorem nmJ2 : ∀ a, a < 0 → ∀ b, b < 0 → a ≠ b → (TJ2 a).2.1 ≠ (TJ2 b).2.1 := by decide +kernel
theorem tyJ2_ok : ∀ k, k < 0 → parseFieldDescriptor (TJ2 k).2.2.1 = some (tyJ2 k) := by decide +kernel
abbrev cJ2_getChar_3b067 : ByteArray := prog_17_method_5_code
def yJ2_getChar_3b067 : MethodName := ⟨RJ2, "getChar", "([BI)C"⟩
abbrev cJ2_length_9d52b : ByteArray := prog_17_method_6_code
def yJ2_length_9d52b : MethodName := ⟨RJ2, "length", "([B)I"⟩
abbrev cJ2_charAt_3b067 : ByteArray := prog_17_method_83_code
def yJ2_charAt_3b067 : MethodName := ⟨RJ2, "charAt", "([BI)C"⟩
abbrev cJ2_checkIndex_2214a : ByteArray := prog_17_method_91_code
def yJ2_checkIndex_2214a : MethodName := ⟨RJ2, "checkIndex", "(I[B)V"⟩
def RJ10 : String := "java/lang/System"
def TJ10 : u_T := fun k => match k with
  | _ => ("", "", "", false)
def tyJ10 : Nat → FieldType := fun k => match k with
  | _ => .int
theorem nmJ10 : ∀ a, a < 0 → ∀ b, b < 0 → a ≠ b → (TJ10 a).2.1 ≠ (TJ10 b).2.1 := by decide +kernel
theorem tyJ10_ok : ∀ k, k < 0 → parseFieldDescriptor (TJ10 k).2.2.1 = some (tyJ10 k) := by decide +kernel
def RJxfd54e : String := "java/lang/constant/Constable"
def TJxfd54e : u_T := fun k => match k with
  | _ => ("", "", "", false)
def tyJxfd54e : Nat → FieldType := fun k => match k with
  | _ => .int
theorem nmJxfd54e : ∀ a, a < 0 → ∀ b, b < 0 → a ≠ b → (TJxfd54e a).2.1 ≠ (TJxfd54e b).2.1 := by decide +kernel
theorem tyJxfd54e_ok : ∀ k, k < 0 → parseFieldDescriptor (TJxfd54e k).2.2.1 = some (tyJxfd54e k) := by decide +kernel
def RJx3cf43 : String := "java/lang/constant/ConstantDesc"
def TJx3cf43 : u_T := fun k => match k with
  | _ => ("", "", "", false)
def tyJx3cf43 : Nat → FieldType := fun k => match k with
  | _ => .int
theorem nmJx3cf43 : ∀ a, a < 0 → ∀ b, b < 0 → a ≠ b → (TJx3cf43 a).2.1 ≠ (TJx3cf43 b).2.1 := by decide +kernel
theorem tyJx3cf43_ok : ∀ k, k < 0 → parseFieldDescriptor (TJx3cf43 k).2.2.1 = some (tyJx3cf43 k) := by decide +kernel
def RJ7 : String := "java/util/Arrays"
def TJ7 : u_T := fun k => match k with
  | _ => ("", "", "", false)
def tyJ7 : Nat → FieldType := fun k => match k with
  | _ => .int
theorem nmJ7 : ∀ a, a < 0 → ∀ b, b < 0 → a ≠ b → (TJ7 a).2.1 ≠ (TJ7 b).2.1 := by decide +kernel
theorem tyJ7_ok : ∀ k, k < 0 → parseFieldDescriptor (TJ7 k).2.2.1 = some (tyJ7 k) := by decide +kernel
abbrev cJ7_fill_d0a16 : ByteArray := prog_19_method_101_code
def yJ7_fill_d0a16 : MethodName := ⟨RJ7, "fill", "([JJ)V"⟩
def RJ3 : String := "jdk/internal/util/Preconditions"
def TJ3 : u_T := fun k => match k with
  | _ => ("", "", "", false)
def tyJ3 : Nat → FieldType := fun k => match k with
  | _ => .int
theorem nmJ3 : ∀ a, a < 0 → ∀ b, b < 0 → a ≠ b → (TJ3 a).2.1 ≠ (TJ3 b).2.1 := by decide +kernel
theorem tyJ3_ok : ∀ k, k < 0 → parseFieldDescriptor (TJ3 k).2.2.1 = some (tyJ3 k) := by decide +kernel
abbrev cJ3_checkIndex_8e157 : ByteArray := prog_20_method_11_code
def yJ3_checkIndex_8e157 : MethodName := ⟨RJ3, "checkIndex", "(IILjava/util/function/BiFunction;)I"⟩
def RL : String := "ComposedIntervalLaw"
abbrev cL_law : ByteArray := code
def yL_law : MethodName := ⟨RL, "law", "([I)Z"⟩
def wsL_law_r1 : List Cond := [Cond.classLink RL 7 RX10, Cond.instantiable RX10 7, Cond.initialized RX10, Cond.classLink RL 10 RX11, Cond.instantiable RX11 18, Cond.initialized RX11, Cond.constantLong RL 117 (4294967295), Cond.methodLink RL 9 yX10_init, Cond.instanceMethod yX10_init, Cond.code yX10_init cX10_init 3 none, Cond.methodLink RX10 1 objectInit, Cond.instanceMethod objectInit, Cond.code objectInit ⟨#[0xb1]⟩ 1 none, Cond.classLink RX10 7 RX9, Cond.instantiable RX9 6, Cond.initialized RX9, Cond.fieldLink RX10 10 "ComposedInterval" "tape" "LComposedInterval$Tape;", Cond.classLink RX10 16 RX7, Cond.fieldLink RX10 18 "ComposedInterval" "sheets" "[LComposedInterval$Sheet;", Cond.arrayClass .int, Cond.fieldLink RX10 22 "ComposedInterval" "told" "[I", Cond.fieldLink RX10 26 "ComposedInterval" "isKept" "Z", Cond.classLink RX10 30 RX0, Cond.instantiable RX0 6]
def wsL_law_r2 : List Cond := [Cond.initialized RX0, Cond.classLink RX10 33 RX3, Cond.instantiable RX3 15, Cond.initialized RX3, Cond.fieldLink RX10 38 "ComposedInterval" "present" "LComposedInterval$Foyer;", Cond.fieldLink RX10 42 "ComposedInterval" "trial" "LComposedInterval$Foyer;", Cond.fieldLink RX10 45 "ComposedInterval" "kept" "LComposedInterval$Foyer;", Cond.instantiable RX7 3, Cond.initialized RX7, Cond.instanceMethod yX9_init, Cond.code yX9_init cX9_init 1 none, Cond.methodLink RX9 3 objectInit, Cond.fieldLink RX9 9 "ComposedInterval$Tape" "bytes" "[I", Cond.fieldLink RX9 15 "ComposedInterval$Tape" "length" "I", Cond.fieldLink RX9 19 "ComposedInterval$Tape" "token" "I", Cond.fieldLink RX9 22 "ComposedInterval$Tape" "start" "I", Cond.fieldLink RX9 25 "ComposedInterval$Tape" "next" "I", Cond.fieldLink RX9 28 "ComposedInterval$Tape" "value" "I", Cond.instanceMethod yX0_init, Cond.code yX0_init cX0_init 1 none, Cond.methodLink RX0 1 objectInit, Cond.classLink RX0 7 RX4, Cond.instantiable RX4 0, Cond.initialized RX4]
def wsL_law_r3 : List Cond := [Cond.fieldLink RX0 10 "ComposedInterval$Cast" "guest" "LComposedInterval$Guest;", Cond.classLink RX0 16 RX2, Cond.instantiable RX2 0, Cond.initialized RX2, Cond.fieldLink RX0 19 "ComposedInterval$Cast" "enemy" "LComposedInterval$Guest;", Cond.classLink RX0 22 RX8, Cond.instantiable RX8 0, Cond.initialized RX8, Cond.fieldLink RX0 25 "ComposedInterval$Cast" "singer" "LComposedInterval$Guest;", Cond.classLink RX0 28 RX5, Cond.instantiable RX5 0, Cond.initialized RX5, Cond.fieldLink RX0 31 "ComposedInterval$Cast" "late" "LComposedInterval$Guest;", Cond.classLink RX0 34 RX1, Cond.instantiable RX1 0, Cond.initialized RX1, Cond.fieldLink RX0 37 "ComposedInterval$Cast" "diva" "LComposedInterval$Guest;", Cond.classLink RX0 40 RX6, Cond.instantiable RX6 0, Cond.initialized RX6, Cond.fieldLink RX0 43 "ComposedInterval$Cast" "rival" "LComposedInterval$Guest;", Cond.instanceMethod yX4_init, Cond.code yX4_init cX4_init 1 none, Cond.methodLink RX4 1 objectInit]
def wsL_law_r4 : List Cond := [Cond.instanceMethod yX2_init, Cond.code yX2_init cX2_init 1 none, Cond.instanceMethod yX8_init, Cond.code yX8_init cX8_init 1 none, Cond.instanceMethod yX5_init, Cond.code yX5_init cX5_init 1 none, Cond.instanceMethod yX1_init, Cond.code yX1_init cX1_init 1 none, Cond.instanceMethod yX6_init, Cond.code yX6_init cX6_init 1 none, Cond.instanceMethod yX3_init, Cond.code yX3_init cX3_init 3 none, Cond.methodLink RX3 3 objectInit, Cond.fieldLink RX3 9 "ComposedInterval$Foyer" "score" "[I", Cond.fieldLink RX3 15 "ComposedInterval$Foyer" "bells" "[I", Cond.fieldLink RX3 18 "ComposedInterval$Foyer" "kind" "[I", Cond.fieldLink RX3 21 "ComposedInterval$Foyer" "at" "[I", Cond.fieldLink RX3 24 "ComposedInterval$Foyer" "quick" "[I", Cond.fieldLink RX3 27 "ComposedInterval$Foyer" "played" "[I", Cond.fieldLink RX3 30 "ComposedInterval$Foyer" "spoilt" "[I", Cond.fieldLink RX3 33 "ComposedInterval$Foyer" "minute" "I", Cond.fieldLink RX3 37 "ComposedInterval$Foyer" "people" "I", Cond.fieldLink RX3 40 "ComposedInterval$Foyer" "quarter" "I", Cond.fieldLink RX3 43 "ComposedInterval$Foyer" "spot" "I"]
def wsL_law_r5 : List Cond := [Cond.fieldLink RX3 46 "ComposedInterval$Foyer" "ringing" "I", Cond.fieldLink RX3 49 "ComposedInterval$Foyer" "wasDue" "[I", Cond.fieldLink RX3 52 "ComposedInterval$Foyer" "inTime" "I", Cond.fieldLink RX3 55 "ComposedInterval$Foyer" "cast" "LComposedInterval$Cast;", Cond.instanceMethod yX7_init, Cond.code yX7_init cX7_init 1 none, Cond.methodLink RX7 3 objectInit, Cond.arrayClass .long, Cond.fieldLink RX7 9 "ComposedInterval$Sheet" "numbers" "[J", Cond.fieldLink RX7 15 "ComposedInterval$Sheet" "bits" "I", Cond.fieldLink RX7 19 "ComposedInterval$Sheet" "size" "I", Cond.methodLink RL 12 yX11_init, Cond.instanceMethod yX11_init, Cond.code yX11_init cX11_init 2 none, Cond.methodLink RX11 1 objectInit, Cond.fieldLink RX11 7 "ComposedIntervalModel" "s" "[I", Cond.fieldLink RX11 13 "ComposedIntervalModel" "keptS" "[I", Cond.fieldLink RX11 16 "ComposedIntervalModel" "other" "[I", Cond.fieldLink RX11 19 "ComposedIntervalModel" "aside" "[I", Cond.fieldLink RX11 22 "ComposedIntervalModel" "statuses" "[I", Cond.fieldLink RX11 25 "ComposedIntervalModel" "due" "[I", Cond.fieldLink RX11 28 "ComposedIntervalModel" "tape" "[I", Cond.fieldLink RX11 31 "ComposedIntervalModel" "bitsOf" "[I", Cond.fieldLink RX11 34 "ComposedIntervalModel" "sizeOf" "[I"]
def wsL_law_r6 : List Cond := [Cond.fieldLink RX11 37 "ComposedIntervalModel" "numbers" "[J", Cond.fieldLink RX11 41 "ComposedIntervalModel" "moved" "[J", Cond.methodLink RL 13 yX10_score, Cond.instanceMethod yX10_score, Cond.selects RX10 yX10_score yX10_score, Cond.code yX10_score cX10_score 4 (some .int), Cond.constant RX10 57 (-1000000001), Cond.methodLink RX10 49 yX10_isOutside, Cond.static yX10_isOutside, Cond.code yX10_isOutside cX10_isOutside 3 (some .boolean), Cond.methodLink RX10 53 yX10_isNoSpot, Cond.static yX10_isNoSpot, Cond.code yX10_isNoSpot cX10_isNoSpot 1 (some .boolean), Cond.methodLink RX10 58 yX10_tell, Cond.instanceMethod yX10_tell, Cond.selects RX10 yX10_tell yX10_tell, Cond.code yX10_tell cX10_tell 3 (some .int), Cond.methodLink RL 17 yX11_score, Cond.instanceMethod yX11_score, Cond.selects RX11 yX11_score yX11_score, Cond.code yX11_score cX11_score 3 (some .int), Cond.constant RX11 44 (-1000000001), Cond.methodLink RX11 66 yX11_isQuarter, Cond.static yX11_isQuarter]
def wsL_law_r7 : List Cond := [Cond.code yX11_isQuarter cX11_isQuarter 1 (some .boolean), Cond.constantLong RX11 55 (5), Cond.methodLink RX11 49 yX11_in, Cond.static yX11_in, Cond.code yX11_in cX11_in 6 (some .boolean), Cond.methodLink RX11 70 yX11_isSpot, Cond.static yX11_isSpot, Cond.code yX11_isSpot cX11_isSpot 1 (some .boolean), Cond.constantLong RX11 53 (11), Cond.methodLink RX11 73 yX11_becomes, Cond.instanceMethod yX11_becomes, Cond.selects RX11 yX11_becomes yX11_becomes, Cond.code yX11_becomes cX11_becomes 4 (some .int), Cond.methodLink RX11 76 yX11_finds, Cond.instanceMethod yX11_finds, Cond.selects RX11 yX11_finds yX11_finds, Cond.code yX11_finds cX11_finds 2 (some .int), Cond.methodLink RL 18 yX10_bell, Cond.instanceMethod yX10_bell, Cond.selects RX10 yX10_bell yX10_bell, Cond.code yX10_bell cX10_bell 4 (some .int), Cond.methodLink RL 21 yX11_bell, Cond.instanceMethod yX11_bell, Cond.selects RX11 yX11_bell yX11_bell]
def wsL_law_r8 : List Cond := [Cond.code yX11_bell cX11_bell 3 (some .int), Cond.constantLong RX11 82 (47), Cond.methodLink RX11 79 yX11_isBell, Cond.static yX11_isBell, Cond.code yX11_isBell cX11_isBell 1 (some .boolean), Cond.constantLong RX11 57 (2), Cond.methodLink RL 22 yX10_now, Cond.instanceMethod yX10_now, Cond.selects RX10 yX10_now yX10_now, Cond.code yX10_now cX10_now 2 (some .int), Cond.constant RX10 88 (100000), Cond.instanceMethod yX3_look, Cond.selects RX3 yX3_look yX3_look, Cond.code yX3_look cX3_look 3 none, Cond.instanceMethod yX3_whoIsDueHere, Cond.selects RX3 yX3_whoIsDueHere yX3_whoIsDueHere, Cond.code yX3_whoIsDueHere cX3_whoIsDueHere 3 (some .int), Cond.methodLink RX3 90 yX3_dueOf, Cond.instanceMethod yX3_dueOf, Cond.selects RX3 yX3_dueOf yX3_dueOf, Cond.code yX3_dueOf cX3_dueOf 3 (some .int), Cond.methodLink RX3 71 yX3_guest, Cond.instanceMethod yX3_guest, Cond.selects RX3 yX3_guest yX3_guest]
def wsL_law_r9 : List Cond := [Cond.code yX3_guest cX3_guest 2 (some (.object "ComposedInterval$Guest")), Cond.instanceMethod yX0_numbered, Cond.selects RX0 yX0_numbered yX0_numbered, Cond.code yX0_numbered cX0_numbered 2 (some (.object "ComposedInterval$Guest")), Cond.methodLink RX3 74 ⟨"ComposedInterval$Guest", "hears", "(LComposedInterval$Foyer;I)Z"⟩, Cond.sameMethod "ComposedInterval$Guest" "ComposedInterval$Guest" "hears" "(LComposedInterval$Foyer;I)Z", Cond.instanceMethod ⟨"ComposedInterval$Guest", "hears", "(LComposedInterval$Foyer;I)Z"⟩, Cond.selects RX1 ⟨"ComposedInterval$Guest", "hears", "(LComposedInterval$Foyer;I)Z"⟩ yX1_hears, Cond.instanceMethod yX1_hears, Cond.code yX1_hears cX1_hears 3 (some .boolean), Cond.code yX4_hears cX4_hears 3 (some .boolean), Cond.selects RX2 ⟨"ComposedInterval$Guest", "hears", "(LComposedInterval$Foyer;I)Z"⟩ yX4_hears, Cond.instanceMethod yX4_hears, Cond.methodLink RX3 74 yX4_hears, Cond.selects RX4 yX4_hears yX4_hears, Cond.selects RX5 ⟨"ComposedInterval$Guest", "hears", "(LComposedInterval$Foyer;I)Z"⟩ yX5_hears, Cond.instanceMethod yX5_hears, Cond.code yX5_hears cX5_hears 3 (some .boolean), Cond.selects RX6 ⟨"ComposedInterval$Guest", "hears", "(LComposedInterval$Foyer;I)Z"⟩ yX6_hears, Cond.instanceMethod yX6_hears, Cond.code yX6_hears cX6_hears 3 (some .boolean), Cond.selects RX8 ⟨"ComposedInterval$Guest", "hears", "(LComposedInterval$Foyer;I)Z"⟩ yX8_hears, Cond.instanceMethod yX8_hears, Cond.code yX8_hears cX8_hears 3 (some .boolean)]
def wsL_law_r10 : List Cond := [Cond.methodLink RX3 80 ⟨"ComposedInterval$Guest", "due", "(LComposedInterval$Foyer;I)I"⟩, Cond.sameMethod "ComposedInterval$Guest" "ComposedInterval$Guest" "due" "(LComposedInterval$Foyer;I)I", Cond.instanceMethod ⟨"ComposedInterval$Guest", "due", "(LComposedInterval$Foyer;I)I"⟩, Cond.selects RX1 ⟨"ComposedInterval$Guest", "due", "(LComposedInterval$Foyer;I)I"⟩ yX1_due, Cond.instanceMethod yX1_due, Cond.code yX1_due cX1_due 4 (some .int), Cond.methodLink RX1 15 yX8_due, Cond.sameMethod "ComposedInterval$Singer" "ComposedInterval$Singer" "due" "(LComposedInterval$Foyer;I)I", Cond.superclass RX1 RX8, Cond.instanceMethod yX8_due, Cond.code yX8_due cX8_due 3 (some .int), Cond.methodLink RX8 15 yX4_due, Cond.superclass RX8 RX4, Cond.instanceMethod yX4_due, Cond.code yX4_due cX4_due 3 (some .int), Cond.selects RX2 ⟨"ComposedInterval$Guest", "due", "(LComposedInterval$Foyer;I)I"⟩ yX2_due, Cond.instanceMethod yX2_due, Cond.code yX2_due cX2_due 3 (some .int), Cond.methodLink RX3 80 yX4_due, Cond.selects RX4 yX4_due yX4_due, Cond.selects RX5 ⟨"ComposedInterval$Guest", "due", "(LComposedInterval$Foyer;I)I"⟩ yX5_due, Cond.instanceMethod yX5_due, Cond.code yX5_due cX5_due 3 (some .int), Cond.selects RX6 ⟨"ComposedInterval$Guest", "due", "(LComposedInterval$Foyer;I)I"⟩ yX6_due]
def wsL_law_r11 : List Cond := [Cond.instanceMethod yX6_due, Cond.code yX6_due cX6_due 3 (some .int), Cond.methodLink RX6 11 Lib.Math.max.name, Cond.static Lib.Math.max.name, Cond.initialized "java/lang/Math", Cond.code Lib.Math.max.name Lib.Math.max.code 2 (some .int), Cond.methodLink RX6 7 yX2_due, Cond.sameMethod "ComposedInterval$Enemy" "ComposedInterval$Enemy" "due" "(LComposedInterval$Foyer;I)I", Cond.superclass RX6 RX2, Cond.selects RX8 ⟨"ComposedInterval$Guest", "due", "(LComposedInterval$Foyer;I)I"⟩ yX8_due, Cond.instanceMethod yX3_sumHarmony, Cond.selects RX3 yX3_sumHarmony yX3_sumHarmony, Cond.code yX3_sumHarmony cX3_sumHarmony 1 (some .int), Cond.methodLink RX3 114 yX3_sumOf, Cond.instanceMethod yX3_sumOf, Cond.selects RX3 yX3_sumOf yX3_sumOf, Cond.code yX3_sumOf cX3_sumOf 4 (some .int), Cond.methodLink RL 26 yX11_now, Cond.instanceMethod yX11_now, Cond.selects RX11 yX11_now yX11_now, Cond.code yX11_now cX11_now 2 (some .int), Cond.constant RX11 97 (100000), Cond.methodLink RX11 87 yX11_quarter, Cond.instanceMethod yX11_quarter]
def wsL_law_r12 : List Cond := [Cond.selects RX11 yX11_quarter yX11_quarter, Cond.code yX11_quarter cX11_quarter 1 (some .int), Cond.methodLink RX11 91 yX11_ringing, Cond.instanceMethod yX11_ringing, Cond.selects RX11 yX11_ringing yX11_ringing, Cond.code yX11_ringing cX11_ringing 3 (some .int), Cond.methodLink RX11 94 yX11_dueOnes, Cond.instanceMethod yX11_dueOnes, Cond.selects RX11 yX11_dueOnes yX11_dueOnes, Cond.code yX11_dueOnes cX11_dueOnes 3 (some .int), Cond.methodLink RX11 59 yX11_its, Cond.instanceMethod yX11_its, Cond.selects RX11 yX11_its yX11_its, Cond.code yX11_its cX11_its 3 (some .int), Cond.methodLink RX11 45 yX11_spot, Cond.static yX11_spot, Cond.code yX11_spot cX11_spot 2 (some .int), Cond.methodLink RX11 84 yX11_dueOf, Cond.instanceMethod yX11_dueOf, Cond.selects RX11 yX11_dueOf yX11_dueOf, Cond.code yX11_dueOf cX11_dueOf 2 (some .int), Cond.methodLink RX11 104 yX11_isHearing, Cond.instanceMethod yX11_isHearing, Cond.selects RX11 yX11_isHearing yX11_isHearing]
def wsL_law_r13 : List Cond := [Cond.code yX11_isHearing cX11_isHearing 4 (some .boolean), Cond.methodLink RX11 107 yX11_writtenFor, Cond.instanceMethod yX11_writtenFor, Cond.selects RX11 yX11_writtenFor yX11_writtenFor, Cond.code yX11_writtenFor cX11_writtenFor 6 (some .int), Cond.methodLink RX11 98 yX11_harmonyNow, Cond.instanceMethod yX11_harmonyNow, Cond.selects RX11 yX11_harmonyNow yX11_harmonyNow, Cond.code yX11_harmonyNow cX11_harmonyNow 1 (some .int), Cond.methodLink RX11 62 yX11_together, Cond.instanceMethod yX11_together, Cond.selects RX11 yX11_together yX11_together, Cond.code yX11_together cX11_together 4 (some .int), Cond.methodLink RL 27 yX10_who, Cond.instanceMethod yX10_who, Cond.selects RX10 yX10_who yX10_who, Cond.code yX10_who cX10_who 2 (some .int), Cond.instanceMethod yX3_whoIsAt, Cond.selects RX3 yX3_whoIsAt yX3_whoIsAt, Cond.code yX3_whoIsAt cX3_whoIsAt 4 (some .int), Cond.methodLink RL 30 yX11_who, Cond.instanceMethod yX11_who, Cond.selects RX11 yX11_who yX11_who, Cond.code yX11_who cX11_who 2 (some .int)]
def wsL_law_r14 : List Cond := [Cond.methodLink RX11 101 yX11_whoAt, Cond.instanceMethod yX11_whoAt, Cond.selects RX11 yX11_whoAt yX11_whoAt, Cond.code yX11_whoAt cX11_whoAt 4 (some .int), Cond.methodLink RL 31 yX10_person, Cond.instanceMethod yX10_person, Cond.selects RX10 yX10_person yX10_person, Cond.code yX10_person cX10_person 3 (some .int), Cond.constant RX10 101 (-1000000002), Cond.methodLink RX10 95 yX10_isNoKind, Cond.static yX10_isNoKind, Cond.code yX10_isNoKind cX10_isNoKind 1 (some .boolean), Cond.instanceMethod yX3_admit, Cond.selects RX3 yX3_admit yX3_admit, Cond.code yX3_admit cX3_admit 4 none, Cond.methodLink RL 34 yX11_person, Cond.instanceMethod yX11_person, Cond.selects RX11 yX11_person yX11_person, Cond.code yX11_person cX11_person 3 (some .int), Cond.constant RX11 119 (-1000000002), Cond.methodLink RX11 116 yX11_isKind, Cond.static yX11_isKind, Cond.code yX11_isKind cX11_isKind 1 (some .boolean), Cond.methodLink RX11 120 yX11_adds]
def wsL_law_r15 : List Cond := [Cond.instanceMethod yX11_adds, Cond.selects RX11 yX11_adds yX11_adds, Cond.code yX11_adds cX11_adds 4 (some .int), Cond.methodLink RL 35 yX10_of, Cond.instanceMethod yX10_of, Cond.selects RX10 yX10_of yX10_of, Cond.code yX10_of cX10_of 3 (some .int), Cond.methodLink RX10 106 yX10_isNobody, Cond.instanceMethod yX10_isNobody, Cond.selects RX10 yX10_isNobody yX10_isNobody, Cond.code yX10_isNobody cX10_isNobody 2 (some .boolean), Cond.instanceMethod yX3_isDeceived, Cond.selects RX3 yX3_isDeceived yX3_isDeceived, Cond.code yX3_isDeceived cX3_isDeceived 2 (some .boolean), Cond.methodLink RX10 134 ⟨"ComposedInterval$Guest", "walks", "(LComposedInterval$Foyer;II)I"⟩, Cond.sameMethod "ComposedInterval$Guest" "ComposedInterval$Guest" "walks" "(LComposedInterval$Foyer;II)I", Cond.instanceMethod ⟨"ComposedInterval$Guest", "walks", "(LComposedInterval$Foyer;II)I"⟩, Cond.selects RX1 ⟨"ComposedInterval$Guest", "walks", "(LComposedInterval$Foyer;II)I"⟩ yX1_walks, Cond.instanceMethod yX1_walks, Cond.code yX1_walks cX1_walks 4 (some .int), Cond.methodLink RX1 19 yX8_walks, Cond.sameMethod "ComposedInterval$Singer" "ComposedInterval$Singer" "walks" "(LComposedInterval$Foyer;II)I", Cond.instanceMethod yX8_walks, Cond.code yX8_walks cX8_walks 4 (some .int)]
def wsL_law_r16 : List Cond := [Cond.code yX4_walks cX4_walks 4 (some .int), Cond.selects RX2 ⟨"ComposedInterval$Guest", "walks", "(LComposedInterval$Foyer;II)I"⟩ yX2_walks, Cond.instanceMethod yX2_walks, Cond.code yX2_walks cX2_walks 4 (some .int), Cond.instanceMethod yX3_isBarred, Cond.selects RX3 yX3_isBarred yX3_isBarred, Cond.code yX3_isBarred cX3_isBarred 5 (some .boolean), Cond.methodLink RX2 19 yX4_walks, Cond.superclass RX2 RX4, Cond.instanceMethod yX4_walks, Cond.methodLink RX10 134 yX4_walks, Cond.selects RX4 yX4_walks yX4_walks, Cond.selects RX5 ⟨"ComposedInterval$Guest", "walks", "(LComposedInterval$Foyer;II)I"⟩ yX5_walks, Cond.instanceMethod yX5_walks, Cond.code yX5_walks cX5_walks 4 (some .int), Cond.methodLink RX5 15 yX4_walks, Cond.superclass RX5 RX4, Cond.selects RX6 ⟨"ComposedInterval$Guest", "walks", "(LComposedInterval$Foyer;II)I"⟩ yX2_walks, Cond.selects RX8 ⟨"ComposedInterval$Guest", "walks", "(LComposedInterval$Foyer;II)I"⟩ yX8_walks, Cond.methodLink RX10 140 ⟨"ComposedInterval$Guest", "spoils", "()I"⟩, Cond.sameMethod "ComposedInterval$Guest" "ComposedInterval$Guest" "spoils" "()I", Cond.instanceMethod ⟨"ComposedInterval$Guest", "spoils", "()I"⟩, Cond.selects RX1 ⟨"ComposedInterval$Guest", "spoils", "()I"⟩ yX1_spoils, Cond.instanceMethod yX1_spoils]
def wsL_law_r17 : List Cond := [Cond.code yX1_spoils cX1_spoils 1 (some .int), Cond.methodLink RX1 27 yX8_spoils, Cond.sameMethod "ComposedInterval$Singer" "ComposedInterval$Singer" "spoils" "()I", Cond.instanceMethod yX8_spoils, Cond.code yX8_spoils cX8_spoils 1 (some .int), Cond.code yX4_spoils cX4_spoils 1 (some .int), Cond.selects RX2 ⟨"ComposedInterval$Guest", "spoils", "()I"⟩ yX2_spoils, Cond.instanceMethod yX2_spoils, Cond.code yX2_spoils cX2_spoils 1 (some .int), Cond.methodLink RX2 23 yX4_spoils, Cond.instanceMethod yX4_spoils, Cond.methodLink RX10 140 yX4_spoils, Cond.selects RX4 yX4_spoils yX4_spoils, Cond.selects RX5 ⟨"ComposedInterval$Guest", "spoils", "()I"⟩ yX5_spoils, Cond.instanceMethod yX5_spoils, Cond.code yX5_spoils cX5_spoils 1 (some .int), Cond.selects RX6 ⟨"ComposedInterval$Guest", "spoils", "()I"⟩ yX6_spoils, Cond.instanceMethod yX6_spoils, Cond.code yX6_spoils cX6_spoils 1 (some .int), Cond.methodLink RX6 27 yX2_spoils, Cond.sameMethod "ComposedInterval$Enemy" "ComposedInterval$Enemy" "spoils" "()I", Cond.selects RX8 ⟨"ComposedInterval$Guest", "spoils", "()I"⟩ yX8_spoils, Cond.methodLink RL 38 yX11_of, Cond.instanceMethod yX11_of]
def wsL_law_r18 : List Cond := [Cond.selects RX11 yX11_of yX11_of, Cond.code yX11_of cX11_of 3 (some .int), Cond.constantLong RX11 126 (8), Cond.methodLink RX11 123 yX11_isPerson, Cond.instanceMethod yX11_isPerson, Cond.selects RX11 yX11_isPerson yX11_isPerson, Cond.code yX11_isPerson cX11_isPerson 2 (some .boolean), Cond.methodLink RX11 128 yX11_walksOf, Cond.instanceMethod yX11_walksOf, Cond.selects RX11 yX11_walksOf yX11_walksOf, Cond.code yX11_walksOf cX11_walksOf 3 (some .int), Cond.methodLink RX11 113 yX11_isBarred, Cond.instanceMethod yX11_isBarred, Cond.selects RX11 yX11_isBarred yX11_isBarred, Cond.code yX11_isBarred cX11_isBarred 4 (some .boolean), Cond.methodLink RX11 110 yX11_signOf, Cond.static yX11_signOf, Cond.code yX11_signOf cX11_signOf 1 (some .int), Cond.methodLink RX11 131 yX11_spoilsOf, Cond.instanceMethod yX11_spoilsOf, Cond.selects RX11 yX11_spoilsOf yX11_spoilsOf, Cond.code yX11_spoilsOf cX11_spoilsOf 2 (some .int), Cond.methodLink RL 39 yX10_set, Cond.instanceMethod yX10_set]
def wsL_law_r19 : List Cond := [Cond.selects RX10 yX10_set yX10_set, Cond.code yX10_set cX10_set 4 (some .int), Cond.methodLink RX10 143 yX10_exchange, Cond.static yX10_exchange, Cond.code yX10_exchange cX10_exchange 4 (some .int), Cond.methodLink RL 43 yX11_set, Cond.instanceMethod yX11_set, Cond.selects RX11 yX11_set yX11_set, Cond.code yX11_set cX11_set 5 (some .int), Cond.constantLong RX11 134 (4), Cond.constantLong RX11 136 (9999), Cond.methodLink RL 44 yX10_turn, Cond.instanceMethod yX10_turn, Cond.selects RX10 yX10_turn yX10_turn, Cond.code yX10_turn cX10_turn 3 (some .int), Cond.methodLink RL 47 yX11_turn, Cond.instanceMethod yX11_turn, Cond.selects RX11 yX11_turn yX11_turn, Cond.code yX11_turn cX11_turn 3 (some .int), Cond.methodLink RL 48 yX10_as, Cond.instanceMethod yX10_as, Cond.selects RX10 yX10_as yX10_as, Cond.code yX10_as cX10_as 3 (some .int), Cond.constant RX10 151 (-1000000003)]
def wsL_law_r20 : List Cond := [Cond.methodLink RX10 147 yX10_isOfKind, Cond.static yX10_isOfKind, Cond.code yX10_isOfKind cX10_isOfKind 4 (some .boolean), Cond.fieldLink RX10 232 "ComposedInterval" "ABOVE" "[I", Cond.methodLink RL 51 yX11_as, Cond.instanceMethod yX11_as, Cond.selects RX11 yX11_as yX11_as, Cond.code yX11_as cX11_as 3 (some .int), Cond.constant RX11 142 (-1000000003), Cond.methodLink RX11 138 yX11_isUnder, Cond.static yX11_isUnder, Cond.code yX11_isUnder cX11_isUnder 2 (some .boolean), Cond.methodLink RL 52 yX10_minutes, Cond.instanceMethod yX10_minutes, Cond.selects RX10 yX10_minutes yX10_minutes, Cond.code yX10_minutes cX10_minutes 2 (some .int), Cond.constant RX10 152 (99999), Cond.constant RX10 153 (-1000000005), Cond.instanceMethod yX3_go, Cond.selects RX3 yX3_go yX3_go, Cond.code yX3_go cX3_go 3 none, Cond.methodLink RX3 84 yX3_passMinute, Cond.instanceMethod yX3_passMinute, Cond.selects RX3 yX3_passMinute yX3_passMinute]
def wsL_law_r21 : List Cond := [Cond.code yX3_passMinute cX3_passMinute 5 none, Cond.methodLink RX3 98 Lib.Math.abs.name, Cond.static Lib.Math.abs.name, Cond.code Lib.Math.abs.name Lib.Math.abs.code 1 (some .int), Cond.methodLink RX3 103 Lib.Math.min.name, Cond.static Lib.Math.min.name, Cond.code Lib.Math.min.name Lib.Math.min.code 2 (some .int), Cond.methodLink RX3 87 yX3_look, Cond.methodLink RX3 94 ⟨"ComposedInterval$Guest", "walks", "(LComposedInterval$Foyer;II)I"⟩, Cond.methodLink RX3 94 yX4_walks, Cond.methodLink RX3 107 yX3_markMinute, Cond.instanceMethod yX3_markMinute, Cond.selects RX3 yX3_markMinute yX3_markMinute, Cond.code yX3_markMinute cX3_markMinute 2 none, Cond.methodLink RX3 110 ⟨"ComposedInterval$Guest", "spoils", "()I"⟩, Cond.methodLink RX3 110 yX4_spoils, Cond.methodLink RL 55 yX11_minutes, Cond.instanceMethod yX11_minutes, Cond.selects RX11 yX11_minutes yX11_minutes, Cond.code yX11_minutes cX11_minutes 2 (some .int), Cond.constantLong RX11 154 (200), Cond.constant RX11 156 (99999), Cond.constant RX11 157 (-1000000005), Cond.fieldLink RX11 147 "ComposedIntervalModel" "inTime" "I"]
def wsL_law_r22 : List Cond := [Cond.methodLink RX11 158 yX11_minutesGo, Cond.instanceMethod yX11_minutesGo, Cond.selects RX11 yX11_minutesGo yX11_minutesGo, Cond.code yX11_minutesGo cX11_minutesGo 3 none, Cond.methodLink RX11 151 yX11_minute, Cond.instanceMethod yX11_minute, Cond.selects RX11 yX11_minute yX11_minute, Cond.code yX11_minute cX11_minute 5 none, Cond.methodLink RX11 143 yX11_walks, Cond.instanceMethod yX11_walks, Cond.selects RX11 yX11_walks yX11_walks, Cond.code yX11_walks cX11_walks 6 none, Cond.methodLink RL 56 yX10_on, Cond.instanceMethod yX10_on, Cond.selects RX10 yX10_on yX10_on, Cond.code yX10_on cX10_on 4 (some .int), Cond.instanceMethod yX3_become, Cond.selects RX3 yX3_become yX3_become, Cond.code yX3_become cX3_become 2 none, Cond.methodLink RX3 59 arraycopyName, Cond.native arraycopyName, Cond.static arraycopyName, Cond.initialized "java/lang/System", Cond.methodLink RL 59 yX11_on]
def wsL_law_r23 : List Cond := [Cond.instanceMethod yX11_on, Cond.selects RX11 yX11_on yX11_on, Cond.code yX11_on cX11_on 4 (some .int), Cond.methodLink RX11 169 yX11_isAhead, Cond.static yX11_isAhead, Cond.code yX11_isAhead cX11_isAhead 1 (some .boolean), Cond.constantLong RX11 161 (300), Cond.methodLink RX11 172 yX11_behind, Cond.instanceMethod yX11_behind, Cond.selects RX11 yX11_behind yX11_behind, Cond.code yX11_behind cX11_behind 3 (some .int), Cond.methodLink RX11 163 yX11_laysAside, Cond.instanceMethod yX11_laysAside, Cond.selects RX11 yX11_laysAside yX11_laysAside, Cond.code yX11_laysAside cX11_laysAside 2 none, Cond.methodLink RX11 166 yX11_takesBack, Cond.instanceMethod yX11_takesBack, Cond.selects RX11 yX11_takesBack yX11_takesBack, Cond.code yX11_takesBack cX11_takesBack 3 (some .int), Cond.methodLink RL 60 yX10_harmony, Cond.instanceMethod yX10_harmony, Cond.selects RX10 yX10_harmony yX10_harmony, Cond.code yX10_harmony cX10_harmony 2 (some .int), Cond.methodLink RL 63 yX11_harmony]
def wsL_law_r24 : List Cond := [Cond.instanceMethod yX11_harmony, Cond.selects RX11 yX11_harmony yX11_harmony, Cond.code yX11_harmony cX11_harmony 2 (some .int), Cond.methodLink RL 64 yX10_comes, Cond.instanceMethod yX10_comes, Cond.selects RX10 yX10_comes yX10_comes, Cond.code yX10_comes cX10_comes 4 (some .int), Cond.constant RX10 168 (-1000000004), Cond.methodLink RL 67 yX11_comes, Cond.instanceMethod yX11_comes, Cond.selects RX11 yX11_comes yX11_comes, Cond.code yX11_comes cX11_comes 4 (some .int), Cond.methodLink RX11 176 yX11_toldAt, Cond.instanceMethod yX11_toldAt, Cond.selects RX11 yX11_toldAt yX11_toldAt, Cond.code yX11_toldAt cX11_toldAt 3 (some .int), Cond.constant RX11 175 (-1000000004), Cond.methodLink RL 68 yX10_plays, Cond.instanceMethod yX10_plays, Cond.selects RX10 yX10_plays yX10_plays, Cond.code yX10_plays cX10_plays 3 (some .int), Cond.methodLink RL 71 yX11_plays, Cond.instanceMethod yX11_plays, Cond.selects RX11 yX11_plays yX11_plays]
def wsL_law_r25 : List Cond := [Cond.code yX11_plays cX11_plays 4 (some .int), Cond.methodLink RL 72 yX10_meet, Cond.instanceMethod yX10_meet, Cond.selects RX10 yX10_meet yX10_meet, Cond.code yX10_meet cX10_meet 4 (some .int), Cond.methodLink RL 75 yX11_meet, Cond.instanceMethod yX11_meet, Cond.selects RX11 yX11_meet yX11_meet, Cond.code yX11_meet cX11_meet 4 (some .int), Cond.methodLink RL 76 yX10_begin, Cond.instanceMethod yX10_begin, Cond.selects RX10 yX10_begin yX10_begin, Cond.code yX10_begin cX10_begin 3 (some .int), Cond.methodLink RX10 169 yX10_bestPlayed, Cond.instanceMethod yX10_bestPlayed, Cond.selects RX10 yX10_bestPlayed yX10_bestPlayed, Cond.code yX10_bestPlayed cX10_bestPlayed 8 (some .int), Cond.methodLink RL 79 yX11_begin, Cond.instanceMethod yX11_begin, Cond.selects RX11 yX11_begin yX11_begin, Cond.code yX11_begin cX11_begin 3 (some .int), Cond.methodLink RX11 182 yX11_isSoon, Cond.static yX11_isSoon, Cond.code yX11_isSoon cX11_isSoon 1 (some .boolean)]
def wsL_law_r26 : List Cond := [Cond.constantLong RX11 179 (100), Cond.methodLink RX11 185 yX11_mostBy, Cond.instanceMethod yX11_mostBy, Cond.selects RX11 yX11_mostBy yX11_mostBy, Cond.code yX11_mostBy cX11_mostBy 11 (some .int), Cond.constant RX11 181 (-999999), Cond.methodLink RL 80 yX10_kind, Cond.instanceMethod yX10_kind, Cond.selects RX10 yX10_kind yX10_kind, Cond.code yX10_kind cX10_kind 3 (some .int), Cond.methodLink RL 83 yX11_kind, Cond.instanceMethod yX11_kind, Cond.selects RX11 yX11_kind yX11_kind, Cond.code yX11_kind cX11_kind 3 (some .int), Cond.methodLink RL 84 yX10_quick, Cond.instanceMethod yX10_quick, Cond.selects RX10 yX10_quick yX10_quick, Cond.code yX10_quick cX10_quick 5 (some .int), Cond.methodLink RL 87 yX11_quick, Cond.instanceMethod yX11_quick, Cond.selects RX11 yX11_quick yX11_quick, Cond.code yX11_quick cX11_quick 8 (some .int), Cond.methodLink RL 88 yX10_compose, Cond.instanceMethod yX10_compose]
def wsL_law_r27 : List Cond := [Cond.selects RX10 yX10_compose yX10_compose, Cond.code yX10_compose cX10_compose 7 (some .int), Cond.methodLink RL 91 yX11_compose, Cond.instanceMethod yX11_compose, Cond.selects RX11 yX11_compose yX11_compose, Cond.code yX11_compose cX11_compose 3 (some .int), Cond.methodLink RL 92 yX10_deceive, Cond.instanceMethod yX10_deceive, Cond.selects RX10 yX10_deceive yX10_deceive, Cond.code yX10_deceive cX10_deceive 7 (some .int), Cond.methodLink RL 95 yX11_deceive, Cond.instanceMethod yX11_deceive, Cond.selects RX11 yX11_deceive yX11_deceive, Cond.code yX11_deceive cX11_deceive 3 (some .int), Cond.constantLong RX11 189 (60), Cond.methodLink RL 96 yX10_worst, Cond.instanceMethod yX10_worst, Cond.selects RX10 yX10_worst yX10_worst, Cond.code yX10_worst cX10_worst 4 (some .int), Cond.methodLink RL 99 yX11_worst, Cond.instanceMethod yX11_worst, Cond.selects RX11 yX11_worst yX11_worst, Cond.code yX11_worst cX11_worst 4 (some .int), Cond.methodLink RL 100 yX10_feed]
def wsL_law_r28 : List Cond := [Cond.instanceMethod yX10_feed, Cond.selects RX10 yX10_feed yX10_feed, Cond.code yX10_feed cX10_feed 4 (some .int), Cond.instanceMethod yX9_append, Cond.selects RX9 yX9_append yX9_append, Cond.code yX9_append cX9_append 2 none, Cond.methodLink RL 103 yX11_feed, Cond.instanceMethod yX11_feed, Cond.selects RX11 yX11_feed yX11_feed, Cond.code yX11_feed cX11_feed 4 (some .int), Cond.fieldLink RX11 191 "ComposedIntervalModel" "taped" "I", Cond.methodLink RL 104 yX10_wipe, Cond.instanceMethod yX10_wipe, Cond.selects RX10 yX10_wipe yX10_wipe, Cond.code yX10_wipe cX10_wipe 2 (some .int), Cond.methodLink RL 108 yX11_wipe, Cond.instanceMethod yX11_wipe, Cond.selects RX11 yX11_wipe yX11_wipe, Cond.code yX11_wipe cX11_wipe 2 (some .int), Cond.methodLink RL 109 yX10_interval, Cond.instanceMethod yX10_interval, Cond.selects RX10 yX10_interval yX10_interval, Cond.code yX10_interval cX10_interval 2 (some .int), Cond.instanceMethod yX9_perform]
def wsL_law_r29 : List Cond := [Cond.selects RX9 yX9_perform yX9_perform, Cond.code yX9_perform cX9_perform 3 (some .int), Cond.methodLink RX9 31 yX9_advance, Cond.instanceMethod yX9_advance, Cond.selects RX9 yX9_advance yX9_advance, Cond.code yX9_advance cX9_advance 2 none, Cond.methodLink RX9 98 Lib.Math.min.name, Cond.methodLink RX9 91 yX9_isLetter, Cond.static yX9_isLetter, Cond.code yX9_isLetter cX9_isLetter 1 (some .boolean), Cond.methodLink RX9 95 yX9_isDigit, Cond.static yX9_isDigit, Cond.code yX9_isDigit cX9_isDigit 1 (some .boolean), Cond.methodLink RX9 34 yX9_takeItem, Cond.instanceMethod yX9_takeItem, Cond.selects RX9 yX9_takeItem yX9_takeItem, Cond.code yX9_takeItem cX9_takeItem 3 (some .boolean), Cond.methodLink RX9 40 yX9_isWord, Cond.instanceMethod yX9_isWord, Cond.selects RX9 yX9_isWord yX9_isWord, Cond.code yX9_isWord cX9_isWord 3 (some .boolean), Cond.methodLink RX9 82 yJ0_length_8abf5, Cond.instanceMethod yJ0_length_8abf5, Cond.selects RJ0 yJ0_length_8abf5 yJ0_length_8abf5]
def wsL_law_r30 : List Cond := [Cond.initialized RJ0, Cond.code yJ0_length_8abf5 cJ0_length_8abf5 1 (some .int), Cond.fieldLink RJ0 9 "java/lang/String" "value" "[B", Cond.methodLink RJ0 335 yJ0_coder_7d493, Cond.instanceMethod yJ0_coder_7d493, Cond.selects RJ0 yJ0_coder_7d493 yJ0_coder_7d493, Cond.code yJ0_coder_7d493 cJ0_coder_7d493 1 (some .byte), Cond.fieldLink RJ0 38 "java/lang/String" "COMPACT_STRINGS" "Z", Cond.fieldLink RJ0 15 "java/lang/String" "coder" "B", Cond.methodLink RX9 87 yJ0_charAt_5068e, Cond.instanceMethod yJ0_charAt_5068e, Cond.selects RJ0 yJ0_charAt_5068e yJ0_charAt_5068e, Cond.code yJ0_charAt_5068e cJ0_charAt_5068e 2 (some .char), Cond.methodLink RJ0 492 yJ0_isLatin1_aae02, Cond.instanceMethod yJ0_isLatin1_aae02, Cond.selects RJ0 yJ0_isLatin1_aae02 yJ0_isLatin1_aae02, Cond.code yJ0_isLatin1_aae02 cJ0_isLatin1_aae02 1 (some .boolean), Cond.methodLink RJ0 495 yJ1_charAt_3b067, Cond.static yJ1_charAt_3b067, Cond.initialized RJ1, Cond.code yJ1_charAt_3b067 cJ1_charAt_3b067 2 (some .char), Cond.methodLink RJ1 9 yJ0_checkIndex_df160, Cond.static yJ0_checkIndex_df160, Cond.code yJ0_checkIndex_df160 cJ0_checkIndex_df160 2 none]
def wsL_law_r31 : List Cond := [Cond.fieldLink RJ0 1053 "jdk/internal/util/Preconditions" "SIOOBE_FORMATTER" "Ljava/util/function/BiFunction;", Cond.methodLink RJ0 1059 yJ3_checkIndex_8e157, Cond.static yJ3_checkIndex_8e157, Cond.initialized RJ3, Cond.code yJ3_checkIndex_8e157 cJ3_checkIndex_8e157 3 (some .int), Cond.methodLink RJ0 498 yJ2_charAt_3b067, Cond.static yJ2_charAt_3b067, Cond.initialized RJ2, Cond.code yJ2_charAt_3b067 cJ2_charAt_3b067 2 (some .char), Cond.methodLink RJ2 67 yJ2_checkIndex_2214a, Cond.static yJ2_checkIndex_2214a, Cond.code yJ2_checkIndex_2214a cJ2_checkIndex_2214a 2 none, Cond.methodLink RJ2 48 yJ2_length_9d52b, Cond.static yJ2_length_9d52b, Cond.code yJ2_length_9d52b cJ2_length_9d52b 1 (some .int), Cond.methodLink RJ2 414 yJ0_checkIndex_df160, Cond.methodLink RJ2 71 yJ2_getChar_3b067, Cond.static yJ2_getChar_3b067, Cond.code yJ2_getChar_3b067 cJ2_getChar_3b067 2 (some .char), Cond.fieldLink RJ2 44 "java/lang/StringUTF16" "$assertionsDisabled" "Z", Cond.fieldLink RJ2 59 "java/lang/StringUTF16" "HI_BYTE_SHIFT" "I", Cond.fieldLink RJ2 63 "java/lang/StringUTF16" "LO_BYTE_SHIFT" "I", Cond.methodLink RX9 44 yX9_takeScore, Cond.instanceMethod yX9_takeScore]
def wsL_law_r32 : List Cond := [Cond.selects RX9 yX9_takeScore yX9_takeScore, Cond.code yX9_takeScore cX9_takeScore 3 (some .boolean), Cond.methodLink RX9 62 yX9_isNumber, Cond.instanceMethod yX9_isNumber, Cond.selects RX9 yX9_isNumber yX9_isNumber, Cond.code yX9_isNumber cX9_isNumber 3 (some .boolean), Cond.methodLink RX9 49 yX9_takeBell, Cond.instanceMethod yX9_takeBell, Cond.selects RX9 yX9_takeBell yX9_takeBell, Cond.code yX9_takeBell cX9_takeBell 3 (some .boolean), Cond.static yX0_nameOf, Cond.code yX0_nameOf cX0_nameOf 1 (some (.object "java/lang/String")), Cond.methodLink RX9 58 yX9_takePerson, Cond.instanceMethod yX9_takePerson, Cond.selects RX9 yX9_takePerson yX9_takePerson, Cond.code yX9_takePerson cX9_takePerson 5 (some .boolean), Cond.methodLink RL 112 yX11_interval, Cond.instanceMethod yX11_interval, Cond.selects RX11 yX11_interval yX11_interval, Cond.code yX11_interval cX11_interval 2 (some .int), Cond.fieldLink RX11 217 "ComposedIntervalModel" "isWrong" "Z", Cond.fieldLink RX11 202 "ComposedIntervalModel" "to" "I", Cond.fieldLink RX11 205 "ComposedIntervalModel" "from" "I", Cond.methodLink RX11 271 yX11_saves]
def wsL_law_r33 : List Cond := [Cond.instanceMethod yX11_saves, Cond.selects RX11 yX11_saves yX11_saves, Cond.code yX11_saves cX11_saves 2 none, Cond.methodLink RX11 221 yX11_token, Cond.instanceMethod yX11_token, Cond.selects RX11 yX11_token yX11_token, Cond.code yX11_token cX11_token 3 none, Cond.methodLink RX11 208 yX11_byteAt, Cond.instanceMethod yX11_byteAt, Cond.selects RX11 yX11_byteAt yX11_byteAt, Cond.code yX11_byteAt cX11_byteAt 2 (some .int), Cond.methodLink RX11 211 yX11_isLetter, Cond.static yX11_isLetter, Cond.code yX11_isLetter cX11_isLetter 1 (some .boolean), Cond.constantLong RX11 194 (97), Cond.constantLong RX11 196 (122), Cond.methodLink RX11 214 yX11_isDigit, Cond.static yX11_isDigit, Cond.code yX11_isDigit cX11_isDigit 1 (some .boolean), Cond.constantLong RX11 198 (48), Cond.constantLong RX11 200 (57), Cond.methodLink RX11 274 yX11_item, Cond.instanceMethod yX11_item, Cond.selects RX11 yX11_item yX11_item]
def wsL_law_r34 : List Cond := [Cond.code yX11_item cX11_item 4 none, Cond.constantLong RX11 263 (20037189), Cond.constantLong RX11 269 (71052), Cond.methodLink RX11 257 yX11_kindHere, Cond.instanceMethod yX11_kindHere, Cond.selects RX11 yX11_kindHere yX11_kindHere, Cond.code yX11_kindHere cX11_kindHere 3 (some .int), Cond.constantLong RX11 239 (8033908), Cond.constantLong RX11 241 (5707193), Cond.constantLong RX11 243 (647437490), Cond.constantLong RX11 245 (394885), Cond.constantLong RX11 247 (140993), Cond.constantLong RX11 249 (19191852), Cond.methodLink RX11 235 yX11_word, Cond.instanceMethod yX11_word, Cond.selects RX11 yX11_word yX11_word, Cond.code yX11_word cX11_word 4 (some .long), Cond.constantLong RX11 224 (36028797018963967), Cond.constantLong RX11 226 (32), Cond.methodLink RX11 260 yX11_personItem, Cond.instanceMethod yX11_personItem, Cond.selects RX11 yX11_personItem yX11_personItem, Cond.code yX11_personItem cX11_personItem 3 none, Cond.fieldLink RX11 228 "ComposedIntervalModel" "value" "I"]
def wsL_law_r35 : List Cond := [Cond.constantLong RX11 255 (18523243), Cond.methodLink RX11 231 yX11_must, Cond.instanceMethod yX11_must, Cond.selects RX11 yX11_must yX11_must, Cond.code yX11_must cX11_must 2 none, Cond.methodLink RX11 251 yX11_number, Cond.instanceMethod yX11_number, Cond.selects RX11 yX11_number yX11_number, Cond.code yX11_number cX11_number 6 none, Cond.methodLink RX11 265 yX11_toldItem, Cond.instanceMethod yX11_toldItem, Cond.selects RX11 yX11_toldItem yX11_toldItem, Cond.code yX11_toldItem cX11_toldItem 5 none, Cond.methodLink RX11 277 yX11_putsBack, Cond.instanceMethod yX11_putsBack, Cond.selects RX11 yX11_putsBack yX11_putsBack, Cond.code yX11_putsBack cX11_putsBack 2 none, Cond.methodLink RL 113 yX10_sheet, Cond.instanceMethod yX10_sheet, Cond.selects RX10 yX10_sheet yX10_sheet, Cond.code yX10_sheet cX10_sheet 4 (some .int), Cond.constant RX10 186 (-1000000007), Cond.methodLink RX10 183 yX10_isNoSheet, Cond.static yX10_isNoSheet]
def wsL_law_r36 : List Cond := [Cond.code yX10_isNoSheet cX10_isNoSheet 1 (some .boolean), Cond.instanceMethod yX7_lay, Cond.selects RX7 yX7_lay yX7_lay, Cond.code yX7_lay cX7_lay 3 none, Cond.methodLink RX7 22 yJ7_fill_d0a16, Cond.static yJ7_fill_d0a16, Cond.initialized RJ7, Cond.code yJ7_fill_d0a16 cJ7_fill_d0a16 5 none, Cond.methodLink RL 116 yX11_sheet, Cond.instanceMethod yX11_sheet, Cond.selects RX11 yX11_sheet yX11_sheet, Cond.code yX11_sheet cX11_sheet 5 (some .int), Cond.constant RX11 285 (-1000000007), Cond.methodLink RX11 282 yX11_isOne, Cond.static yX11_isOne, Cond.code yX11_isOne cX11_isOne 1 (some .boolean), Cond.constantLong RX11 280 (3), Cond.methodLink RL 119 yX10_write, Cond.instanceMethod yX10_write, Cond.selects RX10 yX10_write yX10_write, Cond.code yX10_write cX10_write 8 (some .long), Cond.methodLink RX10 194 yX10_sheetFinding, Cond.instanceMethod yX10_sheetFinding, Cond.selects RX10 yX10_sheetFinding yX10_sheetFinding]
def wsL_law_r37 : List Cond := [Cond.code yX10_sheetFinding cX10_sheetFinding 2 (some .int), Cond.constant RX10 209 (-1000000006), Cond.instanceMethod yX7_isMissing, Cond.selects RX7 yX7_isMissing yX7_isMissing, Cond.code yX7_isMissing cX7_isMissing 1 (some .boolean), Cond.instanceMethod yX7_narrow, Cond.selects RX7 yX7_narrow yX7_narrow, Cond.code yX7_narrow cX7_narrow 3 (some .long), Cond.methodLink RL 123 yX11_write, Cond.instanceMethod yX11_write, Cond.selects RX11 yX11_write yX11_write, Cond.code yX11_write cX11_write 8 (some .long), Cond.methodLink RX11 287 yX11_wrongSheet, Cond.instanceMethod yX11_wrongSheet, Cond.selects RX11 yX11_wrongSheet yX11_wrongSheet, Cond.code yX11_wrongSheet cX11_wrongSheet 2 (some .int), Cond.constant RX11 286 (-1000000006), Cond.methodLink RX11 290 yX11_narrowed, Cond.static yX11_narrowed, Cond.code yX11_narrowed cX11_narrowed 3 (some .long), Cond.methodLink RL 124 yX10_copy, Cond.instanceMethod yX10_copy, Cond.selects RX10 yX10_copy yX10_copy, Cond.code yX10_copy cX10_copy 6 (some .int)]
def wsL_law_r38 : List Cond := [Cond.methodLink RX10 216 arraycopyName, Cond.instanceMethod yX7_hasRun, Cond.selects RX7 yX7_hasRun yX7_hasRun, Cond.code yX7_hasRun cX7_hasRun 3 (some .boolean), Cond.methodLink RL 128 yX11_copy, Cond.instanceMethod yX11_copy, Cond.selects RX11 yX11_copy yX11_copy, Cond.code yX11_copy cX11_copy 7 (some .int), Cond.methodLink RL 129 yX10_lays, Cond.instanceMethod yX10_lays, Cond.selects RX10 yX10_lays yX10_lays, Cond.code yX10_lays cX10_lays 7 (some .int), Cond.constantLong RX10 222 (11), Cond.methodLink RL 132 yX11_lays, Cond.instanceMethod yX11_lays, Cond.selects RX11 yX11_lays yX11_lays, Cond.code yX11_lays cX11_lays 6 (some .int), Cond.methodLink RL 133 yX10_book, Cond.instanceMethod yX10_book, Cond.selects RX10 yX10_book yX10_book, Cond.code yX10_book cX10_book 5 (some .int), Cond.methodLink RL 136 yX11_book, Cond.instanceMethod yX11_book, Cond.selects RX11 yX11_book yX11_book]
def wsL_law_r39 : List Cond := [Cond.code yX11_book cX11_book 5 (some .int), Cond.methodLink RL 137 yX10_read, Cond.instanceMethod yX10_read, Cond.selects RX10 yX10_read yX10_read, Cond.code yX10_read cX10_read 7 (some .int), Cond.methodLink RX10 224 yX10_goesAsTold, Cond.instanceMethod yX10_goesAsTold, Cond.selects RX10 yX10_goesAsTold yX10_goesAsTold, Cond.code yX10_goesAsTold cX10_goesAsTold 4 (some .boolean), Cond.methodLink RL 140 yX11_read, Cond.instanceMethod yX11_read, Cond.selects RX11 yX11_read yX11_read, Cond.code yX11_read cX11_read 6 (some .int), Cond.methodLink RX11 294 yX11_isBook, Cond.instanceMethod yX11_isBook, Cond.selects RX11 yX11_isBook yX11_isBook, Cond.code yX11_isBook cX11_isBook 4 (some .boolean), Cond.methodLink RL 141 yX10_image, Cond.instanceMethod yX10_image, Cond.selects RX10 yX10_image yX10_image, Cond.code yX10_image cX10_image 1 (some .int), Cond.methodLink RL 144 yX11_image, Cond.instanceMethod yX11_image, Cond.selects RX11 yX11_image yX11_image]
def wsL_law_r40 : List Cond := [Cond.code yX11_image cX11_image 2 (some .int), Cond.fieldLink RX11 297 "ComposedIntervalModel" "isKept" "Z", Cond.methodLink RL 145 yX10_undo, Cond.instanceMethod yX10_undo, Cond.selects RX10 yX10_undo yX10_undo, Cond.code yX10_undo cX10_undo 1 (some .int), Cond.methodLink RL 148 yX11_undo, Cond.instanceMethod yX11_undo, Cond.selects RX11 yX11_undo yX11_undo, Cond.code yX11_undo cX11_undo 2 (some .int), Cond.methodLink RL 149 yX10_tear, Cond.instanceMethod yX10_tear, Cond.selects RX10 yX10_tear yX10_tear, Cond.code yX10_tear cX10_tear 2 (some .int), Cond.methodLink RL 152 yX11_tear, Cond.instanceMethod yX11_tear, Cond.selects RX11 yX11_tear yX11_tear, Cond.code yX11_tear cX11_tear 2 (some .int), Cond.methodLink RL 153 yX10_count, Cond.instanceMethod yX10_count, Cond.selects RX10 yX10_count yX10_count, Cond.code yX10_count cX10_count 2 (some .int), Cond.methodLink RL 156 yX11_count, Cond.instanceMethod yX11_count]
def wsL_law_r41 : List Cond := [Cond.selects RX11 yX11_count yX11_count, Cond.code yX11_count cX11_count 2 (some .int), Cond.methodLink RL 157 yX10_status, Cond.instanceMethod yX10_status, Cond.selects RX10 yX10_status yX10_status, Cond.code yX10_status cX10_status 4 (some .int), Cond.methodLink RL 160 yX11_status, Cond.instanceMethod yX11_status, Cond.selects RX11 yX11_status yX11_status, Cond.code yX11_status cX11_status 4 (some .int), Cond.constantLong RX11 300 (-1), Cond.constantLong RX11 302 (6)]
def wsL_law : List Cond := (wsL_law_r1 ++ (wsL_law_r2 ++ (wsL_law_r3 ++ (wsL_law_r4 ++ (wsL_law_r5 ++ (wsL_law_r6 ++ (wsL_law_r7 ++ (wsL_law_r8 ++ (wsL_law_r9 ++ (wsL_law_r10 ++ (wsL_law_r11 ++ (wsL_law_r12 ++ (wsL_law_r13 ++ (wsL_law_r14 ++ (wsL_law_r15 ++ (wsL_law_r16 ++ (wsL_law_r17 ++ (wsL_law_r18 ++ (wsL_law_r19 ++ (wsL_law_r20 ++ (wsL_law_r21 ++ (wsL_law_r22 ++ (wsL_law_r23 ++ (wsL_law_r24 ++ (wsL_law_r25 ++ (wsL_law_r26 ++ (wsL_law_r27 ++ (wsL_law_r28 ++ (wsL_law_r29 ++ (wsL_law_r30 ++ (wsL_law_r31 ++ (wsL_law_r32 ++ (wsL_law_r33 ++ (wsL_law_r34 ++ (wsL_law_r35 ++ (wsL_law_r36 ++ (wsL_law_r37 ++ (wsL_law_r38 ++ (wsL_law_r39 ++ (wsL_law_r40 ++ wsL_law_r41)))))))))))))))))))))))))))))))))))))))) ++ wsX100 ++ wsX110 ++ wsX90 ++ wsX00 ++ wsX30 ++ wsX70 ++ wsX40 ++ wsX20 ++ wsX80 ++ wsX50 ++ wsX10 ++ wsX60 ++ ([] : List Cond)
theorem inlX0 : ∀ w ∈ wsX00, w ∈ wsL_law := fun _ h => List.mem_append_left _ (List.mem_append_left _ (List.mem_append_left _ (List.mem_append_left _ (List.mem_append_left _ (List.mem_append_left _ (List.mem_append_left _ (List.mem_append_left _ (List.mem_append_left _ (List.mem_append_right _ h)))))))))
theorem inlX1 : ∀ w ∈ wsX10, w ∈ wsL_law := fun _ h => List.mem_append_left _ (List.mem_append_left _ (List.mem_append_right _ h))
theorem inlX2 : ∀ w ∈ wsX20, w ∈ wsL_law := fun _ h => List.mem_append_left _ (List.mem_append_left _ (List.mem_append_left _ (List.mem_append_left _ (List.mem_append_left _ (List.mem_append_right _ h)))))
theorem inlX3 : ∀ w ∈ wsX30, w ∈ wsL_law := fun _ h => List.mem_append_left _ (List.mem_append_left _ (List.mem_append_left _ (List.mem_append_left _ (List.mem_append_left _ (List.mem_append_left _ (List.mem_append_left _ (List.mem_append_left _ (List.mem_append_right _ h))))))))
theorem inlX4 : ∀ w ∈ wsX40, w ∈ wsL_law := fun _ h => List.mem_append_left _ (List.mem_append_left _ (List.mem_append_left _ (List.mem_append_left _ (List.mem_append_left _ (List.mem_append_left _ (List.mem_append_right _ h))))))
theorem inlX5 : ∀ w ∈ wsX50, w ∈ wsL_law := fun _ h => List.mem_append_left _ (List.mem_append_left _ (List.mem_append_left _ (List.mem_append_right _ h)))
theorem inlX6 : ∀ w ∈ wsX60, w ∈ wsL_law := fun _ h => List.mem_append_left _ (List.mem_append_right _ h)
theorem inlX7 : ∀ w ∈ wsX70, w ∈ wsL_law := fun _ h => List.mem_append_left _ (List.mem_append_left _ (List.mem_append_left _ (List.mem_append_left _ (List.mem_append_left _ (List.mem_append_left _ (List.mem_append_left _ (List.mem_append_right _ h)))))))
theorem inlX8 : ∀ w ∈ wsX80, w ∈ wsL_law := fun _ h => List.mem_append_left _ (List.mem_append_left _ (List.mem_append_left _ (List.mem_append_left _ (List.mem_append_right _ h))))
theorem inlX9 : ∀ w ∈ wsX90, w ∈ wsL_law := fun _ h => List.mem_append_left _ (List.mem_append_left _ (List.mem_append_left _ (List.mem_append_left _ (List.mem_append_left _ (List.mem_append_left _ (List.mem_append_left _ (List.mem_append_left _ (List.mem_append_left _ (List.mem_append_left _ (List.mem_append_right _ h))))))))))
theorem inlX10 : ∀ w ∈ wsX100, w ∈ wsL_law := fun _ h => List.mem_append_left _ (List.mem_append_left _ (List.mem_append_left _ (List.mem_append_left _ (List.mem_append_left _ (List.mem_append_left _ (List.mem_append_left _ (List.mem_append_left _ (List.mem_append_left _ (List.mem_append_left _ (List.mem_append_left _ (List.mem_append_left _ (List.mem_append_right _ h))))))))))))
theorem inlX11 : ∀ w ∈ wsX110, w ∈ wsL_law := fun _ h => List.mem_append_left _ (List.mem_append_left _ (List.mem_append_left _ (List.mem_append_left _ (List.mem_append_left _ (List.mem_append_left _ (List.mem_append_left _ (List.mem_append_left _ (List.mem_append_left _ (List.mem_append_left _ (List.mem_append_left _ (List.mem_append_right _ h)))))))))))
abbrev vwCl : List vw_C := [(RX0, TX0, 6), (RX1, TX1, 0), (RX2, TX2, 0), (RX3, TX3, 15), (RX4, TX4, 0), (RX5, TX5, 0), (RX6, TX6, 0), (RX7, TX7, 3), (RX8, TX8, 0), (RX9, TX9, 6), (RX10, TX10, 7), (RX11, TX11, 18)]
end
section
theorem dX0_init_0 : decode cX0_init 0 = .ok (.aload_n 0, 1) := by decide +kernel
theorem dX0_init_1 : decode cX0_init 1 = .ok (.invokespecial 1, 3) := by decide +kernel
theorem dX0_init_4 : decode cX0_init 4 = .ok (.aload_n 0, 1) := by decide +kernel
theorem dX0_init_5 : decode cX0_init 5 = .ok (.new 7, 3) := by decide +kernel
theorem dX0_init_8 : decode cX0_init 8 = .ok (.dup, 1) := by decide +kernel
theorem dX0_init_9 : decode cX0_init 9 = .ok (.invokespecial 9, 3) := by decide +kernel
theorem dX0_init_12 : decode cX0_init 12 = .ok (.putfield 10, 3) := by decide +kernel
theorem dX0_init_15 : decode cX0_init 15 = .ok (.aload_n 0, 1) := by decide +kernel
theorem dX0_init_16 : decode cX0_init 16 = .ok (.new 16, 3) := by decide +kernel
theorem dX0_init_19 : decode cX0_init 19 = .ok (.dup, 1) := by decide +kernel
theorem dX0_init_20 : decode cX0_init 20 = .ok (.invokespecial 18, 3) := by decide +kernel
theorem dX0_init_23 : decode cX0_init 23 = .ok (.putfield 19, 3) := by decide +kernel
theorem dX0_init_26 : decode cX0_init 26 = .ok (.aload_n 0, 1) := by decide +kernel
theorem dX0_init_27 : decode cX0_init 27 = .ok (.new 22, 3) := by decide +kernel
theorem dX0_init_30 : decode cX0_init 30 = .ok (.dup, 1) := by decide +kernel
theorem dX0_init_31 : decode cX0_init 31 = .ok (.invokespecial 24, 3) := by decide +kernel
theorem dX0_init_34 : decode cX0_init 34 = .ok (.putfield 25, 3) := by decide +kernel
theorem dX0_init_37 : decode cX0_init 37 = .ok (.aload_n 0, 1) := by decide +kernel
theorem dX0_init_38 : decode cX0_init 38 = .ok (.new 28, 3) := by decide +kernel
theorem dX0_init_41 : decode cX0_init 41 = .ok (.dup, 1) := by decide +kernel
theorem dX0_init_42 : decode cX0_init 42 = .ok (.invokespecial 30, 3) := by decide +kernel
theorem dX0_init_45 : decode cX0_init 45 = .ok (.putfield 31, 3) := by decide +kernel
theorem dX0_init_48 : decode cX0_init 48 = .ok (.aload_n 0, 1) := by decide +kernel
theorem dX0_init_49 : decode cX0_init 49 = .ok (.new 34, 3) := by decide +kernel
theorem dX0_init_52 : decode cX0_init 52 = .ok (.dup, 1) := by decide +kernel
theorem dX0_init_53 : decode cX0_init 53 = .ok (.invokespecial 36, 3) := by decide +kernel
theorem dX0_init_56 : decode cX0_init 56 = .ok (.putfield 37, 3) := by decide +kernel
theorem dX0_init_59 : decode cX0_init 59 = .ok (.aload_n 0, 1) := by decide +kernel
theorem dX0_init_60 : decode cX0_init 60 = .ok (.new 40, 3) := by decide +kernel
theorem dX0_init_63 : decode cX0_init 63 = .ok (.dup, 1) := by decide +kernel
theorem dX0_init_64 : decode cX0_init 64 = .ok (.invokespecial 42, 3) := by decide +kernel
theorem dX0_init_67 : decode cX0_init 67 = .ok (.putfield 43, 3) := by decide +kernel
theorem dX0_init_70 : decode cX0_init 70 = .ok (.return_, 1) := by decide +kernel
theorem dX0_numbered_0 : decode cX0_numbered 0 = .ok (.iload_n 1, 1) := by decide +kernel
theorem dX0_numbered_1 : decode cX0_numbered 1 = .ok (.tableswitch 60 1 5 #[35, 40, 45, 50, 55], 35) := by decide +kernel
theorem dX0_numbered_36 : decode cX0_numbered 36 = .ok (.aload_n 0, 1) := by decide +kernel
theorem dX0_numbered_37 : decode cX0_numbered 37 = .ok (.getfield 19, 3) := by decide +kernel
theorem dX0_numbered_40 : decode cX0_numbered 40 = .ok (.areturn, 1) := by decide +kernel
theorem dX0_numbered_41 : decode cX0_numbered 41 = .ok (.aload_n 0, 1) := by decide +kernel
theorem dX0_numbered_42 : decode cX0_numbered 42 = .ok (.getfield 25, 3) := by decide +kernel
theorem dX0_numbered_45 : decode cX0_numbered 45 = .ok (.areturn, 1) := by decide +kernel
theorem dX0_numbered_46 : decode cX0_numbered 46 = .ok (.aload_n 0, 1) := by decide +kernel
theorem dX0_numbered_47 : decode cX0_numbered 47 = .ok (.getfield 31, 3) := by decide +kernel
theorem dX0_numbered_50 : decode cX0_numbered 50 = .ok (.areturn, 1) := by decide +kernel
theorem dX0_numbered_51 : decode cX0_numbered 51 = .ok (.aload_n 0, 1) := by decide +kernel
theorem dX0_numbered_52 : decode cX0_numbered 52 = .ok (.getfield 37, 3) := by decide +kernel
theorem dX0_numbered_55 : decode cX0_numbered 55 = .ok (.areturn, 1) := by decide +kernel
theorem dX0_numbered_56 : decode cX0_numbered 56 = .ok (.aload_n 0, 1) := by decide +kernel
theorem dX0_numbered_57 : decode cX0_numbered 57 = .ok (.getfield 43, 3) := by decide +kernel
theorem dX0_numbered_60 : decode cX0_numbered 60 = .ok (.areturn, 1) := by decide +kernel
theorem dX0_numbered_61 : decode cX0_numbered 61 = .ok (.aload_n 0, 1) := by decide +kernel
theorem dX0_numbered_62 : decode cX0_numbered 62 = .ok (.getfield 10, 3) := by decide +kernel
theorem dX0_numbered_65 : decode cX0_numbered 65 = .ok (.areturn, 1) := by decide +kernel
theorem dX0_nameOf_0 : decode cX0_nameOf 0 = .ok (.iload_n 0, 1) := by decide +kernel
theorem dX0_nameOf_1 : decode cX0_nameOf 1 = .ok (.tableswitch 50 1 5 #[35, 38, 41, 44, 47], 35) := by decide +kernel
theorem dX0_nameOf_36 : decode cX0_nameOf 36 = .ok (.ldc 46, 2) := by decide +kernel
theorem dX0_nameOf_38 : decode cX0_nameOf 38 = .ok (.areturn, 1) := by decide +kernel
theorem dX0_nameOf_39 : decode cX0_nameOf 39 = .ok (.ldc 47, 2) := by decide +kernel
theorem dX0_nameOf_41 : decode cX0_nameOf 41 = .ok (.areturn, 1) := by decide +kernel
theorem dX0_nameOf_42 : decode cX0_nameOf 42 = .ok (.ldc 48, 2) := by decide +kernel
theorem dX0_nameOf_44 : decode cX0_nameOf 44 = .ok (.areturn, 1) := by decide +kernel
theorem dX0_nameOf_45 : decode cX0_nameOf 45 = .ok (.ldc 49, 2) := by decide +kernel
theorem dX0_nameOf_47 : decode cX0_nameOf 47 = .ok (.areturn, 1) := by decide +kernel
theorem dX0_nameOf_48 : decode cX0_nameOf 48 = .ok (.ldc 50, 2) := by decide +kernel
theorem dX0_nameOf_50 : decode cX0_nameOf 50 = .ok (.areturn, 1) := by decide +kernel
theorem dX0_nameOf_51 : decode cX0_nameOf 51 = .ok (.ldc 51, 2) := by decide +kernel
theorem dX0_nameOf_53 : decode cX0_nameOf 53 = .ok (.areturn, 1) := by decide +kernel
theorem dX1_init_0 : decode cX1_init 0 = .ok (.aload_n 0, 1) := by decide +kernel
theorem dX1_init_1 : decode cX1_init 1 = .ok (.invokespecial 3, 3) := by decide +kernel
theorem dX1_init_4 : decode cX1_init 4 = .ok (.return_, 1) := by decide +kernel
theorem dX1_due_0 : decode cX1_due 0 = .ok (.aload_n 1, 1) := by decide +kernel
theorem dX1_due_1 : decode cX1_due 1 = .ok (.getfield 9, 3) := by decide +kernel
theorem dX1_due_4 : decode cX1_due 4 = .ok (.bipush 8, 2) := by decide +kernel
theorem dX1_due_6 : decode cX1_due 6 = .ok (.irem, 1) := by decide +kernel
theorem dX1_due_7 : decode cX1_due 7 = .ok (.bipush 7, 2) := by decide +kernel
theorem dX1_due_9 : decode cX1_due 9 = .ok (.if_icmp .ne 7, 3) := by decide +kernel
theorem dX1_due_12 : decode cX1_due 12 = .ok (.iconst 1, 1) := by decide +kernel
theorem dX1_due_13 : decode cX1_due 13 = .ok (.goto 4, 3) := by decide +kernel
theorem dX1_due_16 : decode cX1_due 16 = .ok (.iconst 0, 1) := by decide +kernel
theorem dX1_due_17 : decode cX1_due 17 = .ok (.istore_n 3, 1) := by decide +kernel
theorem dX1_due_18 : decode cX1_due 18 = .ok (.iload_n 3, 1) := by decide +kernel
theorem dX1_due_19 : decode cX1_due 19 = .ok (.ifCond .eq 7, 3) := by decide +kernel
theorem dX1_due_22 : decode cX1_due 22 = .ok (.iconst 5, 1) := by decide +kernel
theorem dX1_due_23 : decode cX1_due 23 = .ok (.goto 9, 3) := by decide +kernel
theorem dX1_due_26 : decode cX1_due 26 = .ok (.aload_n 0, 1) := by decide +kernel
theorem dX1_due_27 : decode cX1_due 27 = .ok (.aload_n 1, 1) := by decide +kernel
theorem dX1_due_28 : decode cX1_due 28 = .ok (.iload_n 2, 1) := by decide +kernel
theorem dX1_due_29 : decode cX1_due 29 = .ok (.invokespecial 15, 3) := by decide +kernel
theorem dX1_due_32 : decode cX1_due 32 = .ok (.ireturn, 1) := by decide +kernel
theorem dX1_hears_0 : decode cX1_hears 0 = .ok (.iconst 0, 1) := by decide +kernel
theorem dX1_hears_1 : decode cX1_hears 1 = .ok (.ireturn, 1) := by decide +kernel
theorem dX1_walks_0 : decode cX1_walks 0 = .ok (.aload_n 0, 1) := by decide +kernel
theorem dX1_walks_1 : decode cX1_walks 1 = .ok (.aload_n 1, 1) := by decide +kernel
theorem dX1_walks_2 : decode cX1_walks 2 = .ok (.iload_n 2, 1) := by decide +kernel
theorem dX1_walks_3 : decode cX1_walks 3 = .ok (.iload_n 3, 1) := by decide +kernel
theorem dX1_walks_4 : decode cX1_walks 4 = .ok (.invokespecial 19, 3) := by decide +kernel
theorem dX1_walks_7 : decode cX1_walks 7 = .ok (.aload_n 1, 1) := by decide +kernel
theorem dX1_walks_8 : decode cX1_walks 8 = .ok (.getfield 23, 3) := by decide +kernel
theorem dX1_walks_11 : decode cX1_walks 11 = .ok (.iload_n 2, 1) := by decide +kernel
theorem dX1_walks_12 : decode cX1_walks 12 = .ok (.iaload, 1) := by decide +kernel
theorem dX1_walks_13 : decode cX1_walks 13 = .ok (.iadd, 1) := by decide +kernel
theorem dX1_walks_14 : decode cX1_walks 14 = .ok (.ireturn, 1) := by decide +kernel
theorem dX1_spoils_0 : decode cX1_spoils 0 = .ok (.aload_n 0, 1) := by decide +kernel
theorem dX1_spoils_1 : decode cX1_spoils 1 = .ok (.invokespecial 27, 3) := by decide +kernel
theorem dX1_spoils_4 : decode cX1_spoils 4 = .ok (.iconst 3, 1) := by decide +kernel
theorem dX1_spoils_5 : decode cX1_spoils 5 = .ok (.iadd, 1) := by decide +kernel
theorem dX1_spoils_6 : decode cX1_spoils 6 = .ok (.ireturn, 1) := by decide +kernel
theorem dX2_init_0 : decode cX2_init 0 = .ok (.aload_n 0, 1) := by decide +kernel
theorem dX2_init_1 : decode cX2_init 1 = .ok (.invokespecial 3, 3) := by decide +kernel
theorem dX2_init_4 : decode cX2_init 4 = .ok (.return_, 1) := by decide +kernel
theorem dX2_due_0 : decode cX2_due 0 = .ok (.bipush 11, 2) := by decide +kernel
theorem dX2_due_2 : decode cX2_due 2 = .ok (.aload_n 1, 1) := by decide +kernel
theorem dX2_due_3 : decode cX2_due 3 = .ok (.getfield 9, 3) := by decide +kernel
theorem dX2_due_6 : decode cX2_due 6 = .ok (.isub, 1) := by decide +kernel
theorem dX2_due_7 : decode cX2_due 7 = .ok (.ireturn, 1) := by decide +kernel
theorem dX2_walks_0 : decode cX2_walks 0 = .ok (.aload_n 1, 1) := by decide +kernel
theorem dX2_walks_1 : decode cX2_walks 1 = .ok (.iload_n 2, 1) := by decide +kernel
theorem dX2_walks_2 : decode cX2_walks 2 = .ok (.iload_n 3, 1) := by decide +kernel
theorem dX2_walks_3 : decode cX2_walks 3 = .ok (.invokevirtual 15, 3) := by decide +kernel
theorem dX2_walks_6 : decode cX2_walks 6 = .ok (.ifCond .eq 7, 3) := by decide +kernel
theorem dX2_walks_9 : decode cX2_walks 9 = .ok (.iconst 0, 1) := by decide +kernel
theorem dX2_walks_10 : decode cX2_walks 10 = .ok (.goto 10, 3) := by decide +kernel
theorem dX2_walks_13 : decode cX2_walks 13 = .ok (.aload_n 0, 1) := by decide +kernel
theorem dX2_walks_14 : decode cX2_walks 14 = .ok (.aload_n 1, 1) := by decide +kernel
theorem dX2_walks_15 : decode cX2_walks 15 = .ok (.iload_n 2, 1) := by decide +kernel
theorem dX2_walks_16 : decode cX2_walks 16 = .ok (.iload_n 3, 1) := by decide +kernel
theorem dX2_walks_17 : decode cX2_walks 17 = .ok (.invokespecial 19, 3) := by decide +kernel
theorem dX2_walks_20 : decode cX2_walks 20 = .ok (.ireturn, 1) := by decide +kernel
theorem dX2_spoils_0 : decode cX2_spoils 0 = .ok (.aload_n 0, 1) := by decide +kernel
theorem dX2_spoils_1 : decode cX2_spoils 1 = .ok (.invokespecial 23, 3) := by decide +kernel
theorem dX2_spoils_4 : decode cX2_spoils 4 = .ok (.iconst 1, 1) := by decide +kernel
theorem dX2_spoils_5 : decode cX2_spoils 5 = .ok (.iadd, 1) := by decide +kernel
theorem dX2_spoils_6 : decode cX2_spoils 6 = .ok (.ireturn, 1) := by decide +kernel
theorem dX3_init_0 : decode cX3_init 0 = .ok (.aload_n 0, 1) := by decide +kernel
theorem dX3_init_1 : decode cX3_init 1 = .ok (.invokespecial 3, 3) := by decide +kernel
theorem dX3_init_4 : decode cX3_init 4 = .ok (.aload_n 0, 1) := by decide +kernel
theorem dX3_init_5 : decode cX3_init 5 = .ok (.bipush 6, 2) := by decide +kernel
theorem dX3_init_7 : decode cX3_init 7 = .ok (.newarray .int, 2) := by decide +kernel
theorem dX3_init_9 : decode cX3_init 9 = .ok (.putfield 9, 3) := by decide +kernel
theorem dX3_init_12 : decode cX3_init 12 = .ok (.aload_n 0, 1) := by decide +kernel
theorem dX3_init_13 : decode cX3_init 13 = .ok (.iconst 3, 1) := by decide +kernel
theorem dX3_init_14 : decode cX3_init 14 = .ok (.newarray .int, 2) := by decide +kernel
theorem dX3_init_16 : decode cX3_init 16 = .ok (.putfield 15, 3) := by decide +kernel
theorem dX3_init_19 : decode cX3_init 19 = .ok (.aload_n 0, 1) := by decide +kernel
theorem dX3_init_20 : decode cX3_init 20 = .ok (.bipush 8, 2) := by decide +kernel
theorem dX3_init_22 : decode cX3_init 22 = .ok (.newarray .int, 2) := by decide +kernel
theorem dX3_init_24 : decode cX3_init 24 = .ok (.putfield 18, 3) := by decide +kernel
theorem dX3_init_27 : decode cX3_init 27 = .ok (.aload_n 0, 1) := by decide +kernel
theorem dX3_init_28 : decode cX3_init 28 = .ok (.bipush 8, 2) := by decide +kernel
theorem dX3_init_30 : decode cX3_init 30 = .ok (.newarray .int, 2) := by decide +kernel
theorem dX3_init_32 : decode cX3_init 32 = .ok (.putfield 21, 3) := by decide +kernel
theorem dX3_init_35 : decode cX3_init 35 = .ok (.aload_n 0, 1) := by decide +kernel
theorem dX3_init_36 : decode cX3_init 36 = .ok (.bipush 8, 2) := by decide +kernel
theorem dX3_init_38 : decode cX3_init 38 = .ok (.newarray .int, 2) := by decide +kernel
theorem dX3_init_40 : decode cX3_init 40 = .ok (.putfield 24, 3) := by decide +kernel
theorem dX3_init_43 : decode cX3_init 43 = .ok (.aload_n 0, 1) := by decide +kernel
theorem dX3_init_44 : decode cX3_init 44 = .ok (.bipush 8, 2) := by decide +kernel
theorem dX3_init_46 : decode cX3_init 46 = .ok (.newarray .int, 2) := by decide +kernel
theorem dX3_init_48 : decode cX3_init 48 = .ok (.putfield 27, 3) := by decide +kernel
theorem dX3_init_51 : decode cX3_init 51 = .ok (.aload_n 0, 1) := by decide +kernel
theorem dX3_init_52 : decode cX3_init 52 = .ok (.bipush 8, 2) := by decide +kernel
theorem dX3_init_54 : decode cX3_init 54 = .ok (.newarray .int, 2) := by decide +kernel
theorem dX3_init_56 : decode cX3_init 56 = .ok (.putfield 30, 3) := by decide +kernel
theorem dX3_init_59 : decode cX3_init 59 = .ok (.aload_n 0, 1) := by decide +kernel
theorem dX3_init_60 : decode cX3_init 60 = .ok (.iconst 0, 1) := by decide +kernel
theorem dX3_init_61 : decode cX3_init 61 = .ok (.putfield 33, 3) := by decide +kernel
theorem dX3_init_64 : decode cX3_init 64 = .ok (.aload_n 0, 1) := by decide +kernel
theorem dX3_init_65 : decode cX3_init 65 = .ok (.iconst 0, 1) := by decide +kernel
theorem dX3_init_66 : decode cX3_init 66 = .ok (.putfield 37, 3) := by decide +kernel
theorem dX3_init_69 : decode cX3_init 69 = .ok (.aload_n 0, 1) := by decide +kernel
theorem dX3_init_70 : decode cX3_init 70 = .ok (.iconst 0, 1) := by decide +kernel
theorem dX3_init_71 : decode cX3_init 71 = .ok (.putfield 40, 3) := by decide +kernel
theorem dX3_init_74 : decode cX3_init 74 = .ok (.aload_n 0, 1) := by decide +kernel
theorem dX3_init_75 : decode cX3_init 75 = .ok (.iconst 0, 1) := by decide +kernel
theorem dX3_init_76 : decode cX3_init 76 = .ok (.putfield 43, 3) := by decide +kernel
theorem dX3_init_79 : decode cX3_init 79 = .ok (.aload_n 0, 1) := by decide +kernel
theorem dX3_init_80 : decode cX3_init 80 = .ok (.iconst (-1), 1) := by decide +kernel
theorem dX3_init_81 : decode cX3_init 81 = .ok (.putfield 46, 3) := by decide +kernel
theorem dX3_init_84 : decode cX3_init 84 = .ok (.aload_n 0, 1) := by decide +kernel
theorem dX3_init_85 : decode cX3_init 85 = .ok (.bipush 8, 2) := by decide +kernel
theorem dX3_init_87 : decode cX3_init 87 = .ok (.newarray .int, 2) := by decide +kernel
theorem dX3_init_89 : decode cX3_init 89 = .ok (.putfield 49, 3) := by decide +kernel
theorem dX3_init_92 : decode cX3_init 92 = .ok (.aload_n 0, 1) := by decide +kernel
theorem dX3_init_93 : decode cX3_init 93 = .ok (.iconst 0, 1) := by decide +kernel
theorem dX3_init_94 : decode cX3_init 94 = .ok (.putfield 52, 3) := by decide +kernel
theorem dX3_init_97 : decode cX3_init 97 = .ok (.aload_n 0, 1) := by decide +kernel
theorem dX3_init_98 : decode cX3_init 98 = .ok (.aload_n 1, 1) := by decide +kernel
theorem dX3_init_99 : decode cX3_init 99 = .ok (.putfield 55, 3) := by decide +kernel
theorem dX3_init_102 : decode cX3_init 102 = .ok (.iconst 0, 1) := by decide +kernel
theorem dX3_init_103 : decode cX3_init 103 = .ok (.istore_n 2, 1) := by decide +kernel
theorem dX3_init_104 : decode cX3_init 104 = .ok (.iload_n 2, 1) := by decide +kernel
theorem dX3_init_105 : decode cX3_init 105 = .ok (.bipush 6, 2) := by decide +kernel
theorem dX3_init_107 : decode cX3_init 107 = .ok (.if_icmp .ge 21, 3) := by decide +kernel
theorem dX3_init_110 : decode cX3_init 110 = .ok (.aload_n 0, 1) := by decide +kernel
theorem dX3_init_111 : decode cX3_init 111 = .ok (.getfield 9, 3) := by decide +kernel
theorem dX3_init_114 : decode cX3_init 114 = .ok (.iload_n 2, 1) := by decide +kernel
theorem dX3_init_115 : decode cX3_init 115 = .ok (.iconst 5, 1) := by decide +kernel
theorem dX3_init_116 : decode cX3_init 116 = .ok (.iload_n 2, 1) := by decide +kernel
theorem dX3_init_117 : decode cX3_init 117 = .ok (.imul, 1) := by decide +kernel
theorem dX3_init_118 : decode cX3_init 118 = .ok (.bipush 12, 2) := by decide +kernel
theorem dX3_init_120 : decode cX3_init 120 = .ok (.irem, 1) := by decide +kernel
theorem dX3_init_121 : decode cX3_init 121 = .ok (.iastore, 1) := by decide +kernel
theorem dX3_init_122 : decode cX3_init 122 = .ok (.iinc 2 1, 3) := by decide +kernel
theorem dX3_init_125 : decode cX3_init 125 = .ok (.goto (-21), 3) := by decide +kernel
theorem dX3_init_128 : decode cX3_init 128 = .ok (.iconst 0, 1) := by decide +kernel
theorem dX3_init_129 : decode cX3_init 129 = .ok (.istore_n 2, 1) := by decide +kernel
theorem dX3_init_130 : decode cX3_init 130 = .ok (.iload_n 2, 1) := by decide +kernel
theorem dX3_init_131 : decode cX3_init 131 = .ok (.iconst 3, 1) := by decide +kernel
theorem dX3_init_132 : decode cX3_init 132 = .ok (.if_icmp .ge 21, 3) := by decide +kernel
theorem dX3_init_135 : decode cX3_init 135 = .ok (.aload_n 0, 1) := by decide +kernel
theorem dX3_init_136 : decode cX3_init 136 = .ok (.getfield 15, 3) := by decide +kernel
theorem dX3_init_139 : decode cX3_init 139 = .ok (.iload_n 2, 1) := by decide +kernel
theorem dX3_init_140 : decode cX3_init 140 = .ok (.bipush 10, 2) := by decide +kernel
theorem dX3_init_142 : decode cX3_init 142 = .ok (.iload_n 2, 1) := by decide +kernel
theorem dX3_init_143 : decode cX3_init 143 = .ok (.iconst 1, 1) := by decide +kernel
theorem dX3_init_144 : decode cX3_init 144 = .ok (.iadd, 1) := by decide +kernel
theorem dX3_init_145 : decode cX3_init 145 = .ok (.imul, 1) := by decide +kernel
theorem dX3_init_146 : decode cX3_init 146 = .ok (.iastore, 1) := by decide +kernel
theorem dX3_init_147 : decode cX3_init 147 = .ok (.iinc 2 1, 3) := by decide +kernel
theorem dX3_init_150 : decode cX3_init 150 = .ok (.goto (-20), 3) := by decide +kernel
theorem dX3_init_153 : decode cX3_init 153 = .ok (.return_, 1) := by decide +kernel
theorem dX3_become_0 : decode cX3_become 0 = .ok (.aload_n 1, 1) := by decide +kernel
theorem dX3_become_1 : decode cX3_become 1 = .ok (.getfield 9, 3) := by decide +kernel
theorem dX3_become_4 : decode cX3_become 4 = .ok (.iconst 0, 1) := by decide +kernel
theorem dX3_become_5 : decode cX3_become 5 = .ok (.aload_n 0, 1) := by decide +kernel
theorem dX3_become_6 : decode cX3_become 6 = .ok (.getfield 9, 3) := by decide +kernel
theorem dX3_become_9 : decode cX3_become 9 = .ok (.iconst 0, 1) := by decide +kernel
theorem dX3_become_10 : decode cX3_become 10 = .ok (.bipush 6, 2) := by decide +kernel
theorem dX3_become_12 : decode cX3_become 12 = .ok (.invokestatic 59, 3) := by decide +kernel
theorem dX3_become_15 : decode cX3_become 15 = .ok (.aload_n 1, 1) := by decide +kernel
theorem dX3_become_16 : decode cX3_become 16 = .ok (.getfield 15, 3) := by decide +kernel
theorem dX3_become_19 : decode cX3_become 19 = .ok (.iconst 0, 1) := by decide +kernel
theorem dX3_become_20 : decode cX3_become 20 = .ok (.aload_n 0, 1) := by decide +kernel
theorem dX3_become_21 : decode cX3_become 21 = .ok (.getfield 15, 3) := by decide +kernel
theorem dX3_become_24 : decode cX3_become 24 = .ok (.iconst 0, 1) := by decide +kernel
theorem dX3_become_25 : decode cX3_become 25 = .ok (.iconst 3, 1) := by decide +kernel
theorem dX3_become_26 : decode cX3_become 26 = .ok (.invokestatic 59, 3) := by decide +kernel
theorem dX3_become_29 : decode cX3_become 29 = .ok (.aload_n 1, 1) := by decide +kernel
theorem dX3_become_30 : decode cX3_become 30 = .ok (.getfield 18, 3) := by decide +kernel
theorem dX3_become_33 : decode cX3_become 33 = .ok (.iconst 0, 1) := by decide +kernel
theorem dX3_become_34 : decode cX3_become 34 = .ok (.aload_n 0, 1) := by decide +kernel
theorem dX3_become_35 : decode cX3_become 35 = .ok (.getfield 18, 3) := by decide +kernel
theorem dX3_become_38 : decode cX3_become 38 = .ok (.iconst 0, 1) := by decide +kernel
theorem dX3_become_39 : decode cX3_become 39 = .ok (.bipush 8, 2) := by decide +kernel
theorem dX3_become_41 : decode cX3_become 41 = .ok (.invokestatic 59, 3) := by decide +kernel
theorem dX3_become_44 : decode cX3_become 44 = .ok (.aload_n 1, 1) := by decide +kernel
theorem dX3_become_45 : decode cX3_become 45 = .ok (.getfield 21, 3) := by decide +kernel
theorem dX3_become_48 : decode cX3_become 48 = .ok (.iconst 0, 1) := by decide +kernel
theorem dX3_become_49 : decode cX3_become 49 = .ok (.aload_n 0, 1) := by decide +kernel
theorem dX3_become_50 : decode cX3_become 50 = .ok (.getfield 21, 3) := by decide +kernel
theorem dX3_become_53 : decode cX3_become 53 = .ok (.iconst 0, 1) := by decide +kernel
theorem dX3_become_54 : decode cX3_become 54 = .ok (.bipush 8, 2) := by decide +kernel
theorem dX3_become_56 : decode cX3_become 56 = .ok (.invokestatic 59, 3) := by decide +kernel
theorem dX3_become_59 : decode cX3_become 59 = .ok (.aload_n 1, 1) := by decide +kernel
theorem dX3_become_60 : decode cX3_become 60 = .ok (.getfield 24, 3) := by decide +kernel
theorem dX3_become_63 : decode cX3_become 63 = .ok (.iconst 0, 1) := by decide +kernel
theorem dX3_become_64 : decode cX3_become 64 = .ok (.aload_n 0, 1) := by decide +kernel
theorem dX3_become_65 : decode cX3_become 65 = .ok (.getfield 24, 3) := by decide +kernel
theorem dX3_become_68 : decode cX3_become 68 = .ok (.iconst 0, 1) := by decide +kernel
theorem dX3_become_69 : decode cX3_become 69 = .ok (.bipush 8, 2) := by decide +kernel
theorem dX3_become_71 : decode cX3_become 71 = .ok (.invokestatic 59, 3) := by decide +kernel
theorem dX3_become_74 : decode cX3_become 74 = .ok (.aload_n 1, 1) := by decide +kernel
theorem dX3_become_75 : decode cX3_become 75 = .ok (.getfield 27, 3) := by decide +kernel
theorem dX3_become_78 : decode cX3_become 78 = .ok (.iconst 0, 1) := by decide +kernel
theorem dX3_become_79 : decode cX3_become 79 = .ok (.aload_n 0, 1) := by decide +kernel
theorem dX3_become_80 : decode cX3_become 80 = .ok (.getfield 27, 3) := by decide +kernel
theorem dX3_become_83 : decode cX3_become 83 = .ok (.iconst 0, 1) := by decide +kernel
theorem dX3_become_84 : decode cX3_become 84 = .ok (.bipush 8, 2) := by decide +kernel
theorem dX3_become_86 : decode cX3_become 86 = .ok (.invokestatic 59, 3) := by decide +kernel
theorem dX3_become_89 : decode cX3_become 89 = .ok (.aload_n 1, 1) := by decide +kernel
theorem dX3_become_90 : decode cX3_become 90 = .ok (.getfield 30, 3) := by decide +kernel
theorem dX3_become_93 : decode cX3_become 93 = .ok (.iconst 0, 1) := by decide +kernel
theorem dX3_become_94 : decode cX3_become 94 = .ok (.aload_n 0, 1) := by decide +kernel
theorem dX3_become_95 : decode cX3_become 95 = .ok (.getfield 30, 3) := by decide +kernel
theorem dX3_become_98 : decode cX3_become 98 = .ok (.iconst 0, 1) := by decide +kernel
theorem dX3_become_99 : decode cX3_become 99 = .ok (.bipush 8, 2) := by decide +kernel
theorem dX3_become_101 : decode cX3_become 101 = .ok (.invokestatic 59, 3) := by decide +kernel
theorem dX3_become_104 : decode cX3_become 104 = .ok (.aload_n 0, 1) := by decide +kernel
theorem dX3_become_105 : decode cX3_become 105 = .ok (.aload_n 1, 1) := by decide +kernel
theorem dX3_become_106 : decode cX3_become 106 = .ok (.getfield 33, 3) := by decide +kernel
theorem dX3_become_109 : decode cX3_become 109 = .ok (.putfield 33, 3) := by decide +kernel
theorem dX3_become_112 : decode cX3_become 112 = .ok (.aload_n 0, 1) := by decide +kernel
theorem dX3_become_113 : decode cX3_become 113 = .ok (.aload_n 1, 1) := by decide +kernel
theorem dX3_become_114 : decode cX3_become 114 = .ok (.getfield 37, 3) := by decide +kernel
theorem dX3_become_117 : decode cX3_become 117 = .ok (.putfield 37, 3) := by decide +kernel
theorem dX3_become_120 : decode cX3_become 120 = .ok (.return_, 1) := by decide +kernel
theorem dX3_admit_0 : decode cX3_admit 0 = .ok (.aload_n 0, 1) := by decide +kernel
theorem dX3_admit_1 : decode cX3_admit 1 = .ok (.getfield 37, 3) := by decide +kernel
theorem dX3_admit_4 : decode cX3_admit 4 = .ok (.bipush 8, 2) := by decide +kernel
theorem dX3_admit_6 : decode cX3_admit 6 = .ok (.if_icmp .lt 4, 3) := by decide +kernel
theorem dX3_admit_9 : decode cX3_admit 9 = .ok (.return_, 1) := by decide +kernel
theorem dX3_admit_10 : decode cX3_admit 10 = .ok (.aload_n 0, 1) := by decide +kernel
theorem dX3_admit_11 : decode cX3_admit 11 = .ok (.getfield 18, 3) := by decide +kernel
theorem dX3_admit_14 : decode cX3_admit 14 = .ok (.aload_n 0, 1) := by decide +kernel
theorem dX3_admit_15 : decode cX3_admit 15 = .ok (.getfield 37, 3) := by decide +kernel
theorem dX3_admit_18 : decode cX3_admit 18 = .ok (.iload_n 1, 1) := by decide +kernel
theorem dX3_admit_19 : decode cX3_admit 19 = .ok (.iastore, 1) := by decide +kernel
theorem dX3_admit_20 : decode cX3_admit 20 = .ok (.aload_n 0, 1) := by decide +kernel
theorem dX3_admit_21 : decode cX3_admit 21 = .ok (.getfield 21, 3) := by decide +kernel
theorem dX3_admit_24 : decode cX3_admit 24 = .ok (.aload_n 0, 1) := by decide +kernel
theorem dX3_admit_25 : decode cX3_admit 25 = .ok (.getfield 37, 3) := by decide +kernel
theorem dX3_admit_28 : decode cX3_admit 28 = .ok (.iload_n 2, 1) := by decide +kernel
theorem dX3_admit_29 : decode cX3_admit 29 = .ok (.iastore, 1) := by decide +kernel
theorem dX3_admit_30 : decode cX3_admit 30 = .ok (.aload_n 0, 1) := by decide +kernel
theorem dX3_admit_31 : decode cX3_admit 31 = .ok (.getfield 24, 3) := by decide +kernel
theorem dX3_admit_34 : decode cX3_admit 34 = .ok (.aload_n 0, 1) := by decide +kernel
theorem dX3_admit_35 : decode cX3_admit 35 = .ok (.getfield 37, 3) := by decide +kernel
theorem dX3_admit_38 : decode cX3_admit 38 = .ok (.iload_n 3, 1) := by decide +kernel
theorem dX3_admit_39 : decode cX3_admit 39 = .ok (.iastore, 1) := by decide +kernel
theorem dX3_admit_40 : decode cX3_admit 40 = .ok (.aload_n 0, 1) := by decide +kernel
theorem dX3_admit_41 : decode cX3_admit 41 = .ok (.getfield 27, 3) := by decide +kernel
theorem dX3_admit_44 : decode cX3_admit 44 = .ok (.aload_n 0, 1) := by decide +kernel
theorem dX3_admit_45 : decode cX3_admit 45 = .ok (.getfield 37, 3) := by decide +kernel
theorem dX3_admit_48 : decode cX3_admit 48 = .ok (.iconst 0, 1) := by decide +kernel
theorem dX3_admit_49 : decode cX3_admit 49 = .ok (.iastore, 1) := by decide +kernel
theorem dX3_admit_50 : decode cX3_admit 50 = .ok (.aload_n 0, 1) := by decide +kernel
theorem dX3_admit_51 : decode cX3_admit 51 = .ok (.getfield 30, 3) := by decide +kernel
theorem dX3_admit_54 : decode cX3_admit 54 = .ok (.aload_n 0, 1) := by decide +kernel
theorem dX3_admit_55 : decode cX3_admit 55 = .ok (.getfield 37, 3) := by decide +kernel
theorem dX3_admit_58 : decode cX3_admit 58 = .ok (.iconst 0, 1) := by decide +kernel
theorem dX3_admit_59 : decode cX3_admit 59 = .ok (.iastore, 1) := by decide +kernel
theorem dX3_admit_60 : decode cX3_admit 60 = .ok (.aload_n 0, 1) := by decide +kernel
theorem dX3_admit_61 : decode cX3_admit 61 = .ok (.dup, 1) := by decide +kernel
theorem dX3_admit_62 : decode cX3_admit 62 = .ok (.getfield 37, 3) := by decide +kernel
theorem dX3_admit_65 : decode cX3_admit 65 = .ok (.iconst 1, 1) := by decide +kernel
theorem dX3_admit_66 : decode cX3_admit 66 = .ok (.iadd, 1) := by decide +kernel
theorem dX3_admit_67 : decode cX3_admit 67 = .ok (.putfield 37, 3) := by decide +kernel
theorem dX3_admit_70 : decode cX3_admit 70 = .ok (.return_, 1) := by decide +kernel
theorem dX3_look_0 : decode cX3_look 0 = .ok (.aload_n 0, 1) := by decide +kernel
theorem dX3_look_1 : decode cX3_look 1 = .ok (.aload_n 0, 1) := by decide +kernel
theorem dX3_look_2 : decode cX3_look 2 = .ok (.getfield 33, 3) := by decide +kernel
theorem dX3_look_5 : decode cX3_look 5 = .ok (.bipush 8, 2) := by decide +kernel
theorem dX3_look_7 : decode cX3_look 7 = .ok (.idiv, 1) := by decide +kernel
theorem dX3_look_8 : decode cX3_look 8 = .ok (.bipush 6, 2) := by decide +kernel
theorem dX3_look_10 : decode cX3_look 10 = .ok (.irem, 1) := by decide +kernel
theorem dX3_look_11 : decode cX3_look 11 = .ok (.putfield 40, 3) := by decide +kernel
theorem dX3_look_14 : decode cX3_look 14 = .ok (.aload_n 0, 1) := by decide +kernel
theorem dX3_look_15 : decode cX3_look 15 = .ok (.aload_n 0, 1) := by decide +kernel
theorem dX3_look_16 : decode cX3_look 16 = .ok (.getfield 9, 3) := by decide +kernel
theorem dX3_look_19 : decode cX3_look 19 = .ok (.aload_n 0, 1) := by decide +kernel
theorem dX3_look_20 : decode cX3_look 20 = .ok (.getfield 40, 3) := by decide +kernel
theorem dX3_look_23 : decode cX3_look 23 = .ok (.iaload, 1) := by decide +kernel
theorem dX3_look_24 : decode cX3_look 24 = .ok (.putfield 43, 3) := by decide +kernel
theorem dX3_look_27 : decode cX3_look 27 = .ok (.aload_n 0, 1) := by decide +kernel
theorem dX3_look_28 : decode cX3_look 28 = .ok (.iconst (-1), 1) := by decide +kernel
theorem dX3_look_29 : decode cX3_look 29 = .ok (.putfield 46, 3) := by decide +kernel
theorem dX3_look_32 : decode cX3_look 32 = .ok (.aload_n 0, 1) := by decide +kernel
theorem dX3_look_33 : decode cX3_look 33 = .ok (.getfield 33, 3) := by decide +kernel
theorem dX3_look_36 : decode cX3_look 36 = .ok (.bipush 48, 2) := by decide +kernel
theorem dX3_look_38 : decode cX3_look 38 = .ok (.irem, 1) := by decide +kernel
theorem dX3_look_39 : decode cX3_look 39 = .ok (.istore_n 1, 1) := by decide +kernel
theorem dX3_look_40 : decode cX3_look 40 = .ok (.iconst 0, 1) := by decide +kernel
theorem dX3_look_41 : decode cX3_look 41 = .ok (.istore_n 2, 1) := by decide +kernel
theorem dX3_look_42 : decode cX3_look 42 = .ok (.iload_n 2, 1) := by decide +kernel
theorem dX3_look_43 : decode cX3_look 43 = .ok (.iconst 3, 1) := by decide +kernel
theorem dX3_look_44 : decode cX3_look 44 = .ok (.if_icmp .ge 24, 3) := by decide +kernel
theorem dX3_look_47 : decode cX3_look 47 = .ok (.aload_n 0, 1) := by decide +kernel
theorem dX3_look_48 : decode cX3_look 48 = .ok (.getfield 15, 3) := by decide +kernel
theorem dX3_look_51 : decode cX3_look 51 = .ok (.iload_n 2, 1) := by decide +kernel
theorem dX3_look_52 : decode cX3_look 52 = .ok (.iaload, 1) := by decide +kernel
theorem dX3_look_53 : decode cX3_look 53 = .ok (.iload_n 1, 1) := by decide +kernel
theorem dX3_look_54 : decode cX3_look 54 = .ok (.if_icmp .ne 8, 3) := by decide +kernel
theorem dX3_look_57 : decode cX3_look 57 = .ok (.aload_n 0, 1) := by decide +kernel
theorem dX3_look_58 : decode cX3_look 58 = .ok (.iload_n 2, 1) := by decide +kernel
theorem dX3_look_59 : decode cX3_look 59 = .ok (.putfield 46, 3) := by decide +kernel
theorem dX3_look_62 : decode cX3_look 62 = .ok (.iinc 2 1, 3) := by decide +kernel
theorem dX3_look_65 : decode cX3_look 65 = .ok (.goto (-23), 3) := by decide +kernel
theorem dX3_look_68 : decode cX3_look 68 = .ok (.return_, 1) := by decide +kernel
theorem dX3_guest_0 : decode cX3_guest 0 = .ok (.aload_n 0, 1) := by decide +kernel
theorem dX3_guest_1 : decode cX3_guest 1 = .ok (.getfield 55, 3) := by decide +kernel
theorem dX3_guest_4 : decode cX3_guest 4 = .ok (.aload_n 0, 1) := by decide +kernel
theorem dX3_guest_5 : decode cX3_guest 5 = .ok (.getfield 18, 3) := by decide +kernel
theorem dX3_guest_8 : decode cX3_guest 8 = .ok (.iload_n 1, 1) := by decide +kernel
theorem dX3_guest_9 : decode cX3_guest 9 = .ok (.iaload, 1) := by decide +kernel
theorem dX3_guest_10 : decode cX3_guest 10 = .ok (.invokevirtual 65, 3) := by decide +kernel
theorem dX3_guest_13 : decode cX3_guest 13 = .ok (.areturn, 1) := by decide +kernel
theorem dX3_isDeceived_0 : decode cX3_isDeceived 0 = .ok (.aload_n 0, 1) := by decide +kernel
theorem dX3_isDeceived_1 : decode cX3_isDeceived 1 = .ok (.getfield 46, 3) := by decide +kernel
theorem dX3_isDeceived_4 : decode cX3_isDeceived 4 = .ok (.ifCond .lt 20, 3) := by decide +kernel
theorem dX3_isDeceived_7 : decode cX3_isDeceived 7 = .ok (.aload_n 0, 1) := by decide +kernel
theorem dX3_isDeceived_8 : decode cX3_isDeceived 8 = .ok (.iload_n 1, 1) := by decide +kernel
theorem dX3_isDeceived_9 : decode cX3_isDeceived 9 = .ok (.invokevirtual 71, 3) := by decide +kernel
theorem dX3_isDeceived_12 : decode cX3_isDeceived 12 = .ok (.aload_n 0, 1) := by decide +kernel
theorem dX3_isDeceived_13 : decode cX3_isDeceived 13 = .ok (.iload_n 1, 1) := by decide +kernel
theorem dX3_isDeceived_14 : decode cX3_isDeceived 14 = .ok (.invokevirtual 74, 3) := by decide +kernel
theorem dX3_isDeceived_17 : decode cX3_isDeceived 17 = .ok (.ifCond .eq 7, 3) := by decide +kernel
theorem dX3_isDeceived_20 : decode cX3_isDeceived 20 = .ok (.iconst 1, 1) := by decide +kernel
theorem dX3_isDeceived_21 : decode cX3_isDeceived 21 = .ok (.goto 4, 3) := by decide +kernel
theorem dX3_isDeceived_24 : decode cX3_isDeceived 24 = .ok (.iconst 0, 1) := by decide +kernel
theorem dX3_isDeceived_25 : decode cX3_isDeceived 25 = .ok (.ireturn, 1) := by decide +kernel
theorem dX3_dueOf_0 : decode cX3_dueOf 0 = .ok (.aload_n 0, 1) := by decide +kernel
theorem dX3_dueOf_1 : decode cX3_dueOf 1 = .ok (.iload_n 1, 1) := by decide +kernel
theorem dX3_dueOf_2 : decode cX3_dueOf 2 = .ok (.invokevirtual 71, 3) := by decide +kernel
theorem dX3_dueOf_5 : decode cX3_dueOf 5 = .ok (.astore_n 2, 1) := by decide +kernel
theorem dX3_dueOf_6 : decode cX3_dueOf 6 = .ok (.aload_n 0, 1) := by decide +kernel
theorem dX3_dueOf_7 : decode cX3_dueOf 7 = .ok (.getfield 46, 3) := by decide +kernel
theorem dX3_dueOf_10 : decode cX3_dueOf 10 = .ok (.ifCond .lt 16, 3) := by decide +kernel
theorem dX3_dueOf_13 : decode cX3_dueOf 13 = .ok (.aload_n 2, 1) := by decide +kernel
theorem dX3_dueOf_14 : decode cX3_dueOf 14 = .ok (.aload_n 0, 1) := by decide +kernel
theorem dX3_dueOf_15 : decode cX3_dueOf 15 = .ok (.iload_n 1, 1) := by decide +kernel
theorem dX3_dueOf_16 : decode cX3_dueOf 16 = .ok (.invokevirtual 74, 3) := by decide +kernel
theorem dX3_dueOf_19 : decode cX3_dueOf 19 = .ok (.ifCond .eq 7, 3) := by decide +kernel
theorem dX3_dueOf_22 : decode cX3_dueOf 22 = .ok (.iconst 0, 1) := by decide +kernel
theorem dX3_dueOf_23 : decode cX3_dueOf 23 = .ok (.goto 9, 3) := by decide +kernel
theorem dX3_dueOf_26 : decode cX3_dueOf 26 = .ok (.aload_n 2, 1) := by decide +kernel
theorem dX3_dueOf_27 : decode cX3_dueOf 27 = .ok (.aload_n 0, 1) := by decide +kernel
theorem dX3_dueOf_28 : decode cX3_dueOf 28 = .ok (.iload_n 1, 1) := by decide +kernel
theorem dX3_dueOf_29 : decode cX3_dueOf 29 = .ok (.invokevirtual 80, 3) := by decide +kernel
theorem dX3_dueOf_32 : decode cX3_dueOf 32 = .ok (.ireturn, 1) := by decide +kernel
theorem dX3_go_0 : decode cX3_go 0 = .ok (.iconst 0, 1) := by decide +kernel
theorem dX3_go_1 : decode cX3_go 1 = .ok (.istore_n 2, 1) := by decide +kernel
theorem dX3_go_2 : decode cX3_go 2 = .ok (.iload_n 2, 1) := by decide +kernel
theorem dX3_go_3 : decode cX3_go 3 = .ok (.iload_n 1, 1) := by decide +kernel
theorem dX3_go_4 : decode cX3_go 4 = .ok (.if_icmp .ge 13, 3) := by decide +kernel
theorem dX3_go_7 : decode cX3_go 7 = .ok (.aload_n 0, 1) := by decide +kernel
theorem dX3_go_8 : decode cX3_go 8 = .ok (.invokevirtual 84, 3) := by decide +kernel
theorem dX3_go_11 : decode cX3_go 11 = .ok (.iinc 2 1, 3) := by decide +kernel
theorem dX3_go_14 : decode cX3_go 14 = .ok (.goto (-12), 3) := by decide +kernel
theorem dX3_go_17 : decode cX3_go 17 = .ok (.return_, 1) := by decide +kernel
theorem dX3_passMinute_0 : decode cX3_passMinute 0 = .ok (.aload_n 0, 1) := by decide +kernel
theorem dX3_passMinute_1 : decode cX3_passMinute 1 = .ok (.invokevirtual 87, 3) := by decide +kernel
theorem dX3_passMinute_4 : decode cX3_passMinute 4 = .ok (.iconst 0, 1) := by decide +kernel
theorem dX3_passMinute_5 : decode cX3_passMinute 5 = .ok (.istore_n 1, 1) := by decide +kernel
theorem dX3_passMinute_6 : decode cX3_passMinute 6 = .ok (.iload_n 1, 1) := by decide +kernel
theorem dX3_passMinute_7 : decode cX3_passMinute 7 = .ok (.aload_n 0, 1) := by decide +kernel
theorem dX3_passMinute_8 : decode cX3_passMinute 8 = .ok (.getfield 37, 3) := by decide +kernel
theorem dX3_passMinute_11 : decode cX3_passMinute 11 = .ok (.if_icmp .ge 72, 3) := by decide +kernel
theorem dX3_passMinute_14 : decode cX3_passMinute 14 = .ok (.aload_n 0, 1) := by decide +kernel
theorem dX3_passMinute_15 : decode cX3_passMinute 15 = .ok (.iload_n 1, 1) := by decide +kernel
theorem dX3_passMinute_16 : decode cX3_passMinute 16 = .ok (.invokevirtual 90, 3) := by decide +kernel
theorem dX3_passMinute_19 : decode cX3_passMinute 19 = .ok (.istore_n 2, 1) := by decide +kernel
theorem dX3_passMinute_20 : decode cX3_passMinute 20 = .ok (.iload_n 2, 1) := by decide +kernel
theorem dX3_passMinute_21 : decode cX3_passMinute 21 = .ok (.aload_n 0, 1) := by decide +kernel
theorem dX3_passMinute_22 : decode cX3_passMinute 22 = .ok (.getfield 21, 3) := by decide +kernel
theorem dX3_passMinute_25 : decode cX3_passMinute 25 = .ok (.iload_n 1, 1) := by decide +kernel
theorem dX3_passMinute_26 : decode cX3_passMinute 26 = .ok (.iaload, 1) := by decide +kernel
theorem dX3_passMinute_27 : decode cX3_passMinute 27 = .ok (.isub, 1) := by decide +kernel
theorem dX3_passMinute_28 : decode cX3_passMinute 28 = .ok (.istore_n 3, 1) := by decide +kernel
theorem dX3_passMinute_29 : decode cX3_passMinute 29 = .ok (.aload_n 0, 1) := by decide +kernel
theorem dX3_passMinute_30 : decode cX3_passMinute 30 = .ok (.iload_n 1, 1) := by decide +kernel
theorem dX3_passMinute_31 : decode cX3_passMinute 31 = .ok (.invokevirtual 71, 3) := by decide +kernel
theorem dX3_passMinute_34 : decode cX3_passMinute 34 = .ok (.aload_n 0, 1) := by decide +kernel
theorem dX3_passMinute_35 : decode cX3_passMinute 35 = .ok (.iload_n 1, 1) := by decide +kernel
theorem dX3_passMinute_36 : decode cX3_passMinute 36 = .ok (.iload_n 2, 1) := by decide +kernel
theorem dX3_passMinute_37 : decode cX3_passMinute 37 = .ok (.invokevirtual 94, 3) := by decide +kernel
theorem dX3_passMinute_40 : decode cX3_passMinute 40 = .ok (.iload_n 3, 1) := by decide +kernel
theorem dX3_passMinute_41 : decode cX3_passMinute 41 = .ok (.invokestatic 98, 3) := by decide +kernel
theorem dX3_passMinute_44 : decode cX3_passMinute 44 = .ok (.invokestatic 103, 3) := by decide +kernel
theorem dX3_passMinute_47 : decode cX3_passMinute 47 = .ok (.istore 4, 2) := by decide +kernel
theorem dX3_passMinute_49 : decode cX3_passMinute 49 = .ok (.aload_n 0, 1) := by decide +kernel
theorem dX3_passMinute_50 : decode cX3_passMinute 50 = .ok (.getfield 21, 3) := by decide +kernel
theorem dX3_passMinute_53 : decode cX3_passMinute 53 = .ok (.iload_n 1, 1) := by decide +kernel
theorem dX3_passMinute_54 : decode cX3_passMinute 54 = .ok (.dup2, 1) := by decide +kernel
theorem dX3_passMinute_55 : decode cX3_passMinute 55 = .ok (.iaload, 1) := by decide +kernel
theorem dX3_passMinute_56 : decode cX3_passMinute 56 = .ok (.iload_n 3, 1) := by decide +kernel
theorem dX3_passMinute_57 : decode cX3_passMinute 57 = .ok (.ifCond .le 8, 3) := by decide +kernel
theorem dX3_passMinute_60 : decode cX3_passMinute 60 = .ok (.iload 4, 2) := by decide +kernel
theorem dX3_passMinute_62 : decode cX3_passMinute 62 = .ok (.goto 6, 3) := by decide +kernel
theorem dX3_passMinute_65 : decode cX3_passMinute 65 = .ok (.iload 4, 2) := by decide +kernel
theorem dX3_passMinute_67 : decode cX3_passMinute 67 = .ok (.ineg, 1) := by decide +kernel
theorem dX3_passMinute_68 : decode cX3_passMinute 68 = .ok (.iadd, 1) := by decide +kernel
theorem dX3_passMinute_69 : decode cX3_passMinute 69 = .ok (.iastore, 1) := by decide +kernel
theorem dX3_passMinute_70 : decode cX3_passMinute 70 = .ok (.aload_n 0, 1) := by decide +kernel
theorem dX3_passMinute_71 : decode cX3_passMinute 71 = .ok (.getfield 49, 3) := by decide +kernel
theorem dX3_passMinute_74 : decode cX3_passMinute 74 = .ok (.iload_n 1, 1) := by decide +kernel
theorem dX3_passMinute_75 : decode cX3_passMinute 75 = .ok (.iload_n 2, 1) := by decide +kernel
theorem dX3_passMinute_76 : decode cX3_passMinute 76 = .ok (.iastore, 1) := by decide +kernel
theorem dX3_passMinute_77 : decode cX3_passMinute 77 = .ok (.iinc 1 1, 3) := by decide +kernel
theorem dX3_passMinute_80 : decode cX3_passMinute 80 = .ok (.goto (-74), 3) := by decide +kernel
theorem dX3_passMinute_83 : decode cX3_passMinute 83 = .ok (.aload_n 0, 1) := by decide +kernel
theorem dX3_passMinute_84 : decode cX3_passMinute 84 = .ok (.invokevirtual 107, 3) := by decide +kernel
theorem dX3_passMinute_87 : decode cX3_passMinute 87 = .ok (.aload_n 0, 1) := by decide +kernel
theorem dX3_passMinute_88 : decode cX3_passMinute 88 = .ok (.dup, 1) := by decide +kernel
theorem dX3_passMinute_89 : decode cX3_passMinute 89 = .ok (.getfield 33, 3) := by decide +kernel
theorem dX3_passMinute_92 : decode cX3_passMinute 92 = .ok (.iconst 1, 1) := by decide +kernel
theorem dX3_passMinute_93 : decode cX3_passMinute 93 = .ok (.iadd, 1) := by decide +kernel
theorem dX3_passMinute_94 : decode cX3_passMinute 94 = .ok (.putfield 33, 3) := by decide +kernel
theorem dX3_passMinute_97 : decode cX3_passMinute 97 = .ok (.return_, 1) := by decide +kernel
theorem dX3_markMinute_0 : decode cX3_markMinute 0 = .ok (.aload_n 0, 1) := by decide +kernel
theorem dX3_markMinute_1 : decode cX3_markMinute 1 = .ok (.iconst 0, 1) := by decide +kernel
theorem dX3_markMinute_2 : decode cX3_markMinute 2 = .ok (.putfield 52, 3) := by decide +kernel
theorem dX3_markMinute_5 : decode cX3_markMinute 5 = .ok (.iconst 0, 1) := by decide +kernel
theorem dX3_markMinute_6 : decode cX3_markMinute 6 = .ok (.istore_n 1, 1) := by decide +kernel
theorem dX3_markMinute_7 : decode cX3_markMinute 7 = .ok (.iload_n 1, 1) := by decide +kernel
theorem dX3_markMinute_8 : decode cX3_markMinute 8 = .ok (.aload_n 0, 1) := by decide +kernel
theorem dX3_markMinute_9 : decode cX3_markMinute 9 = .ok (.getfield 37, 3) := by decide +kernel
theorem dX3_markMinute_12 : decode cX3_markMinute 12 = .ok (.if_icmp .ge 86, 3) := by decide +kernel
theorem dX3_markMinute_15 : decode cX3_markMinute 15 = .ok (.aload_n 0, 1) := by decide +kernel
theorem dX3_markMinute_16 : decode cX3_markMinute 16 = .ok (.getfield 21, 3) := by decide +kernel
theorem dX3_markMinute_19 : decode cX3_markMinute 19 = .ok (.iload_n 1, 1) := by decide +kernel
theorem dX3_markMinute_20 : decode cX3_markMinute 20 = .ok (.iaload, 1) := by decide +kernel
theorem dX3_markMinute_21 : decode cX3_markMinute 21 = .ok (.aload_n 0, 1) := by decide +kernel
theorem dX3_markMinute_22 : decode cX3_markMinute 22 = .ok (.getfield 49, 3) := by decide +kernel
theorem dX3_markMinute_25 : decode cX3_markMinute 25 = .ok (.iload_n 1, 1) := by decide +kernel
theorem dX3_markMinute_26 : decode cX3_markMinute 26 = .ok (.iaload, 1) := by decide +kernel
theorem dX3_markMinute_27 : decode cX3_markMinute 27 = .ok (.if_icmp .ne 38, 3) := by decide +kernel
theorem dX3_markMinute_30 : decode cX3_markMinute 30 = .ok (.aload_n 0, 1) := by decide +kernel
theorem dX3_markMinute_31 : decode cX3_markMinute 31 = .ok (.getfield 27, 3) := by decide +kernel
theorem dX3_markMinute_34 : decode cX3_markMinute 34 = .ok (.iload_n 1, 1) := by decide +kernel
theorem dX3_markMinute_35 : decode cX3_markMinute 35 = .ok (.sipush 9999, 3) := by decide +kernel
theorem dX3_markMinute_38 : decode cX3_markMinute 38 = .ok (.aload_n 0, 1) := by decide +kernel
theorem dX3_markMinute_39 : decode cX3_markMinute 39 = .ok (.getfield 27, 3) := by decide +kernel
theorem dX3_markMinute_42 : decode cX3_markMinute 42 = .ok (.iload_n 1, 1) := by decide +kernel
theorem dX3_markMinute_43 : decode cX3_markMinute 43 = .ok (.iaload, 1) := by decide +kernel
theorem dX3_markMinute_44 : decode cX3_markMinute 44 = .ok (.iconst 1, 1) := by decide +kernel
theorem dX3_markMinute_45 : decode cX3_markMinute 45 = .ok (.iadd, 1) := by decide +kernel
theorem dX3_markMinute_46 : decode cX3_markMinute 46 = .ok (.invokestatic 103, 3) := by decide +kernel
theorem dX3_markMinute_49 : decode cX3_markMinute 49 = .ok (.iastore, 1) := by decide +kernel
theorem dX3_markMinute_50 : decode cX3_markMinute 50 = .ok (.aload_n 0, 1) := by decide +kernel
theorem dX3_markMinute_51 : decode cX3_markMinute 51 = .ok (.dup, 1) := by decide +kernel
theorem dX3_markMinute_52 : decode cX3_markMinute 52 = .ok (.getfield 52, 3) := by decide +kernel
theorem dX3_markMinute_55 : decode cX3_markMinute 55 = .ok (.iconst 1, 1) := by decide +kernel
theorem dX3_markMinute_56 : decode cX3_markMinute 56 = .ok (.iload_n 1, 1) := by decide +kernel
theorem dX3_markMinute_57 : decode cX3_markMinute 57 = .ok (.ishl, 1) := by decide +kernel
theorem dX3_markMinute_58 : decode cX3_markMinute 58 = .ok (.ior, 1) := by decide +kernel
theorem dX3_markMinute_59 : decode cX3_markMinute 59 = .ok (.putfield 52, 3) := by decide +kernel
theorem dX3_markMinute_62 : decode cX3_markMinute 62 = .ok (.goto 30, 3) := by decide +kernel
theorem dX3_markMinute_65 : decode cX3_markMinute 65 = .ok (.aload_n 0, 1) := by decide +kernel
theorem dX3_markMinute_66 : decode cX3_markMinute 66 = .ok (.getfield 30, 3) := by decide +kernel
theorem dX3_markMinute_69 : decode cX3_markMinute 69 = .ok (.iload_n 1, 1) := by decide +kernel
theorem dX3_markMinute_70 : decode cX3_markMinute 70 = .ok (.sipush 9999, 3) := by decide +kernel
theorem dX3_markMinute_73 : decode cX3_markMinute 73 = .ok (.aload_n 0, 1) := by decide +kernel
theorem dX3_markMinute_74 : decode cX3_markMinute 74 = .ok (.getfield 30, 3) := by decide +kernel
theorem dX3_markMinute_77 : decode cX3_markMinute 77 = .ok (.iload_n 1, 1) := by decide +kernel
theorem dX3_markMinute_78 : decode cX3_markMinute 78 = .ok (.iaload, 1) := by decide +kernel
theorem dX3_markMinute_79 : decode cX3_markMinute 79 = .ok (.aload_n 0, 1) := by decide +kernel
theorem dX3_markMinute_80 : decode cX3_markMinute 80 = .ok (.iload_n 1, 1) := by decide +kernel
theorem dX3_markMinute_81 : decode cX3_markMinute 81 = .ok (.invokevirtual 71, 3) := by decide +kernel
theorem dX3_markMinute_84 : decode cX3_markMinute 84 = .ok (.invokevirtual 110, 3) := by decide +kernel
theorem dX3_markMinute_87 : decode cX3_markMinute 87 = .ok (.iadd, 1) := by decide +kernel
theorem dX3_markMinute_88 : decode cX3_markMinute 88 = .ok (.invokestatic 103, 3) := by decide +kernel
theorem dX3_markMinute_91 : decode cX3_markMinute 91 = .ok (.iastore, 1) := by decide +kernel
theorem dX3_markMinute_92 : decode cX3_markMinute 92 = .ok (.iinc 1 1, 3) := by decide +kernel
theorem dX3_markMinute_95 : decode cX3_markMinute 95 = .ok (.goto (-88), 3) := by decide +kernel
theorem dX3_markMinute_98 : decode cX3_markMinute 98 = .ok (.return_, 1) := by decide +kernel
theorem dX3_isBarred_0 : decode cX3_isBarred 0 = .ok (.aload_n 0, 1) := by decide +kernel
theorem dX3_isBarred_1 : decode cX3_isBarred 1 = .ok (.getfield 21, 3) := by decide +kernel
theorem dX3_isBarred_4 : decode cX3_isBarred 4 = .ok (.iload_n 1, 1) := by decide +kernel
theorem dX3_isBarred_5 : decode cX3_isBarred 5 = .ok (.iaload, 1) := by decide +kernel
theorem dX3_isBarred_6 : decode cX3_isBarred 6 = .ok (.iload_n 2, 1) := by decide +kernel
theorem dX3_isBarred_7 : decode cX3_isBarred 7 = .ok (.if_icmp .ne 5, 3) := by decide +kernel
theorem dX3_isBarred_10 : decode cX3_isBarred 10 = .ok (.iconst 0, 1) := by decide +kernel
theorem dX3_isBarred_11 : decode cX3_isBarred 11 = .ok (.ireturn, 1) := by decide +kernel
theorem dX3_isBarred_12 : decode cX3_isBarred 12 = .ok (.aload_n 0, 1) := by decide +kernel
theorem dX3_isBarred_13 : decode cX3_isBarred 13 = .ok (.getfield 21, 3) := by decide +kernel
theorem dX3_isBarred_16 : decode cX3_isBarred 16 = .ok (.iload_n 1, 1) := by decide +kernel
theorem dX3_isBarred_17 : decode cX3_isBarred 17 = .ok (.iaload, 1) := by decide +kernel
theorem dX3_isBarred_18 : decode cX3_isBarred 18 = .ok (.iload_n 2, 1) := by decide +kernel
theorem dX3_isBarred_19 : decode cX3_isBarred 19 = .ok (.if_icmp .ge 14, 3) := by decide +kernel
theorem dX3_isBarred_22 : decode cX3_isBarred 22 = .ok (.aload_n 0, 1) := by decide +kernel
theorem dX3_isBarred_23 : decode cX3_isBarred 23 = .ok (.getfield 21, 3) := by decide +kernel
theorem dX3_isBarred_26 : decode cX3_isBarred 26 = .ok (.iload_n 1, 1) := by decide +kernel
theorem dX3_isBarred_27 : decode cX3_isBarred 27 = .ok (.iaload, 1) := by decide +kernel
theorem dX3_isBarred_28 : decode cX3_isBarred 28 = .ok (.iconst 1, 1) := by decide +kernel
theorem dX3_isBarred_29 : decode cX3_isBarred 29 = .ok (.iadd, 1) := by decide +kernel
theorem dX3_isBarred_30 : decode cX3_isBarred 30 = .ok (.goto 11, 3) := by decide +kernel
theorem dX3_isBarred_33 : decode cX3_isBarred 33 = .ok (.aload_n 0, 1) := by decide +kernel
theorem dX3_isBarred_34 : decode cX3_isBarred 34 = .ok (.getfield 21, 3) := by decide +kernel
theorem dX3_isBarred_37 : decode cX3_isBarred 37 = .ok (.iload_n 1, 1) := by decide +kernel
theorem dX3_isBarred_38 : decode cX3_isBarred 38 = .ok (.iaload, 1) := by decide +kernel
theorem dX3_isBarred_39 : decode cX3_isBarred 39 = .ok (.iconst 1, 1) := by decide +kernel
theorem dX3_isBarred_40 : decode cX3_isBarred 40 = .ok (.isub, 1) := by decide +kernel
theorem dX3_isBarred_41 : decode cX3_isBarred 41 = .ok (.istore_n 3, 1) := by decide +kernel
theorem dX3_isBarred_42 : decode cX3_isBarred 42 = .ok (.iconst 0, 1) := by decide +kernel
theorem dX3_isBarred_43 : decode cX3_isBarred 43 = .ok (.istore 4, 2) := by decide +kernel
theorem dX3_isBarred_45 : decode cX3_isBarred 45 = .ok (.iload 4, 2) := by decide +kernel
theorem dX3_isBarred_47 : decode cX3_isBarred 47 = .ok (.aload_n 0, 1) := by decide +kernel
theorem dX3_isBarred_48 : decode cX3_isBarred 48 = .ok (.getfield 37, 3) := by decide +kernel
theorem dX3_isBarred_51 : decode cX3_isBarred 51 = .ok (.if_icmp .ge 28, 3) := by decide +kernel
theorem dX3_isBarred_54 : decode cX3_isBarred 54 = .ok (.iload 4, 2) := by decide +kernel
theorem dX3_isBarred_56 : decode cX3_isBarred 56 = .ok (.iload_n 1, 1) := by decide +kernel
theorem dX3_isBarred_57 : decode cX3_isBarred 57 = .ok (.if_icmp .eq 16, 3) := by decide +kernel
theorem dX3_isBarred_60 : decode cX3_isBarred 60 = .ok (.aload_n 0, 1) := by decide +kernel
theorem dX3_isBarred_61 : decode cX3_isBarred 61 = .ok (.getfield 21, 3) := by decide +kernel
theorem dX3_isBarred_64 : decode cX3_isBarred 64 = .ok (.iload 4, 2) := by decide +kernel
theorem dX3_isBarred_66 : decode cX3_isBarred 66 = .ok (.iaload, 1) := by decide +kernel
theorem dX3_isBarred_67 : decode cX3_isBarred 67 = .ok (.iload_n 3, 1) := by decide +kernel
theorem dX3_isBarred_68 : decode cX3_isBarred 68 = .ok (.if_icmp .ne 5, 3) := by decide +kernel
theorem dX3_isBarred_71 : decode cX3_isBarred 71 = .ok (.iconst 1, 1) := by decide +kernel
theorem dX3_isBarred_72 : decode cX3_isBarred 72 = .ok (.ireturn, 1) := by decide +kernel
theorem dX3_isBarred_73 : decode cX3_isBarred 73 = .ok (.iinc 4 1, 3) := by decide +kernel
theorem dX3_isBarred_76 : decode cX3_isBarred 76 = .ok (.goto (-31), 3) := by decide +kernel
theorem dX3_isBarred_79 : decode cX3_isBarred 79 = .ok (.iconst 0, 1) := by decide +kernel
theorem dX3_isBarred_80 : decode cX3_isBarred 80 = .ok (.ireturn, 1) := by decide +kernel
theorem dX3_whoIsAt_0 : decode cX3_whoIsAt 0 = .ok (.iconst 0, 1) := by decide +kernel
theorem dX3_whoIsAt_1 : decode cX3_whoIsAt 1 = .ok (.istore_n 2, 1) := by decide +kernel
theorem dX3_whoIsAt_2 : decode cX3_whoIsAt 2 = .ok (.iconst 0, 1) := by decide +kernel
theorem dX3_whoIsAt_3 : decode cX3_whoIsAt 3 = .ok (.istore_n 3, 1) := by decide +kernel
theorem dX3_whoIsAt_4 : decode cX3_whoIsAt 4 = .ok (.iload_n 3, 1) := by decide +kernel
theorem dX3_whoIsAt_5 : decode cX3_whoIsAt 5 = .ok (.aload_n 0, 1) := by decide +kernel
theorem dX3_whoIsAt_6 : decode cX3_whoIsAt 6 = .ok (.getfield 37, 3) := by decide +kernel
theorem dX3_whoIsAt_9 : decode cX3_whoIsAt 9 = .ok (.if_icmp .ge 25, 3) := by decide +kernel
theorem dX3_whoIsAt_12 : decode cX3_whoIsAt 12 = .ok (.aload_n 0, 1) := by decide +kernel
theorem dX3_whoIsAt_13 : decode cX3_whoIsAt 13 = .ok (.getfield 21, 3) := by decide +kernel
theorem dX3_whoIsAt_16 : decode cX3_whoIsAt 16 = .ok (.iload_n 3, 1) := by decide +kernel
theorem dX3_whoIsAt_17 : decode cX3_whoIsAt 17 = .ok (.iaload, 1) := by decide +kernel
theorem dX3_whoIsAt_18 : decode cX3_whoIsAt 18 = .ok (.iload_n 1, 1) := by decide +kernel
theorem dX3_whoIsAt_19 : decode cX3_whoIsAt 19 = .ok (.if_icmp .ne 9, 3) := by decide +kernel
theorem dX3_whoIsAt_22 : decode cX3_whoIsAt 22 = .ok (.iload_n 2, 1) := by decide +kernel
theorem dX3_whoIsAt_23 : decode cX3_whoIsAt 23 = .ok (.iconst 1, 1) := by decide +kernel
theorem dX3_whoIsAt_24 : decode cX3_whoIsAt 24 = .ok (.iload_n 3, 1) := by decide +kernel
theorem dX3_whoIsAt_25 : decode cX3_whoIsAt 25 = .ok (.ishl, 1) := by decide +kernel
theorem dX3_whoIsAt_26 : decode cX3_whoIsAt 26 = .ok (.ior, 1) := by decide +kernel
theorem dX3_whoIsAt_27 : decode cX3_whoIsAt 27 = .ok (.istore_n 2, 1) := by decide +kernel
theorem dX3_whoIsAt_28 : decode cX3_whoIsAt 28 = .ok (.iinc 3 1, 3) := by decide +kernel
theorem dX3_whoIsAt_31 : decode cX3_whoIsAt 31 = .ok (.goto (-27), 3) := by decide +kernel
theorem dX3_whoIsAt_34 : decode cX3_whoIsAt 34 = .ok (.iload_n 2, 1) := by decide +kernel
theorem dX3_whoIsAt_35 : decode cX3_whoIsAt 35 = .ok (.ireturn, 1) := by decide +kernel
theorem dX3_whoIsDueHere_0 : decode cX3_whoIsDueHere 0 = .ok (.iconst 0, 1) := by decide +kernel
theorem dX3_whoIsDueHere_1 : decode cX3_whoIsDueHere 1 = .ok (.istore_n 1, 1) := by decide +kernel
theorem dX3_whoIsDueHere_2 : decode cX3_whoIsDueHere 2 = .ok (.iconst 0, 1) := by decide +kernel
theorem dX3_whoIsDueHere_3 : decode cX3_whoIsDueHere 3 = .ok (.istore_n 2, 1) := by decide +kernel
theorem dX3_whoIsDueHere_4 : decode cX3_whoIsDueHere 4 = .ok (.iload_n 2, 1) := by decide +kernel
theorem dX3_whoIsDueHere_5 : decode cX3_whoIsDueHere 5 = .ok (.aload_n 0, 1) := by decide +kernel
theorem dX3_whoIsDueHere_6 : decode cX3_whoIsDueHere 6 = .ok (.getfield 37, 3) := by decide +kernel
theorem dX3_whoIsDueHere_9 : decode cX3_whoIsDueHere 9 = .ok (.if_icmp .ge 29, 3) := by decide +kernel
theorem dX3_whoIsDueHere_12 : decode cX3_whoIsDueHere 12 = .ok (.aload_n 0, 1) := by decide +kernel
theorem dX3_whoIsDueHere_13 : decode cX3_whoIsDueHere 13 = .ok (.getfield 21, 3) := by decide +kernel
theorem dX3_whoIsDueHere_16 : decode cX3_whoIsDueHere 16 = .ok (.iload_n 2, 1) := by decide +kernel
theorem dX3_whoIsDueHere_17 : decode cX3_whoIsDueHere 17 = .ok (.iaload, 1) := by decide +kernel
theorem dX3_whoIsDueHere_18 : decode cX3_whoIsDueHere 18 = .ok (.aload_n 0, 1) := by decide +kernel
theorem dX3_whoIsDueHere_19 : decode cX3_whoIsDueHere 19 = .ok (.iload_n 2, 1) := by decide +kernel
theorem dX3_whoIsDueHere_20 : decode cX3_whoIsDueHere 20 = .ok (.invokevirtual 90, 3) := by decide +kernel
theorem dX3_whoIsDueHere_23 : decode cX3_whoIsDueHere 23 = .ok (.if_icmp .ne 9, 3) := by decide +kernel
theorem dX3_whoIsDueHere_26 : decode cX3_whoIsDueHere 26 = .ok (.iload_n 1, 1) := by decide +kernel
theorem dX3_whoIsDueHere_27 : decode cX3_whoIsDueHere 27 = .ok (.iconst 1, 1) := by decide +kernel
theorem dX3_whoIsDueHere_28 : decode cX3_whoIsDueHere 28 = .ok (.iload_n 2, 1) := by decide +kernel
theorem dX3_whoIsDueHere_29 : decode cX3_whoIsDueHere 29 = .ok (.ishl, 1) := by decide +kernel
theorem dX3_whoIsDueHere_30 : decode cX3_whoIsDueHere 30 = .ok (.ior, 1) := by decide +kernel
theorem dX3_whoIsDueHere_31 : decode cX3_whoIsDueHere 31 = .ok (.istore_n 1, 1) := by decide +kernel
theorem dX3_whoIsDueHere_32 : decode cX3_whoIsDueHere 32 = .ok (.iinc 2 1, 3) := by decide +kernel
theorem dX3_whoIsDueHere_35 : decode cX3_whoIsDueHere 35 = .ok (.goto (-31), 3) := by decide +kernel
theorem dX3_whoIsDueHere_38 : decode cX3_whoIsDueHere 38 = .ok (.iload_n 1, 1) := by decide +kernel
theorem dX3_whoIsDueHere_39 : decode cX3_whoIsDueHere 39 = .ok (.ireturn, 1) := by decide +kernel
theorem dX3_sumOf_0 : decode cX3_sumOf 0 = .ok (.iconst 0, 1) := by decide +kernel
theorem dX3_sumOf_1 : decode cX3_sumOf 1 = .ok (.istore_n 2, 1) := by decide +kernel
theorem dX3_sumOf_2 : decode cX3_sumOf 2 = .ok (.iconst 0, 1) := by decide +kernel
theorem dX3_sumOf_3 : decode cX3_sumOf 3 = .ok (.istore_n 3, 1) := by decide +kernel
theorem dX3_sumOf_4 : decode cX3_sumOf 4 = .ok (.iload_n 3, 1) := by decide +kernel
theorem dX3_sumOf_5 : decode cX3_sumOf 5 = .ok (.aload_n 0, 1) := by decide +kernel
theorem dX3_sumOf_6 : decode cX3_sumOf 6 = .ok (.getfield 37, 3) := by decide +kernel
theorem dX3_sumOf_9 : decode cX3_sumOf 9 = .ok (.if_icmp .ge 15, 3) := by decide +kernel
theorem dX3_sumOf_12 : decode cX3_sumOf 12 = .ok (.iload_n 2, 1) := by decide +kernel
theorem dX3_sumOf_13 : decode cX3_sumOf 13 = .ok (.aload_n 1, 1) := by decide +kernel
theorem dX3_sumOf_14 : decode cX3_sumOf 14 = .ok (.iload_n 3, 1) := by decide +kernel
theorem dX3_sumOf_15 : decode cX3_sumOf 15 = .ok (.iaload, 1) := by decide +kernel
theorem dX3_sumOf_16 : decode cX3_sumOf 16 = .ok (.iadd, 1) := by decide +kernel
theorem dX3_sumOf_17 : decode cX3_sumOf 17 = .ok (.istore_n 2, 1) := by decide +kernel
theorem dX3_sumOf_18 : decode cX3_sumOf 18 = .ok (.iinc 3 1, 3) := by decide +kernel
theorem dX3_sumOf_21 : decode cX3_sumOf 21 = .ok (.goto (-17), 3) := by decide +kernel
theorem dX3_sumOf_24 : decode cX3_sumOf 24 = .ok (.iload_n 2, 1) := by decide +kernel
theorem dX3_sumOf_25 : decode cX3_sumOf 25 = .ok (.ireturn, 1) := by decide +kernel
theorem dX3_sumHarmony_0 : decode cX3_sumHarmony 0 = .ok (.aload_n 0, 1) := by decide +kernel
theorem dX3_sumHarmony_1 : decode cX3_sumHarmony 1 = .ok (.aload_n 0, 1) := by decide +kernel
theorem dX3_sumHarmony_2 : decode cX3_sumHarmony 2 = .ok (.getfield 27, 3) := by decide +kernel
theorem dX3_sumHarmony_5 : decode cX3_sumHarmony 5 = .ok (.invokevirtual 114, 3) := by decide +kernel
theorem dX3_sumHarmony_8 : decode cX3_sumHarmony 8 = .ok (.aload_n 0, 1) := by decide +kernel
theorem dX3_sumHarmony_9 : decode cX3_sumHarmony 9 = .ok (.aload_n 0, 1) := by decide +kernel
theorem dX3_sumHarmony_10 : decode cX3_sumHarmony 10 = .ok (.getfield 30, 3) := by decide +kernel
theorem dX3_sumHarmony_13 : decode cX3_sumHarmony 13 = .ok (.invokevirtual 114, 3) := by decide +kernel
theorem dX3_sumHarmony_16 : decode cX3_sumHarmony 16 = .ok (.isub, 1) := by decide +kernel
theorem dX3_sumHarmony_17 : decode cX3_sumHarmony 17 = .ok (.ireturn, 1) := by decide +kernel
theorem dX4_init_0 : decode cX4_init 0 = .ok (.aload_n 0, 1) := by decide +kernel
theorem dX4_init_1 : decode cX4_init 1 = .ok (.invokespecial 1, 3) := by decide +kernel
theorem dX4_init_4 : decode cX4_init 4 = .ok (.return_, 1) := by decide +kernel
theorem dX4_due_0 : decode cX4_due 0 = .ok (.aload_n 1, 1) := by decide +kernel
theorem dX4_due_1 : decode cX4_due 1 = .ok (.getfield 7, 3) := by decide +kernel
theorem dX4_due_4 : decode cX4_due 4 = .ok (.ireturn, 1) := by decide +kernel
theorem dX4_hears_0 : decode cX4_hears 0 = .ok (.aload_n 1, 1) := by decide +kernel
theorem dX4_hears_1 : decode cX4_hears 1 = .ok (.getfield 13, 3) := by decide +kernel
theorem dX4_hears_4 : decode cX4_hears 4 = .ok (.iload_n 2, 1) := by decide +kernel
theorem dX4_hears_5 : decode cX4_hears 5 = .ok (.iaload, 1) := by decide +kernel
theorem dX4_hears_6 : decode cX4_hears 6 = .ok (.bipush 10, 2) := by decide +kernel
theorem dX4_hears_8 : decode cX4_hears 8 = .ok (.if_icmp .ge 7, 3) := by decide +kernel
theorem dX4_hears_11 : decode cX4_hears 11 = .ok (.iconst 1, 1) := by decide +kernel
theorem dX4_hears_12 : decode cX4_hears 12 = .ok (.goto 4, 3) := by decide +kernel
theorem dX4_hears_15 : decode cX4_hears 15 = .ok (.iconst 0, 1) := by decide +kernel
theorem dX4_hears_16 : decode cX4_hears 16 = .ok (.ireturn, 1) := by decide +kernel
theorem dX4_walks_0 : decode cX4_walks 0 = .ok (.aload_n 1, 1) := by decide +kernel
theorem dX4_walks_1 : decode cX4_walks 1 = .ok (.getfield 17, 3) := by decide +kernel
theorem dX4_walks_4 : decode cX4_walks 4 = .ok (.iload_n 2, 1) := by decide +kernel
theorem dX4_walks_5 : decode cX4_walks 5 = .ok (.iaload, 1) := by decide +kernel
theorem dX4_walks_6 : decode cX4_walks 6 = .ok (.ireturn, 1) := by decide +kernel
theorem dX4_spoils_0 : decode cX4_spoils 0 = .ok (.iconst 1, 1) := by decide +kernel
theorem dX4_spoils_1 : decode cX4_spoils 1 = .ok (.ireturn, 1) := by decide +kernel
theorem dX5_init_0 : decode cX5_init 0 = .ok (.aload_n 0, 1) := by decide +kernel
theorem dX5_init_1 : decode cX5_init 1 = .ok (.invokespecial 3, 3) := by decide +kernel
theorem dX5_init_4 : decode cX5_init 4 = .ok (.return_, 1) := by decide +kernel
theorem dX5_due_0 : decode cX5_due 0 = .ok (.aload_n 1, 1) := by decide +kernel
theorem dX5_due_1 : decode cX5_due 1 = .ok (.getfield 9, 3) := by decide +kernel
theorem dX5_due_4 : decode cX5_due 4 = .ok (.iload_n 2, 1) := by decide +kernel
theorem dX5_due_5 : decode cX5_due 5 = .ok (.iaload, 1) := by decide +kernel
theorem dX5_due_6 : decode cX5_due 6 = .ok (.bipush 11, 2) := by decide +kernel
theorem dX5_due_8 : decode cX5_due 8 = .ok (.if_icmp .lt 7, 3) := by decide +kernel
theorem dX5_due_11 : decode cX5_due 11 = .ok (.iconst 0, 1) := by decide +kernel
theorem dX5_due_12 : decode cX5_due 12 = .ok (.goto 11, 3) := by decide +kernel
theorem dX5_due_15 : decode cX5_due 15 = .ok (.aload_n 1, 1) := by decide +kernel
theorem dX5_due_16 : decode cX5_due 16 = .ok (.getfield 9, 3) := by decide +kernel
theorem dX5_due_19 : decode cX5_due 19 = .ok (.iload_n 2, 1) := by decide +kernel
theorem dX5_due_20 : decode cX5_due 20 = .ok (.iaload, 1) := by decide +kernel
theorem dX5_due_21 : decode cX5_due 21 = .ok (.iconst 1, 1) := by decide +kernel
theorem dX5_due_22 : decode cX5_due 22 = .ok (.iadd, 1) := by decide +kernel
theorem dX5_due_23 : decode cX5_due 23 = .ok (.ireturn, 1) := by decide +kernel
theorem dX5_hears_0 : decode cX5_hears 0 = .ok (.iconst 0, 1) := by decide +kernel
theorem dX5_hears_1 : decode cX5_hears 1 = .ok (.ireturn, 1) := by decide +kernel
theorem dX5_walks_0 : decode cX5_walks 0 = .ok (.iconst 2, 1) := by decide +kernel
theorem dX5_walks_1 : decode cX5_walks 1 = .ok (.aload_n 0, 1) := by decide +kernel
theorem dX5_walks_2 : decode cX5_walks 2 = .ok (.aload_n 1, 1) := by decide +kernel
theorem dX5_walks_3 : decode cX5_walks 3 = .ok (.iload_n 2, 1) := by decide +kernel
theorem dX5_walks_4 : decode cX5_walks 4 = .ok (.iload_n 3, 1) := by decide +kernel
theorem dX5_walks_5 : decode cX5_walks 5 = .ok (.invokespecial 15, 3) := by decide +kernel
theorem dX5_walks_8 : decode cX5_walks 8 = .ok (.imul, 1) := by decide +kernel
theorem dX5_walks_9 : decode cX5_walks 9 = .ok (.ireturn, 1) := by decide +kernel
theorem dX5_spoils_0 : decode cX5_spoils 0 = .ok (.iconst 5, 1) := by decide +kernel
theorem dX5_spoils_1 : decode cX5_spoils 1 = .ok (.ireturn, 1) := by decide +kernel
theorem dX6_init_0 : decode cX6_init 0 = .ok (.aload_n 0, 1) := by decide +kernel
theorem dX6_init_1 : decode cX6_init 1 = .ok (.invokespecial 1, 3) := by decide +kernel
theorem dX6_init_4 : decode cX6_init 4 = .ok (.return_, 1) := by decide +kernel
theorem dX6_due_0 : decode cX6_due 0 = .ok (.iconst 0, 1) := by decide +kernel
theorem dX6_due_1 : decode cX6_due 1 = .ok (.aload_n 0, 1) := by decide +kernel
theorem dX6_due_2 : decode cX6_due 2 = .ok (.aload_n 1, 1) := by decide +kernel
theorem dX6_due_3 : decode cX6_due 3 = .ok (.iload_n 2, 1) := by decide +kernel
theorem dX6_due_4 : decode cX6_due 4 = .ok (.invokespecial 7, 3) := by decide +kernel
theorem dX6_due_7 : decode cX6_due 7 = .ok (.iconst 1, 1) := by decide +kernel
theorem dX6_due_8 : decode cX6_due 8 = .ok (.isub, 1) := by decide +kernel
theorem dX6_due_9 : decode cX6_due 9 = .ok (.invokestatic 11, 3) := by decide +kernel
theorem dX6_due_12 : decode cX6_due 12 = .ok (.ireturn, 1) := by decide +kernel
theorem dX6_hears_0 : decode cX6_hears 0 = .ok (.aload_n 1, 1) := by decide +kernel
theorem dX6_hears_1 : decode cX6_hears 1 = .ok (.getfield 17, 3) := by decide +kernel
theorem dX6_hears_4 : decode cX6_hears 4 = .ok (.iconst 2, 1) := by decide +kernel
theorem dX6_hears_5 : decode cX6_hears 5 = .ok (.if_icmp .eq 16, 3) := by decide +kernel
theorem dX6_hears_8 : decode cX6_hears 8 = .ok (.aload_n 0, 1) := by decide +kernel
theorem dX6_hears_9 : decode cX6_hears 9 = .ok (.aload_n 1, 1) := by decide +kernel
theorem dX6_hears_10 : decode cX6_hears 10 = .ok (.iload_n 2, 1) := by decide +kernel
theorem dX6_hears_11 : decode cX6_hears 11 = .ok (.invokespecial 23, 3) := by decide +kernel
theorem dX6_hears_14 : decode cX6_hears 14 = .ok (.ifCond .eq 7, 3) := by decide +kernel
theorem dX6_hears_17 : decode cX6_hears 17 = .ok (.iconst 1, 1) := by decide +kernel
theorem dX6_hears_18 : decode cX6_hears 18 = .ok (.goto 4, 3) := by decide +kernel
theorem dX6_hears_21 : decode cX6_hears 21 = .ok (.iconst 0, 1) := by decide +kernel
theorem dX6_hears_22 : decode cX6_hears 22 = .ok (.ireturn, 1) := by decide +kernel
theorem dX6_spoils_0 : decode cX6_spoils 0 = .ok (.iconst 2, 1) := by decide +kernel
theorem dX6_spoils_1 : decode cX6_spoils 1 = .ok (.aload_n 0, 1) := by decide +kernel
theorem dX6_spoils_2 : decode cX6_spoils 2 = .ok (.invokespecial 27, 3) := by decide +kernel
theorem dX6_spoils_5 : decode cX6_spoils 5 = .ok (.imul, 1) := by decide +kernel
theorem dX6_spoils_6 : decode cX6_spoils 6 = .ok (.ireturn, 1) := by decide +kernel
theorem dX7_init_0 : decode cX7_init 0 = .ok (.aload_n 0, 1) := by decide +kernel
theorem dX7_init_1 : decode cX7_init 1 = .ok (.invokespecial 3, 3) := by decide +kernel
theorem dX7_init_4 : decode cX7_init 4 = .ok (.aload_n 0, 1) := by decide +kernel
theorem dX7_init_5 : decode cX7_init 5 = .ok (.bipush 40, 2) := by decide +kernel
theorem dX7_init_7 : decode cX7_init 7 = .ok (.newarray .long, 2) := by decide +kernel
theorem dX7_init_9 : decode cX7_init 9 = .ok (.putfield 9, 3) := by decide +kernel
theorem dX7_init_12 : decode cX7_init 12 = .ok (.aload_n 0, 1) := by decide +kernel
theorem dX7_init_13 : decode cX7_init 13 = .ok (.iconst 0, 1) := by decide +kernel
theorem dX7_init_14 : decode cX7_init 14 = .ok (.putfield 15, 3) := by decide +kernel
theorem dX7_init_17 : decode cX7_init 17 = .ok (.aload_n 0, 1) := by decide +kernel
theorem dX7_init_18 : decode cX7_init 18 = .ok (.iconst 0, 1) := by decide +kernel
theorem dX7_init_19 : decode cX7_init 19 = .ok (.putfield 19, 3) := by decide +kernel
theorem dX7_init_22 : decode cX7_init 22 = .ok (.return_, 1) := by decide +kernel
theorem dX7_lay_0 : decode cX7_lay 0 = .ok (.aload_n 0, 1) := by decide +kernel
theorem dX7_lay_1 : decode cX7_lay 1 = .ok (.iload_n 1, 1) := by decide +kernel
theorem dX7_lay_2 : decode cX7_lay 2 = .ok (.putfield 15, 3) := by decide +kernel
theorem dX7_lay_5 : decode cX7_lay 5 = .ok (.aload_n 0, 1) := by decide +kernel
theorem dX7_lay_6 : decode cX7_lay 6 = .ok (.iload_n 1, 1) := by decide +kernel
theorem dX7_lay_7 : decode cX7_lay 7 = .ok (.ifCond .ne 7, 3) := by decide +kernel
theorem dX7_lay_10 : decode cX7_lay 10 = .ok (.iconst 0, 1) := by decide +kernel
theorem dX7_lay_11 : decode cX7_lay 11 = .ok (.goto 4, 3) := by decide +kernel
theorem dX7_lay_14 : decode cX7_lay 14 = .ok (.iload_n 2, 1) := by decide +kernel
theorem dX7_lay_15 : decode cX7_lay 15 = .ok (.putfield 19, 3) := by decide +kernel
theorem dX7_lay_18 : decode cX7_lay 18 = .ok (.aload_n 0, 1) := by decide +kernel
theorem dX7_lay_19 : decode cX7_lay 19 = .ok (.getfield 9, 3) := by decide +kernel
theorem dX7_lay_22 : decode cX7_lay 22 = .ok (.lconst 0, 1) := by decide +kernel
theorem dX7_lay_23 : decode cX7_lay 23 = .ok (.invokestatic 22, 3) := by decide +kernel
theorem dX7_lay_26 : decode cX7_lay 26 = .ok (.return_, 1) := by decide +kernel
theorem dX7_isMissing_0 : decode cX7_isMissing 0 = .ok (.aload_n 0, 1) := by decide +kernel
theorem dX7_isMissing_1 : decode cX7_isMissing 1 = .ok (.getfield 15, 3) := by decide +kernel
theorem dX7_isMissing_4 : decode cX7_isMissing 4 = .ok (.ifCond .ne 7, 3) := by decide +kernel
theorem dX7_isMissing_7 : decode cX7_isMissing 7 = .ok (.iconst 1, 1) := by decide +kernel
theorem dX7_isMissing_8 : decode cX7_isMissing 8 = .ok (.goto 4, 3) := by decide +kernel
theorem dX7_isMissing_11 : decode cX7_isMissing 11 = .ok (.iconst 0, 1) := by decide +kernel
theorem dX7_isMissing_12 : decode cX7_isMissing 12 = .ok (.ireturn, 1) := by decide +kernel
theorem dX7_narrow_0 : decode cX7_narrow 0 = .ok (.aload_n 0, 1) := by decide +kernel
theorem dX7_narrow_1 : decode cX7_narrow 1 = .ok (.getfield 15, 3) := by decide +kernel
theorem dX7_narrow_4 : decode cX7_narrow 4 = .ok (.bipush 8, 2) := by decide +kernel
theorem dX7_narrow_6 : decode cX7_narrow 6 = .ok (.if_icmp .ne 8, 3) := by decide +kernel
theorem dX7_narrow_9 : decode cX7_narrow 9 = .ok (.lload_n 1, 1) := by decide +kernel
theorem dX7_narrow_10 : decode cX7_narrow 10 = .ok (.l2i, 1) := by decide +kernel
theorem dX7_narrow_11 : decode cX7_narrow 11 = .ok (.i2b, 1) := by decide +kernel
theorem dX7_narrow_12 : decode cX7_narrow 12 = .ok (.i2l, 1) := by decide +kernel
theorem dX7_narrow_13 : decode cX7_narrow 13 = .ok (.lreturn, 1) := by decide +kernel
theorem dX7_narrow_14 : decode cX7_narrow 14 = .ok (.aload_n 0, 1) := by decide +kernel
theorem dX7_narrow_15 : decode cX7_narrow 15 = .ok (.getfield 15, 3) := by decide +kernel
theorem dX7_narrow_18 : decode cX7_narrow 18 = .ok (.bipush 16, 2) := by decide +kernel
theorem dX7_narrow_20 : decode cX7_narrow 20 = .ok (.if_icmp .ne 10, 3) := by decide +kernel
theorem dX7_narrow_23 : decode cX7_narrow 23 = .ok (.lload_n 1, 1) := by decide +kernel
theorem dX7_narrow_24 : decode cX7_narrow 24 = .ok (.l2i, 1) := by decide +kernel
theorem dX7_narrow_25 : decode cX7_narrow 25 = .ok (.i2s, 1) := by decide +kernel
theorem dX7_narrow_26 : decode cX7_narrow 26 = .ok (.i2l, 1) := by decide +kernel
theorem dX7_narrow_27 : decode cX7_narrow 27 = .ok (.goto 4, 3) := by decide +kernel
theorem dX7_narrow_30 : decode cX7_narrow 30 = .ok (.lload_n 1, 1) := by decide +kernel
theorem dX7_narrow_31 : decode cX7_narrow 31 = .ok (.lreturn, 1) := by decide +kernel
theorem dX7_hasRun_0 : decode cX7_hasRun 0 = .ok (.iload_n 1, 1) := by decide +kernel
theorem dX7_hasRun_1 : decode cX7_hasRun 1 = .ok (.ifCond .lt 21, 3) := by decide +kernel
theorem dX7_hasRun_4 : decode cX7_hasRun 4 = .ok (.iload_n 2, 1) := by decide +kernel
theorem dX7_hasRun_5 : decode cX7_hasRun 5 = .ok (.ifCond .lt 17, 3) := by decide +kernel
theorem dX7_hasRun_8 : decode cX7_hasRun 8 = .ok (.iload_n 2, 1) := by decide +kernel
theorem dX7_hasRun_9 : decode cX7_hasRun 9 = .ok (.aload_n 0, 1) := by decide +kernel
theorem dX7_hasRun_10 : decode cX7_hasRun 10 = .ok (.getfield 19, 3) := by decide +kernel
theorem dX7_hasRun_13 : decode cX7_hasRun 13 = .ok (.iload_n 1, 1) := by decide +kernel
theorem dX7_hasRun_14 : decode cX7_hasRun 14 = .ok (.isub, 1) := by decide +kernel
theorem dX7_hasRun_15 : decode cX7_hasRun 15 = .ok (.if_icmp .gt 7, 3) := by decide +kernel
theorem dX7_hasRun_18 : decode cX7_hasRun 18 = .ok (.iconst 1, 1) := by decide +kernel
theorem dX7_hasRun_19 : decode cX7_hasRun 19 = .ok (.goto 4, 3) := by decide +kernel
theorem dX7_hasRun_22 : decode cX7_hasRun 22 = .ok (.iconst 0, 1) := by decide +kernel
theorem dX7_hasRun_23 : decode cX7_hasRun 23 = .ok (.ireturn, 1) := by decide +kernel
theorem dX8_init_0 : decode cX8_init 0 = .ok (.aload_n 0, 1) := by decide +kernel
theorem dX8_init_1 : decode cX8_init 1 = .ok (.invokespecial 3, 3) := by decide +kernel
theorem dX8_init_4 : decode cX8_init 4 = .ok (.return_, 1) := by decide +kernel
theorem dX8_due_0 : decode cX8_due 0 = .ok (.aload_n 1, 1) := by decide +kernel
theorem dX8_due_1 : decode cX8_due 1 = .ok (.getfield 9, 3) := by decide +kernel
theorem dX8_due_4 : decode cX8_due 4 = .ok (.iconst 2, 1) := by decide +kernel
theorem dX8_due_5 : decode cX8_due 5 = .ok (.irem, 1) := by decide +kernel
theorem dX8_due_6 : decode cX8_due 6 = .ok (.iconst 1, 1) := by decide +kernel
theorem dX8_due_7 : decode cX8_due 7 = .ok (.if_icmp .ne 8, 3) := by decide +kernel
theorem dX8_due_10 : decode cX8_due 10 = .ok (.bipush 11, 2) := by decide +kernel
theorem dX8_due_12 : decode cX8_due 12 = .ok (.goto 9, 3) := by decide +kernel
theorem dX8_due_15 : decode cX8_due 15 = .ok (.aload_n 0, 1) := by decide +kernel
theorem dX8_due_16 : decode cX8_due 16 = .ok (.aload_n 1, 1) := by decide +kernel
theorem dX8_due_17 : decode cX8_due 17 = .ok (.iload_n 2, 1) := by decide +kernel
theorem dX8_due_18 : decode cX8_due 18 = .ok (.invokespecial 15, 3) := by decide +kernel
theorem dX8_due_21 : decode cX8_due 21 = .ok (.ireturn, 1) := by decide +kernel
theorem dX8_hears_0 : decode cX8_hears 0 = .ok (.iconst 1, 1) := by decide +kernel
theorem dX8_hears_1 : decode cX8_hears 1 = .ok (.ireturn, 1) := by decide +kernel
theorem dX8_walks_0 : decode cX8_walks 0 = .ok (.iconst 1, 1) := by decide +kernel
theorem dX8_walks_1 : decode cX8_walks 1 = .ok (.ireturn, 1) := by decide +kernel
theorem dX8_spoils_0 : decode cX8_spoils 0 = .ok (.iconst 0, 1) := by decide +kernel
theorem dX8_spoils_1 : decode cX8_spoils 1 = .ok (.ireturn, 1) := by decide +kernel
theorem dX9_init_0 : decode cX9_init 0 = .ok (.aload_n 0, 1) := by decide +kernel
theorem dX9_init_1 : decode cX9_init 1 = .ok (.invokespecial 3, 3) := by decide +kernel
theorem dX9_init_4 : decode cX9_init 4 = .ok (.aload_n 0, 1) := by decide +kernel
theorem dX9_init_5 : decode cX9_init 5 = .ok (.bipush 120, 2) := by decide +kernel
theorem dX9_init_7 : decode cX9_init 7 = .ok (.newarray .int, 2) := by decide +kernel
theorem dX9_init_9 : decode cX9_init 9 = .ok (.putfield 9, 3) := by decide +kernel
theorem dX9_init_12 : decode cX9_init 12 = .ok (.aload_n 0, 1) := by decide +kernel
theorem dX9_init_13 : decode cX9_init 13 = .ok (.iconst 0, 1) := by decide +kernel
theorem dX9_init_14 : decode cX9_init 14 = .ok (.putfield 15, 3) := by decide +kernel
theorem dX9_init_17 : decode cX9_init 17 = .ok (.aload_n 0, 1) := by decide +kernel
theorem dX9_init_18 : decode cX9_init 18 = .ok (.iconst 0, 1) := by decide +kernel
theorem dX9_init_19 : decode cX9_init 19 = .ok (.putfield 19, 3) := by decide +kernel
theorem dX9_init_22 : decode cX9_init 22 = .ok (.aload_n 0, 1) := by decide +kernel
theorem dX9_init_23 : decode cX9_init 23 = .ok (.iconst 0, 1) := by decide +kernel
theorem dX9_init_24 : decode cX9_init 24 = .ok (.putfield 22, 3) := by decide +kernel
theorem dX9_init_27 : decode cX9_init 27 = .ok (.aload_n 0, 1) := by decide +kernel
theorem dX9_init_28 : decode cX9_init 28 = .ok (.iconst 0, 1) := by decide +kernel
theorem dX9_init_29 : decode cX9_init 29 = .ok (.putfield 25, 3) := by decide +kernel
theorem dX9_init_32 : decode cX9_init 32 = .ok (.aload_n 0, 1) := by decide +kernel
theorem dX9_init_33 : decode cX9_init 33 = .ok (.iconst 0, 1) := by decide +kernel
theorem dX9_init_34 : decode cX9_init 34 = .ok (.putfield 28, 3) := by decide +kernel
theorem dX9_init_37 : decode cX9_init 37 = .ok (.return_, 1) := by decide +kernel
theorem dX9_append_0 : decode cX9_append 0 = .ok (.aload_n 0, 1) := by decide +kernel
theorem dX9_append_1 : decode cX9_append 1 = .ok (.getfield 15, 3) := by decide +kernel
theorem dX9_append_4 : decode cX9_append 4 = .ok (.bipush 120, 2) := by decide +kernel
theorem dX9_append_6 : decode cX9_append 6 = .ok (.if_icmp .ge 23, 3) := by decide +kernel
theorem dX9_append_9 : decode cX9_append 9 = .ok (.aload_n 0, 1) := by decide +kernel
theorem dX9_append_10 : decode cX9_append 10 = .ok (.getfield 9, 3) := by decide +kernel
theorem dX9_append_13 : decode cX9_append 13 = .ok (.aload_n 0, 1) := by decide +kernel
theorem dX9_append_14 : decode cX9_append 14 = .ok (.getfield 15, 3) := by decide +kernel
theorem dX9_append_17 : decode cX9_append 17 = .ok (.iload_n 1, 1) := by decide +kernel
theorem dX9_append_18 : decode cX9_append 18 = .ok (.iastore, 1) := by decide +kernel
theorem dX9_append_19 : decode cX9_append 19 = .ok (.aload_n 0, 1) := by decide +kernel
theorem dX9_append_20 : decode cX9_append 20 = .ok (.dup, 1) := by decide +kernel
theorem dX9_append_21 : decode cX9_append 21 = .ok (.getfield 15, 3) := by decide +kernel
theorem dX9_append_24 : decode cX9_append 24 = .ok (.iconst 1, 1) := by decide +kernel
theorem dX9_append_25 : decode cX9_append 25 = .ok (.iadd, 1) := by decide +kernel
theorem dX9_append_26 : decode cX9_append 26 = .ok (.putfield 15, 3) := by decide +kernel
theorem dX9_append_29 : decode cX9_append 29 = .ok (.return_, 1) := by decide +kernel
theorem dX9_perform_0 : decode cX9_perform 0 = .ok (.aload_n 0, 1) := by decide +kernel
theorem dX9_perform_1 : decode cX9_perform 1 = .ok (.iconst 0, 1) := by decide +kernel
theorem dX9_perform_2 : decode cX9_perform 2 = .ok (.putfield 25, 3) := by decide +kernel
theorem dX9_perform_5 : decode cX9_perform 5 = .ok (.aload_n 0, 1) := by decide +kernel
theorem dX9_perform_6 : decode cX9_perform 6 = .ok (.invokevirtual 31, 3) := by decide +kernel
theorem dX9_perform_9 : decode cX9_perform 9 = .ok (.iconst 1, 1) := by decide +kernel
theorem dX9_perform_10 : decode cX9_perform 10 = .ok (.istore_n 2, 1) := by decide +kernel
theorem dX9_perform_11 : decode cX9_perform 11 = .ok (.iload_n 2, 1) := by decide +kernel
theorem dX9_perform_12 : decode cX9_perform 12 = .ok (.bipush 120, 2) := by decide +kernel
theorem dX9_perform_14 : decode cX9_perform 14 = .ok (.if_icmp .gt 52, 3) := by decide +kernel
theorem dX9_perform_17 : decode cX9_perform 17 = .ok (.aload_n 0, 1) := by decide +kernel
theorem dX9_perform_18 : decode cX9_perform 18 = .ok (.aload_n 1, 1) := by decide +kernel
theorem dX9_perform_19 : decode cX9_perform 19 = .ok (.invokevirtual 34, 3) := by decide +kernel
theorem dX9_perform_22 : decode cX9_perform 22 = .ok (.ifCond .ne 10, 3) := by decide +kernel
theorem dX9_perform_25 : decode cX9_perform 25 = .ok (.iconst (-1), 1) := by decide +kernel
theorem dX9_perform_26 : decode cX9_perform 26 = .ok (.aload_n 0, 1) := by decide +kernel
theorem dX9_perform_27 : decode cX9_perform 27 = .ok (.getfield 22, 3) := by decide +kernel
theorem dX9_perform_30 : decode cX9_perform 30 = .ok (.isub, 1) := by decide +kernel
theorem dX9_perform_31 : decode cX9_perform 31 = .ok (.ireturn, 1) := by decide +kernel
theorem dX9_perform_32 : decode cX9_perform 32 = .ok (.aload_n 0, 1) := by decide +kernel
theorem dX9_perform_33 : decode cX9_perform 33 = .ok (.getfield 19, 3) := by decide +kernel
theorem dX9_perform_36 : decode cX9_perform 36 = .ok (.ifCond .ne 5, 3) := by decide +kernel
theorem dX9_perform_39 : decode cX9_perform 39 = .ok (.iload_n 2, 1) := by decide +kernel
theorem dX9_perform_40 : decode cX9_perform 40 = .ok (.ireturn, 1) := by decide +kernel
theorem dX9_perform_41 : decode cX9_perform 41 = .ok (.aload_n 0, 1) := by decide +kernel
theorem dX9_perform_42 : decode cX9_perform 42 = .ok (.getfield 19, 3) := by decide +kernel
theorem dX9_perform_45 : decode cX9_perform 45 = .ok (.iconst 3, 1) := by decide +kernel
theorem dX9_perform_46 : decode cX9_perform 46 = .ok (.if_icmp .eq 10, 3) := by decide +kernel
theorem dX9_perform_49 : decode cX9_perform 49 = .ok (.iconst (-1), 1) := by decide +kernel
theorem dX9_perform_50 : decode cX9_perform 50 = .ok (.aload_n 0, 1) := by decide +kernel
theorem dX9_perform_51 : decode cX9_perform 51 = .ok (.getfield 22, 3) := by decide +kernel
theorem dX9_perform_54 : decode cX9_perform 54 = .ok (.isub, 1) := by decide +kernel
theorem dX9_perform_55 : decode cX9_perform 55 = .ok (.ireturn, 1) := by decide +kernel
theorem dX9_perform_56 : decode cX9_perform 56 = .ok (.aload_n 0, 1) := by decide +kernel
theorem dX9_perform_57 : decode cX9_perform 57 = .ok (.invokevirtual 31, 3) := by decide +kernel
theorem dX9_perform_60 : decode cX9_perform 60 = .ok (.iinc 2 1, 3) := by decide +kernel
theorem dX9_perform_63 : decode cX9_perform 63 = .ok (.goto (-52), 3) := by decide +kernel
theorem dX9_perform_66 : decode cX9_perform 66 = .ok (.iconst (-1), 1) := by decide +kernel
theorem dX9_perform_67 : decode cX9_perform 67 = .ok (.aload_n 0, 1) := by decide +kernel
theorem dX9_perform_68 : decode cX9_perform 68 = .ok (.getfield 22, 3) := by decide +kernel
theorem dX9_perform_71 : decode cX9_perform 71 = .ok (.isub, 1) := by decide +kernel
theorem dX9_perform_72 : decode cX9_perform 72 = .ok (.ireturn, 1) := by decide +kernel
theorem dX9_takeItem_0 : decode cX9_takeItem 0 = .ok (.aload_n 0, 1) := by decide +kernel
theorem dX9_takeItem_1 : decode cX9_takeItem 1 = .ok (.ldc 38, 2) := by decide +kernel
theorem dX9_takeItem_3 : decode cX9_takeItem 3 = .ok (.invokevirtual 40, 3) := by decide +kernel
theorem dX9_takeItem_6 : decode cX9_takeItem 6 = .ok (.ifCond .eq 9, 3) := by decide +kernel
theorem dX9_takeItem_9 : decode cX9_takeItem 9 = .ok (.aload_n 0, 1) := by decide +kernel
theorem dX9_takeItem_10 : decode cX9_takeItem 10 = .ok (.aload_n 1, 1) := by decide +kernel
theorem dX9_takeItem_11 : decode cX9_takeItem 11 = .ok (.invokevirtual 44, 3) := by decide +kernel
theorem dX9_takeItem_14 : decode cX9_takeItem 14 = .ok (.ireturn, 1) := by decide +kernel
theorem dX9_takeItem_15 : decode cX9_takeItem 15 = .ok (.aload_n 0, 1) := by decide +kernel
theorem dX9_takeItem_16 : decode cX9_takeItem 16 = .ok (.ldc 47, 2) := by decide +kernel
theorem dX9_takeItem_18 : decode cX9_takeItem 18 = .ok (.invokevirtual 40, 3) := by decide +kernel
theorem dX9_takeItem_21 : decode cX9_takeItem 21 = .ok (.ifCond .eq 9, 3) := by decide +kernel
theorem dX9_takeItem_24 : decode cX9_takeItem 24 = .ok (.aload_n 0, 1) := by decide +kernel
theorem dX9_takeItem_25 : decode cX9_takeItem 25 = .ok (.aload_n 1, 1) := by decide +kernel
theorem dX9_takeItem_26 : decode cX9_takeItem 26 = .ok (.invokevirtual 49, 3) := by decide +kernel
theorem dX9_takeItem_29 : decode cX9_takeItem 29 = .ok (.ireturn, 1) := by decide +kernel
theorem dX9_takeItem_30 : decode cX9_takeItem 30 = .ok (.iconst 0, 1) := by decide +kernel
theorem dX9_takeItem_31 : decode cX9_takeItem 31 = .ok (.istore_n 2, 1) := by decide +kernel
theorem dX9_takeItem_32 : decode cX9_takeItem 32 = .ok (.iload_n 2, 1) := by decide +kernel
theorem dX9_takeItem_33 : decode cX9_takeItem 33 = .ok (.bipush 6, 2) := by decide +kernel
theorem dX9_takeItem_35 : decode cX9_takeItem 35 = .ok (.if_icmp .ge 27, 3) := by decide +kernel
theorem dX9_takeItem_38 : decode cX9_takeItem 38 = .ok (.aload_n 0, 1) := by decide +kernel
theorem dX9_takeItem_39 : decode cX9_takeItem 39 = .ok (.iload_n 2, 1) := by decide +kernel
theorem dX9_takeItem_40 : decode cX9_takeItem 40 = .ok (.invokestatic 52, 3) := by decide +kernel
theorem dX9_takeItem_43 : decode cX9_takeItem 43 = .ok (.invokevirtual 40, 3) := by decide +kernel
theorem dX9_takeItem_46 : decode cX9_takeItem 46 = .ok (.ifCond .eq 10, 3) := by decide +kernel
theorem dX9_takeItem_49 : decode cX9_takeItem 49 = .ok (.aload_n 0, 1) := by decide +kernel
theorem dX9_takeItem_50 : decode cX9_takeItem 50 = .ok (.aload_n 1, 1) := by decide +kernel
theorem dX9_takeItem_51 : decode cX9_takeItem 51 = .ok (.iload_n 2, 1) := by decide +kernel
theorem dX9_takeItem_52 : decode cX9_takeItem 52 = .ok (.invokevirtual 58, 3) := by decide +kernel
theorem dX9_takeItem_55 : decode cX9_takeItem 55 = .ok (.ireturn, 1) := by decide +kernel
theorem dX9_takeItem_56 : decode cX9_takeItem 56 = .ok (.iinc 2 1, 3) := by decide +kernel
theorem dX9_takeItem_59 : decode cX9_takeItem 59 = .ok (.goto (-27), 3) := by decide +kernel
theorem dX9_takeItem_62 : decode cX9_takeItem 62 = .ok (.iconst 0, 1) := by decide +kernel
theorem dX9_takeItem_63 : decode cX9_takeItem 63 = .ok (.ireturn, 1) := by decide +kernel
theorem dX9_takeScore_0 : decode cX9_takeScore 0 = .ok (.aload_n 0, 1) := by decide +kernel
theorem dX9_takeScore_1 : decode cX9_takeScore 1 = .ok (.invokevirtual 31, 3) := by decide +kernel
theorem dX9_takeScore_4 : decode cX9_takeScore 4 = .ok (.aload_n 0, 1) := by decide +kernel
theorem dX9_takeScore_5 : decode cX9_takeScore 5 = .ok (.iconst 0, 1) := by decide +kernel
theorem dX9_takeScore_6 : decode cX9_takeScore 6 = .ok (.iconst 5, 1) := by decide +kernel
theorem dX9_takeScore_7 : decode cX9_takeScore 7 = .ok (.invokevirtual 62, 3) := by decide +kernel
theorem dX9_takeScore_10 : decode cX9_takeScore 10 = .ok (.ifCond .ne 5, 3) := by decide +kernel
theorem dX9_takeScore_13 : decode cX9_takeScore 13 = .ok (.iconst 0, 1) := by decide +kernel
theorem dX9_takeScore_14 : decode cX9_takeScore 14 = .ok (.ireturn, 1) := by decide +kernel
theorem dX9_takeScore_15 : decode cX9_takeScore 15 = .ok (.aload_n 0, 1) := by decide +kernel
theorem dX9_takeScore_16 : decode cX9_takeScore 16 = .ok (.getfield 28, 3) := by decide +kernel
theorem dX9_takeScore_19 : decode cX9_takeScore 19 = .ok (.istore_n 2, 1) := by decide +kernel
theorem dX9_takeScore_20 : decode cX9_takeScore 20 = .ok (.aload_n 0, 1) := by decide +kernel
theorem dX9_takeScore_21 : decode cX9_takeScore 21 = .ok (.invokevirtual 31, 3) := by decide +kernel
theorem dX9_takeScore_24 : decode cX9_takeScore 24 = .ok (.aload_n 0, 1) := by decide +kernel
theorem dX9_takeScore_25 : decode cX9_takeScore 25 = .ok (.iconst 0, 1) := by decide +kernel
theorem dX9_takeScore_26 : decode cX9_takeScore 26 = .ok (.bipush 11, 2) := by decide +kernel
theorem dX9_takeScore_28 : decode cX9_takeScore 28 = .ok (.invokevirtual 62, 3) := by decide +kernel
theorem dX9_takeScore_31 : decode cX9_takeScore 31 = .ok (.ifCond .ne 5, 3) := by decide +kernel
theorem dX9_takeScore_34 : decode cX9_takeScore 34 = .ok (.iconst 0, 1) := by decide +kernel
theorem dX9_takeScore_35 : decode cX9_takeScore 35 = .ok (.ireturn, 1) := by decide +kernel
theorem dX9_takeScore_36 : decode cX9_takeScore 36 = .ok (.aload_n 1, 1) := by decide +kernel
theorem dX9_takeScore_37 : decode cX9_takeScore 37 = .ok (.getfield 66, 3) := by decide +kernel
theorem dX9_takeScore_40 : decode cX9_takeScore 40 = .ok (.iload_n 2, 1) := by decide +kernel
theorem dX9_takeScore_41 : decode cX9_takeScore 41 = .ok (.aload_n 0, 1) := by decide +kernel
theorem dX9_takeScore_42 : decode cX9_takeScore 42 = .ok (.getfield 28, 3) := by decide +kernel
theorem dX9_takeScore_45 : decode cX9_takeScore 45 = .ok (.iastore, 1) := by decide +kernel
theorem dX9_takeScore_46 : decode cX9_takeScore 46 = .ok (.aload_n 0, 1) := by decide +kernel
theorem dX9_takeScore_47 : decode cX9_takeScore 47 = .ok (.invokevirtual 31, 3) := by decide +kernel
theorem dX9_takeScore_50 : decode cX9_takeScore 50 = .ok (.iconst 1, 1) := by decide +kernel
theorem dX9_takeScore_51 : decode cX9_takeScore 51 = .ok (.ireturn, 1) := by decide +kernel
theorem dX9_takeBell_0 : decode cX9_takeBell 0 = .ok (.aload_n 0, 1) := by decide +kernel
theorem dX9_takeBell_1 : decode cX9_takeBell 1 = .ok (.invokevirtual 31, 3) := by decide +kernel
theorem dX9_takeBell_4 : decode cX9_takeBell 4 = .ok (.aload_n 0, 1) := by decide +kernel
theorem dX9_takeBell_5 : decode cX9_takeBell 5 = .ok (.iconst 0, 1) := by decide +kernel
theorem dX9_takeBell_6 : decode cX9_takeBell 6 = .ok (.iconst 2, 1) := by decide +kernel
theorem dX9_takeBell_7 : decode cX9_takeBell 7 = .ok (.invokevirtual 62, 3) := by decide +kernel
theorem dX9_takeBell_10 : decode cX9_takeBell 10 = .ok (.ifCond .ne 5, 3) := by decide +kernel
theorem dX9_takeBell_13 : decode cX9_takeBell 13 = .ok (.iconst 0, 1) := by decide +kernel
theorem dX9_takeBell_14 : decode cX9_takeBell 14 = .ok (.ireturn, 1) := by decide +kernel
theorem dX9_takeBell_15 : decode cX9_takeBell 15 = .ok (.aload_n 0, 1) := by decide +kernel
theorem dX9_takeBell_16 : decode cX9_takeBell 16 = .ok (.getfield 28, 3) := by decide +kernel
theorem dX9_takeBell_19 : decode cX9_takeBell 19 = .ok (.istore_n 2, 1) := by decide +kernel
theorem dX9_takeBell_20 : decode cX9_takeBell 20 = .ok (.aload_n 0, 1) := by decide +kernel
theorem dX9_takeBell_21 : decode cX9_takeBell 21 = .ok (.invokevirtual 31, 3) := by decide +kernel
theorem dX9_takeBell_24 : decode cX9_takeBell 24 = .ok (.aload_n 0, 1) := by decide +kernel
theorem dX9_takeBell_25 : decode cX9_takeBell 25 = .ok (.iconst 0, 1) := by decide +kernel
theorem dX9_takeBell_26 : decode cX9_takeBell 26 = .ok (.bipush 47, 2) := by decide +kernel
theorem dX9_takeBell_28 : decode cX9_takeBell 28 = .ok (.invokevirtual 62, 3) := by decide +kernel
theorem dX9_takeBell_31 : decode cX9_takeBell 31 = .ok (.ifCond .ne 5, 3) := by decide +kernel
theorem dX9_takeBell_34 : decode cX9_takeBell 34 = .ok (.iconst 0, 1) := by decide +kernel
theorem dX9_takeBell_35 : decode cX9_takeBell 35 = .ok (.ireturn, 1) := by decide +kernel
theorem dX9_takeBell_36 : decode cX9_takeBell 36 = .ok (.aload_n 1, 1) := by decide +kernel
theorem dX9_takeBell_37 : decode cX9_takeBell 37 = .ok (.getfield 70, 3) := by decide +kernel
theorem dX9_takeBell_40 : decode cX9_takeBell 40 = .ok (.iload_n 2, 1) := by decide +kernel
theorem dX9_takeBell_41 : decode cX9_takeBell 41 = .ok (.aload_n 0, 1) := by decide +kernel
theorem dX9_takeBell_42 : decode cX9_takeBell 42 = .ok (.getfield 28, 3) := by decide +kernel
theorem dX9_takeBell_45 : decode cX9_takeBell 45 = .ok (.iastore, 1) := by decide +kernel
theorem dX9_takeBell_46 : decode cX9_takeBell 46 = .ok (.aload_n 0, 1) := by decide +kernel
theorem dX9_takeBell_47 : decode cX9_takeBell 47 = .ok (.invokevirtual 31, 3) := by decide +kernel
theorem dX9_takeBell_50 : decode cX9_takeBell 50 = .ok (.iconst 1, 1) := by decide +kernel
theorem dX9_takeBell_51 : decode cX9_takeBell 51 = .ok (.ireturn, 1) := by decide +kernel
theorem dX9_takePerson_0 : decode cX9_takePerson 0 = .ok (.aload_n 1, 1) := by decide +kernel
theorem dX9_takePerson_1 : decode cX9_takePerson 1 = .ok (.getfield 73, 3) := by decide +kernel
theorem dX9_takePerson_4 : decode cX9_takePerson 4 = .ok (.bipush 8, 2) := by decide +kernel
theorem dX9_takePerson_6 : decode cX9_takePerson 6 = .ok (.if_icmp .lt 5, 3) := by decide +kernel
theorem dX9_takePerson_9 : decode cX9_takePerson 9 = .ok (.iconst 0, 1) := by decide +kernel
theorem dX9_takePerson_10 : decode cX9_takePerson 10 = .ok (.ireturn, 1) := by decide +kernel
theorem dX9_takePerson_11 : decode cX9_takePerson 11 = .ok (.aload_n 0, 1) := by decide +kernel
theorem dX9_takePerson_12 : decode cX9_takePerson 12 = .ok (.invokevirtual 31, 3) := by decide +kernel
theorem dX9_takePerson_15 : decode cX9_takePerson 15 = .ok (.aload_n 0, 1) := by decide +kernel
theorem dX9_takePerson_16 : decode cX9_takePerson 16 = .ok (.iconst 0, 1) := by decide +kernel
theorem dX9_takePerson_17 : decode cX9_takePerson 17 = .ok (.bipush 11, 2) := by decide +kernel
theorem dX9_takePerson_19 : decode cX9_takePerson 19 = .ok (.invokevirtual 62, 3) := by decide +kernel
theorem dX9_takePerson_22 : decode cX9_takePerson 22 = .ok (.ifCond .ne 5, 3) := by decide +kernel
theorem dX9_takePerson_25 : decode cX9_takePerson 25 = .ok (.iconst 0, 1) := by decide +kernel
theorem dX9_takePerson_26 : decode cX9_takePerson 26 = .ok (.ireturn, 1) := by decide +kernel
theorem dX9_takePerson_27 : decode cX9_takePerson 27 = .ok (.aload_n 0, 1) := by decide +kernel
theorem dX9_takePerson_28 : decode cX9_takePerson 28 = .ok (.getfield 28, 3) := by decide +kernel
theorem dX9_takePerson_31 : decode cX9_takePerson 31 = .ok (.istore_n 3, 1) := by decide +kernel
theorem dX9_takePerson_32 : decode cX9_takePerson 32 = .ok (.iconst 1, 1) := by decide +kernel
theorem dX9_takePerson_33 : decode cX9_takePerson 33 = .ok (.istore 4, 2) := by decide +kernel
theorem dX9_takePerson_35 : decode cX9_takePerson 35 = .ok (.aload_n 0, 1) := by decide +kernel
theorem dX9_takePerson_36 : decode cX9_takePerson 36 = .ok (.invokevirtual 31, 3) := by decide +kernel
theorem dX9_takePerson_39 : decode cX9_takePerson 39 = .ok (.aload_n 0, 1) := by decide +kernel
theorem dX9_takePerson_40 : decode cX9_takePerson 40 = .ok (.ldc 76, 2) := by decide +kernel
theorem dX9_takePerson_42 : decode cX9_takePerson 42 = .ok (.invokevirtual 40, 3) := by decide +kernel
theorem dX9_takePerson_45 : decode cX9_takePerson 45 = .ok (.ifCond .eq 28, 3) := by decide +kernel
theorem dX9_takePerson_48 : decode cX9_takePerson 48 = .ok (.aload_n 0, 1) := by decide +kernel
theorem dX9_takePerson_49 : decode cX9_takePerson 49 = .ok (.invokevirtual 31, 3) := by decide +kernel
theorem dX9_takePerson_52 : decode cX9_takePerson 52 = .ok (.aload_n 0, 1) := by decide +kernel
theorem dX9_takePerson_53 : decode cX9_takePerson 53 = .ok (.iconst 1, 1) := by decide +kernel
theorem dX9_takePerson_54 : decode cX9_takePerson 54 = .ok (.iconst 4, 1) := by decide +kernel
theorem dX9_takePerson_55 : decode cX9_takePerson 55 = .ok (.invokevirtual 62, 3) := by decide +kernel
theorem dX9_takePerson_58 : decode cX9_takePerson 58 = .ok (.ifCond .ne 5, 3) := by decide +kernel
theorem dX9_takePerson_61 : decode cX9_takePerson 61 = .ok (.iconst 0, 1) := by decide +kernel
theorem dX9_takePerson_62 : decode cX9_takePerson 62 = .ok (.ireturn, 1) := by decide +kernel
theorem dX9_takePerson_63 : decode cX9_takePerson 63 = .ok (.aload_n 0, 1) := by decide +kernel
theorem dX9_takePerson_64 : decode cX9_takePerson 64 = .ok (.getfield 28, 3) := by decide +kernel
theorem dX9_takePerson_67 : decode cX9_takePerson 67 = .ok (.istore 4, 2) := by decide +kernel
theorem dX9_takePerson_69 : decode cX9_takePerson 69 = .ok (.aload_n 0, 1) := by decide +kernel
theorem dX9_takePerson_70 : decode cX9_takePerson 70 = .ok (.invokevirtual 31, 3) := by decide +kernel
theorem dX9_takePerson_73 : decode cX9_takePerson 73 = .ok (.aload_n 1, 1) := by decide +kernel
theorem dX9_takePerson_74 : decode cX9_takePerson 74 = .ok (.iload_n 2, 1) := by decide +kernel
theorem dX9_takePerson_75 : decode cX9_takePerson 75 = .ok (.iload_n 3, 1) := by decide +kernel
theorem dX9_takePerson_76 : decode cX9_takePerson 76 = .ok (.iload 4, 2) := by decide +kernel
theorem dX9_takePerson_78 : decode cX9_takePerson 78 = .ok (.invokevirtual 78, 3) := by decide +kernel
theorem dX9_takePerson_81 : decode cX9_takePerson 81 = .ok (.iconst 1, 1) := by decide +kernel
theorem dX9_takePerson_82 : decode cX9_takePerson 82 = .ok (.ireturn, 1) := by decide +kernel
theorem dX9_isNumber_0 : decode cX9_isNumber 0 = .ok (.aload_n 0, 1) := by decide +kernel
theorem dX9_isNumber_1 : decode cX9_isNumber 1 = .ok (.getfield 19, 3) := by decide +kernel
theorem dX9_isNumber_4 : decode cX9_isNumber 4 = .ok (.iconst 2, 1) := by decide +kernel
theorem dX9_isNumber_5 : decode cX9_isNumber 5 = .ok (.if_icmp .ne 23, 3) := by decide +kernel
theorem dX9_isNumber_8 : decode cX9_isNumber 8 = .ok (.aload_n 0, 1) := by decide +kernel
theorem dX9_isNumber_9 : decode cX9_isNumber 9 = .ok (.getfield 28, 3) := by decide +kernel
theorem dX9_isNumber_12 : decode cX9_isNumber 12 = .ok (.iload_n 1, 1) := by decide +kernel
theorem dX9_isNumber_13 : decode cX9_isNumber 13 = .ok (.if_icmp .lt 15, 3) := by decide +kernel
theorem dX9_isNumber_16 : decode cX9_isNumber 16 = .ok (.aload_n 0, 1) := by decide +kernel
theorem dX9_isNumber_17 : decode cX9_isNumber 17 = .ok (.getfield 28, 3) := by decide +kernel
theorem dX9_isNumber_20 : decode cX9_isNumber 20 = .ok (.iload_n 2, 1) := by decide +kernel
theorem dX9_isNumber_21 : decode cX9_isNumber 21 = .ok (.if_icmp .gt 7, 3) := by decide +kernel
theorem dX9_isNumber_24 : decode cX9_isNumber 24 = .ok (.iconst 1, 1) := by decide +kernel
theorem dX9_isNumber_25 : decode cX9_isNumber 25 = .ok (.goto 4, 3) := by decide +kernel
theorem dX9_isNumber_28 : decode cX9_isNumber 28 = .ok (.iconst 0, 1) := by decide +kernel
theorem dX9_isNumber_29 : decode cX9_isNumber 29 = .ok (.ireturn, 1) := by decide +kernel
theorem dX9_isWord_0 : decode cX9_isWord 0 = .ok (.aload_n 0, 1) := by decide +kernel
theorem dX9_isWord_1 : decode cX9_isWord 1 = .ok (.getfield 19, 3) := by decide +kernel
theorem dX9_isWord_4 : decode cX9_isWord 4 = .ok (.iconst 1, 1) := by decide +kernel
theorem dX9_isWord_5 : decode cX9_isWord 5 = .ok (.if_icmp .ne 19, 3) := by decide +kernel
theorem dX9_isWord_8 : decode cX9_isWord 8 = .ok (.aload_n 0, 1) := by decide +kernel
theorem dX9_isWord_9 : decode cX9_isWord 9 = .ok (.getfield 25, 3) := by decide +kernel
theorem dX9_isWord_12 : decode cX9_isWord 12 = .ok (.aload_n 0, 1) := by decide +kernel
theorem dX9_isWord_13 : decode cX9_isWord 13 = .ok (.getfield 22, 3) := by decide +kernel
theorem dX9_isWord_16 : decode cX9_isWord 16 = .ok (.isub, 1) := by decide +kernel
theorem dX9_isWord_17 : decode cX9_isWord 17 = .ok (.aload_n 1, 1) := by decide +kernel
theorem dX9_isWord_18 : decode cX9_isWord 18 = .ok (.invokevirtual 82, 3) := by decide +kernel
theorem dX9_isWord_21 : decode cX9_isWord 21 = .ok (.if_icmp .eq 5, 3) := by decide +kernel
theorem dX9_isWord_24 : decode cX9_isWord 24 = .ok (.iconst 0, 1) := by decide +kernel
theorem dX9_isWord_25 : decode cX9_isWord 25 = .ok (.ireturn, 1) := by decide +kernel
theorem dX9_isWord_26 : decode cX9_isWord 26 = .ok (.iconst 0, 1) := by decide +kernel
theorem dX9_isWord_27 : decode cX9_isWord 27 = .ok (.istore_n 2, 1) := by decide +kernel
theorem dX9_isWord_28 : decode cX9_isWord 28 = .ok (.iload_n 2, 1) := by decide +kernel
theorem dX9_isWord_29 : decode cX9_isWord 29 = .ok (.aload_n 1, 1) := by decide +kernel
theorem dX9_isWord_30 : decode cX9_isWord 30 = .ok (.invokevirtual 82, 3) := by decide +kernel
theorem dX9_isWord_33 : decode cX9_isWord 33 = .ok (.if_icmp .ge 30, 3) := by decide +kernel
theorem dX9_isWord_36 : decode cX9_isWord 36 = .ok (.aload_n 0, 1) := by decide +kernel
theorem dX9_isWord_37 : decode cX9_isWord 37 = .ok (.getfield 9, 3) := by decide +kernel
theorem dX9_isWord_40 : decode cX9_isWord 40 = .ok (.aload_n 0, 1) := by decide +kernel
theorem dX9_isWord_41 : decode cX9_isWord 41 = .ok (.getfield 22, 3) := by decide +kernel
theorem dX9_isWord_44 : decode cX9_isWord 44 = .ok (.iload_n 2, 1) := by decide +kernel
theorem dX9_isWord_45 : decode cX9_isWord 45 = .ok (.iadd, 1) := by decide +kernel
theorem dX9_isWord_46 : decode cX9_isWord 46 = .ok (.iaload, 1) := by decide +kernel
theorem dX9_isWord_47 : decode cX9_isWord 47 = .ok (.aload_n 1, 1) := by decide +kernel
theorem dX9_isWord_48 : decode cX9_isWord 48 = .ok (.iload_n 2, 1) := by decide +kernel
theorem dX9_isWord_49 : decode cX9_isWord 49 = .ok (.invokevirtual 87, 3) := by decide +kernel
theorem dX9_isWord_52 : decode cX9_isWord 52 = .ok (.if_icmp .eq 5, 3) := by decide +kernel
theorem dX9_isWord_55 : decode cX9_isWord 55 = .ok (.iconst 0, 1) := by decide +kernel
theorem dX9_isWord_56 : decode cX9_isWord 56 = .ok (.ireturn, 1) := by decide +kernel
theorem dX9_isWord_57 : decode cX9_isWord 57 = .ok (.iinc 2 1, 3) := by decide +kernel
theorem dX9_isWord_60 : decode cX9_isWord 60 = .ok (.goto (-32), 3) := by decide +kernel
theorem dX9_isWord_63 : decode cX9_isWord 63 = .ok (.iconst 1, 1) := by decide +kernel
theorem dX9_isWord_64 : decode cX9_isWord 64 = .ok (.ireturn, 1) := by decide +kernel
theorem dX9_advance_0 : decode cX9_advance 0 = .ok (.aload_n 0, 1) := by decide +kernel
theorem dX9_advance_1 : decode cX9_advance 1 = .ok (.getfield 25, 3) := by decide +kernel
theorem dX9_advance_4 : decode cX9_advance 4 = .ok (.istore_n 1, 1) := by decide +kernel
theorem dX9_advance_5 : decode cX9_advance 5 = .ok (.iload_n 1, 1) := by decide +kernel
theorem dX9_advance_6 : decode cX9_advance 6 = .ok (.aload_n 0, 1) := by decide +kernel
theorem dX9_advance_7 : decode cX9_advance 7 = .ok (.getfield 15, 3) := by decide +kernel
theorem dX9_advance_10 : decode cX9_advance 10 = .ok (.if_icmp .ge 20, 3) := by decide +kernel
theorem dX9_advance_13 : decode cX9_advance 13 = .ok (.aload_n 0, 1) := by decide +kernel
theorem dX9_advance_14 : decode cX9_advance 14 = .ok (.getfield 9, 3) := by decide +kernel
theorem dX9_advance_17 : decode cX9_advance 17 = .ok (.iload_n 1, 1) := by decide +kernel
theorem dX9_advance_18 : decode cX9_advance 18 = .ok (.iaload, 1) := by decide +kernel
theorem dX9_advance_19 : decode cX9_advance 19 = .ok (.bipush 32, 2) := by decide +kernel
theorem dX9_advance_21 : decode cX9_advance 21 = .ok (.if_icmp .ne 9, 3) := by decide +kernel
theorem dX9_advance_24 : decode cX9_advance 24 = .ok (.iinc 1 1, 3) := by decide +kernel
theorem dX9_advance_27 : decode cX9_advance 27 = .ok (.goto (-22), 3) := by decide +kernel
theorem dX9_advance_30 : decode cX9_advance 30 = .ok (.aload_n 0, 1) := by decide +kernel
theorem dX9_advance_31 : decode cX9_advance 31 = .ok (.iload_n 1, 1) := by decide +kernel
theorem dX9_advance_32 : decode cX9_advance 32 = .ok (.putfield 22, 3) := by decide +kernel
theorem dX9_advance_35 : decode cX9_advance 35 = .ok (.aload_n 0, 1) := by decide +kernel
theorem dX9_advance_36 : decode cX9_advance 36 = .ok (.iconst 0, 1) := by decide +kernel
theorem dX9_advance_37 : decode cX9_advance 37 = .ok (.putfield 28, 3) := by decide +kernel
theorem dX9_advance_40 : decode cX9_advance 40 = .ok (.iload_n 1, 1) := by decide +kernel
theorem dX9_advance_41 : decode cX9_advance 41 = .ok (.aload_n 0, 1) := by decide +kernel
theorem dX9_advance_42 : decode cX9_advance 42 = .ok (.getfield 15, 3) := by decide +kernel
theorem dX9_advance_45 : decode cX9_advance 45 = .ok (.if_icmp .lt 11, 3) := by decide +kernel
theorem dX9_advance_48 : decode cX9_advance 48 = .ok (.aload_n 0, 1) := by decide +kernel
theorem dX9_advance_49 : decode cX9_advance 49 = .ok (.iconst 0, 1) := by decide +kernel
theorem dX9_advance_50 : decode cX9_advance 50 = .ok (.putfield 19, 3) := by decide +kernel
theorem dX9_advance_53 : decode cX9_advance 53 = .ok (.goto 139, 3) := by decide +kernel
theorem dX9_advance_56 : decode cX9_advance 56 = .ok (.aload_n 0, 1) := by decide +kernel
theorem dX9_advance_57 : decode cX9_advance 57 = .ok (.getfield 9, 3) := by decide +kernel
theorem dX9_advance_60 : decode cX9_advance 60 = .ok (.iload_n 1, 1) := by decide +kernel
theorem dX9_advance_61 : decode cX9_advance 61 = .ok (.iaload, 1) := by decide +kernel
theorem dX9_advance_62 : decode cX9_advance 62 = .ok (.invokestatic 91, 3) := by decide +kernel
theorem dX9_advance_65 : decode cX9_advance 65 = .ok (.ifCond .eq 34, 3) := by decide +kernel
theorem dX9_advance_68 : decode cX9_advance 68 = .ok (.aload_n 0, 1) := by decide +kernel
theorem dX9_advance_69 : decode cX9_advance 69 = .ok (.iconst 1, 1) := by decide +kernel
theorem dX9_advance_70 : decode cX9_advance 70 = .ok (.putfield 19, 3) := by decide +kernel
theorem dX9_advance_73 : decode cX9_advance 73 = .ok (.iload_n 1, 1) := by decide +kernel
theorem dX9_advance_74 : decode cX9_advance 74 = .ok (.aload_n 0, 1) := by decide +kernel
theorem dX9_advance_75 : decode cX9_advance 75 = .ok (.getfield 15, 3) := by decide +kernel
theorem dX9_advance_78 : decode cX9_advance 78 = .ok (.if_icmp .ge 114, 3) := by decide +kernel
theorem dX9_advance_81 : decode cX9_advance 81 = .ok (.aload_n 0, 1) := by decide +kernel
theorem dX9_advance_82 : decode cX9_advance 82 = .ok (.getfield 9, 3) := by decide +kernel
theorem dX9_advance_85 : decode cX9_advance 85 = .ok (.iload_n 1, 1) := by decide +kernel
theorem dX9_advance_86 : decode cX9_advance 86 = .ok (.iaload, 1) := by decide +kernel
theorem dX9_advance_87 : decode cX9_advance 87 = .ok (.invokestatic 91, 3) := by decide +kernel
theorem dX9_advance_90 : decode cX9_advance 90 = .ok (.ifCond .eq 102, 3) := by decide +kernel
theorem dX9_advance_93 : decode cX9_advance 93 = .ok (.iinc 1 1, 3) := by decide +kernel
theorem dX9_advance_96 : decode cX9_advance 96 = .ok (.goto (-23), 3) := by decide +kernel
theorem dX9_advance_99 : decode cX9_advance 99 = .ok (.aload_n 0, 1) := by decide +kernel
theorem dX9_advance_100 : decode cX9_advance 100 = .ok (.getfield 9, 3) := by decide +kernel
theorem dX9_advance_103 : decode cX9_advance 103 = .ok (.iload_n 1, 1) := by decide +kernel
theorem dX9_advance_104 : decode cX9_advance 104 = .ok (.iaload, 1) := by decide +kernel
theorem dX9_advance_105 : decode cX9_advance 105 = .ok (.invokestatic 95, 3) := by decide +kernel
theorem dX9_advance_108 : decode cX9_advance 108 = .ok (.ifCond .eq 61, 3) := by decide +kernel
theorem dX9_advance_111 : decode cX9_advance 111 = .ok (.aload_n 0, 1) := by decide +kernel
theorem dX9_advance_112 : decode cX9_advance 112 = .ok (.iconst 2, 1) := by decide +kernel
theorem dX9_advance_113 : decode cX9_advance 113 = .ok (.putfield 19, 3) := by decide +kernel
theorem dX9_advance_116 : decode cX9_advance 116 = .ok (.iload_n 1, 1) := by decide +kernel
theorem dX9_advance_117 : decode cX9_advance 117 = .ok (.aload_n 0, 1) := by decide +kernel
theorem dX9_advance_118 : decode cX9_advance 118 = .ok (.getfield 15, 3) := by decide +kernel
theorem dX9_advance_121 : decode cX9_advance 121 = .ok (.if_icmp .ge 71, 3) := by decide +kernel
theorem dX9_advance_124 : decode cX9_advance 124 = .ok (.aload_n 0, 1) := by decide +kernel
theorem dX9_advance_125 : decode cX9_advance 125 = .ok (.getfield 9, 3) := by decide +kernel
theorem dX9_advance_128 : decode cX9_advance 128 = .ok (.iload_n 1, 1) := by decide +kernel
theorem dX9_advance_129 : decode cX9_advance 129 = .ok (.iaload, 1) := by decide +kernel
theorem dX9_advance_130 : decode cX9_advance 130 = .ok (.invokestatic 95, 3) := by decide +kernel
theorem dX9_advance_133 : decode cX9_advance 133 = .ok (.ifCond .eq 59, 3) := by decide +kernel
theorem dX9_advance_136 : decode cX9_advance 136 = .ok (.aload_n 0, 1) := by decide +kernel
theorem dX9_advance_137 : decode cX9_advance 137 = .ok (.sipush 1000, 3) := by decide +kernel
theorem dX9_advance_140 : decode cX9_advance 140 = .ok (.bipush 10, 2) := by decide +kernel
theorem dX9_advance_142 : decode cX9_advance 142 = .ok (.aload_n 0, 1) := by decide +kernel
theorem dX9_advance_143 : decode cX9_advance 143 = .ok (.getfield 28, 3) := by decide +kernel
theorem dX9_advance_146 : decode cX9_advance 146 = .ok (.imul, 1) := by decide +kernel
theorem dX9_advance_147 : decode cX9_advance 147 = .ok (.aload_n 0, 1) := by decide +kernel
theorem dX9_advance_148 : decode cX9_advance 148 = .ok (.getfield 9, 3) := by decide +kernel
theorem dX9_advance_151 : decode cX9_advance 151 = .ok (.iload_n 1, 1) := by decide +kernel
theorem dX9_advance_152 : decode cX9_advance 152 = .ok (.iaload, 1) := by decide +kernel
theorem dX9_advance_153 : decode cX9_advance 153 = .ok (.iadd, 1) := by decide +kernel
theorem dX9_advance_154 : decode cX9_advance 154 = .ok (.bipush 48, 2) := by decide +kernel
theorem dX9_advance_156 : decode cX9_advance 156 = .ok (.isub, 1) := by decide +kernel
theorem dX9_advance_157 : decode cX9_advance 157 = .ok (.invokestatic 98, 3) := by decide +kernel
theorem dX9_advance_160 : decode cX9_advance 160 = .ok (.putfield 28, 3) := by decide +kernel
theorem dX9_advance_163 : decode cX9_advance 163 = .ok (.iinc 1 1, 3) := by decide +kernel
theorem dX9_advance_166 : decode cX9_advance 166 = .ok (.goto (-50), 3) := by decide +kernel
theorem dX9_advance_169 : decode cX9_advance 169 = .ok (.aload_n 0, 1) := by decide +kernel
theorem dX9_advance_170 : decode cX9_advance 170 = .ok (.aload_n 0, 1) := by decide +kernel
theorem dX9_advance_171 : decode cX9_advance 171 = .ok (.getfield 9, 3) := by decide +kernel
theorem dX9_advance_174 : decode cX9_advance 174 = .ok (.iload_n 1, 1) := by decide +kernel
theorem dX9_advance_175 : decode cX9_advance 175 = .ok (.iaload, 1) := by decide +kernel
theorem dX9_advance_176 : decode cX9_advance 176 = .ok (.bipush 59, 2) := by decide +kernel
theorem dX9_advance_178 : decode cX9_advance 178 = .ok (.if_icmp .ne 7, 3) := by decide +kernel
theorem dX9_advance_181 : decode cX9_advance 181 = .ok (.iconst 3, 1) := by decide +kernel
theorem dX9_advance_182 : decode cX9_advance 182 = .ok (.goto 4, 3) := by decide +kernel
theorem dX9_advance_185 : decode cX9_advance 185 = .ok (.iconst 4, 1) := by decide +kernel
theorem dX9_advance_186 : decode cX9_advance 186 = .ok (.putfield 19, 3) := by decide +kernel
theorem dX9_advance_189 : decode cX9_advance 189 = .ok (.iinc 1 1, 3) := by decide +kernel
theorem dX9_advance_192 : decode cX9_advance 192 = .ok (.aload_n 0, 1) := by decide +kernel
theorem dX9_advance_193 : decode cX9_advance 193 = .ok (.iload_n 1, 1) := by decide +kernel
theorem dX9_advance_194 : decode cX9_advance 194 = .ok (.putfield 25, 3) := by decide +kernel
theorem dX9_advance_197 : decode cX9_advance 197 = .ok (.return_, 1) := by decide +kernel
theorem dX9_isLetter_0 : decode cX9_isLetter 0 = .ok (.iload_n 0, 1) := by decide +kernel
theorem dX9_isLetter_1 : decode cX9_isLetter 1 = .ok (.bipush 97, 2) := by decide +kernel
theorem dX9_isLetter_3 : decode cX9_isLetter 3 = .ok (.if_icmp .lt 13, 3) := by decide +kernel
theorem dX9_isLetter_6 : decode cX9_isLetter 6 = .ok (.iload_n 0, 1) := by decide +kernel
theorem dX9_isLetter_7 : decode cX9_isLetter 7 = .ok (.bipush 122, 2) := by decide +kernel
theorem dX9_isLetter_9 : decode cX9_isLetter 9 = .ok (.if_icmp .gt 7, 3) := by decide +kernel
theorem dX9_isLetter_12 : decode cX9_isLetter 12 = .ok (.iconst 1, 1) := by decide +kernel
theorem dX9_isLetter_13 : decode cX9_isLetter 13 = .ok (.goto 4, 3) := by decide +kernel
theorem dX9_isLetter_16 : decode cX9_isLetter 16 = .ok (.iconst 0, 1) := by decide +kernel
theorem dX9_isLetter_17 : decode cX9_isLetter 17 = .ok (.ireturn, 1) := by decide +kernel
theorem dX9_isDigit_0 : decode cX9_isDigit 0 = .ok (.iload_n 0, 1) := by decide +kernel
theorem dX9_isDigit_1 : decode cX9_isDigit 1 = .ok (.bipush 48, 2) := by decide +kernel
theorem dX9_isDigit_3 : decode cX9_isDigit 3 = .ok (.if_icmp .lt 13, 3) := by decide +kernel
theorem dX9_isDigit_6 : decode cX9_isDigit 6 = .ok (.iload_n 0, 1) := by decide +kernel
theorem dX9_isDigit_7 : decode cX9_isDigit 7 = .ok (.bipush 57, 2) := by decide +kernel
theorem dX9_isDigit_9 : decode cX9_isDigit 9 = .ok (.if_icmp .gt 7, 3) := by decide +kernel
theorem dX9_isDigit_12 : decode cX9_isDigit 12 = .ok (.iconst 1, 1) := by decide +kernel
theorem dX9_isDigit_13 : decode cX9_isDigit 13 = .ok (.goto 4, 3) := by decide +kernel
theorem dX9_isDigit_16 : decode cX9_isDigit 16 = .ok (.iconst 0, 1) := by decide +kernel
theorem dX9_isDigit_17 : decode cX9_isDigit 17 = .ok (.ireturn, 1) := by decide +kernel
theorem dJ9_abs_0f7a4_0 : decode cJ9_abs_0f7a4 0 = .ok (.iload_n 0, 1) := by decide +kernel
theorem dJ9_abs_0f7a4_1 : decode cJ9_abs_0f7a4 1 = .ok (.ifCond .ge 8, 3) := by decide +kernel
theorem dJ9_abs_0f7a4_4 : decode cJ9_abs_0f7a4 4 = .ok (.iload_n 0, 1) := by decide +kernel
theorem dJ9_abs_0f7a4_5 : decode cJ9_abs_0f7a4 5 = .ok (.ineg, 1) := by decide +kernel
theorem dJ9_abs_0f7a4_6 : decode cJ9_abs_0f7a4 6 = .ok (.goto 4, 3) := by decide +kernel
theorem dJ9_abs_0f7a4_9 : decode cJ9_abs_0f7a4 9 = .ok (.iload_n 0, 1) := by decide +kernel
theorem dJ9_abs_0f7a4_10 : decode cJ9_abs_0f7a4 10 = .ok (.ireturn, 1) := by decide +kernel
theorem dJ9_max_7cf53_0 : decode cJ9_max_7cf53 0 = .ok (.iload_n 0, 1) := by decide +kernel
theorem dJ9_max_7cf53_1 : decode cJ9_max_7cf53 1 = .ok (.iload_n 1, 1) := by decide +kernel
theorem dJ9_max_7cf53_2 : decode cJ9_max_7cf53 2 = .ok (.if_icmp .lt 7, 3) := by decide +kernel
theorem dJ9_max_7cf53_5 : decode cJ9_max_7cf53 5 = .ok (.iload_n 0, 1) := by decide +kernel
theorem dJ9_max_7cf53_6 : decode cJ9_max_7cf53 6 = .ok (.goto 4, 3) := by decide +kernel
theorem dJ9_max_7cf53_9 : decode cJ9_max_7cf53 9 = .ok (.iload_n 1, 1) := by decide +kernel
theorem dJ9_max_7cf53_10 : decode cJ9_max_7cf53 10 = .ok (.ireturn, 1) := by decide +kernel
theorem dJ9_min_7cf53_0 : decode cJ9_min_7cf53 0 = .ok (.iload_n 0, 1) := by decide +kernel
theorem dJ9_min_7cf53_1 : decode cJ9_min_7cf53 1 = .ok (.iload_n 1, 1) := by decide +kernel
theorem dJ9_min_7cf53_2 : decode cJ9_min_7cf53 2 = .ok (.if_icmp .gt 7, 3) := by decide +kernel
theorem dJ9_min_7cf53_5 : decode cJ9_min_7cf53 5 = .ok (.iload_n 0, 1) := by decide +kernel
theorem dJ9_min_7cf53_6 : decode cJ9_min_7cf53 6 = .ok (.goto 4, 3) := by decide +kernel
theorem dJ9_min_7cf53_9 : decode cJ9_min_7cf53 9 = .ok (.iload_n 1, 1) := by decide +kernel
theorem dJ9_min_7cf53_10 : decode cJ9_min_7cf53 10 = .ok (.ireturn, 1) := by decide +kernel
theorem dJ0_length_8abf5_0 : decode cJ0_length_8abf5 0 = .ok (.aload_n 0, 1) := by decide +kernel
theorem dJ0_length_8abf5_1 : decode cJ0_length_8abf5 1 = .ok (.getfield 9, 3) := by decide +kernel
theorem dJ0_length_8abf5_4 : decode cJ0_length_8abf5 4 = .ok (.arraylength, 1) := by decide +kernel
theorem dJ0_length_8abf5_5 : decode cJ0_length_8abf5 5 = .ok (.aload_n 0, 1) := by decide +kernel
theorem dJ0_length_8abf5_6 : decode cJ0_length_8abf5 6 = .ok (.invokevirtual 335, 3) := by decide +kernel
theorem dJ0_length_8abf5_9 : decode cJ0_length_8abf5 9 = .ok (.ishr, 1) := by decide +kernel
theorem dJ0_length_8abf5_10 : decode cJ0_length_8abf5 10 = .ok (.ireturn, 1) := by decide +kernel
theorem dJ0_charAt_5068e_0 : decode cJ0_charAt_5068e 0 = .ok (.aload_n 0, 1) := by decide +kernel
theorem dJ0_charAt_5068e_1 : decode cJ0_charAt_5068e 1 = .ok (.invokevirtual 492, 3) := by decide +kernel
theorem dJ0_charAt_5068e_4 : decode cJ0_charAt_5068e 4 = .ok (.ifCond .eq 12, 3) := by decide +kernel
theorem dJ0_charAt_5068e_7 : decode cJ0_charAt_5068e 7 = .ok (.aload_n 0, 1) := by decide +kernel
theorem dJ0_charAt_5068e_8 : decode cJ0_charAt_5068e 8 = .ok (.getfield 9, 3) := by decide +kernel
theorem dJ0_charAt_5068e_11 : decode cJ0_charAt_5068e 11 = .ok (.iload_n 1, 1) := by decide +kernel
theorem dJ0_charAt_5068e_12 : decode cJ0_charAt_5068e 12 = .ok (.invokestatic 495, 3) := by decide +kernel
theorem dJ0_charAt_5068e_15 : decode cJ0_charAt_5068e 15 = .ok (.ireturn, 1) := by decide +kernel
theorem dJ0_charAt_5068e_16 : decode cJ0_charAt_5068e 16 = .ok (.aload_n 0, 1) := by decide +kernel
theorem dJ0_charAt_5068e_17 : decode cJ0_charAt_5068e 17 = .ok (.getfield 9, 3) := by decide +kernel
theorem dJ0_charAt_5068e_20 : decode cJ0_charAt_5068e 20 = .ok (.iload_n 1, 1) := by decide +kernel
theorem dJ0_charAt_5068e_21 : decode cJ0_charAt_5068e 21 = .ok (.invokestatic 498, 3) := by decide +kernel
theorem dJ0_charAt_5068e_24 : decode cJ0_charAt_5068e 24 = .ok (.ireturn, 1) := by decide +kernel
theorem dJ0_coder_7d493_0 : decode cJ0_coder_7d493 0 = .ok (.getstatic 38, 3) := by decide +kernel
theorem dJ0_coder_7d493_3 : decode cJ0_coder_7d493 3 = .ok (.ifCond .eq 10, 3) := by decide +kernel
theorem dJ0_coder_7d493_6 : decode cJ0_coder_7d493 6 = .ok (.aload_n 0, 1) := by decide +kernel
theorem dJ0_coder_7d493_7 : decode cJ0_coder_7d493 7 = .ok (.getfield 15, 3) := by decide +kernel
theorem dJ0_coder_7d493_10 : decode cJ0_coder_7d493 10 = .ok (.goto 4, 3) := by decide +kernel
theorem dJ0_coder_7d493_13 : decode cJ0_coder_7d493 13 = .ok (.iconst 1, 1) := by decide +kernel
theorem dJ0_coder_7d493_14 : decode cJ0_coder_7d493 14 = .ok (.ireturn, 1) := by decide +kernel
theorem dJ0_isLatin1_aae02_0 : decode cJ0_isLatin1_aae02 0 = .ok (.getstatic 38, 3) := by decide +kernel
theorem dJ0_isLatin1_aae02_3 : decode cJ0_isLatin1_aae02 3 = .ok (.ifCond .eq 14, 3) := by decide +kernel
theorem dJ0_isLatin1_aae02_6 : decode cJ0_isLatin1_aae02 6 = .ok (.aload_n 0, 1) := by decide +kernel
theorem dJ0_isLatin1_aae02_7 : decode cJ0_isLatin1_aae02 7 = .ok (.getfield 15, 3) := by decide +kernel
theorem dJ0_isLatin1_aae02_10 : decode cJ0_isLatin1_aae02 10 = .ok (.ifCond .ne 7, 3) := by decide +kernel
theorem dJ0_isLatin1_aae02_13 : decode cJ0_isLatin1_aae02 13 = .ok (.iconst 1, 1) := by decide +kernel
theorem dJ0_isLatin1_aae02_14 : decode cJ0_isLatin1_aae02 14 = .ok (.goto 4, 3) := by decide +kernel
theorem dJ0_isLatin1_aae02_17 : decode cJ0_isLatin1_aae02 17 = .ok (.iconst 0, 1) := by decide +kernel
theorem dJ0_isLatin1_aae02_18 : decode cJ0_isLatin1_aae02 18 = .ok (.ireturn, 1) := by decide +kernel
theorem dJ0_checkIndex_df160_0 : decode cJ0_checkIndex_df160 0 = .ok (.iload_n 0, 1) := by decide +kernel
theorem dJ0_checkIndex_df160_1 : decode cJ0_checkIndex_df160 1 = .ok (.iload_n 1, 1) := by decide +kernel
theorem dJ0_checkIndex_df160_2 : decode cJ0_checkIndex_df160 2 = .ok (.getstatic 1053, 3) := by decide +kernel
theorem dJ0_checkIndex_df160_5 : decode cJ0_checkIndex_df160 5 = .ok (.invokestatic 1059, 3) := by decide +kernel
theorem dJ0_checkIndex_df160_8 : decode cJ0_checkIndex_df160 8 = .ok (.pop, 1) := by decide +kernel
theorem dJ0_checkIndex_df160_9 : decode cJ0_checkIndex_df160 9 = .ok (.return_, 1) := by decide +kernel
theorem dJ1_charAt_3b067_0 : decode cJ1_charAt_3b067 0 = .ok (.iload_n 1, 1) := by decide +kernel
theorem dJ1_charAt_3b067_1 : decode cJ1_charAt_3b067 1 = .ok (.aload_n 0, 1) := by decide +kernel
theorem dJ1_charAt_3b067_2 : decode cJ1_charAt_3b067 2 = .ok (.arraylength, 1) := by decide +kernel
theorem dJ1_charAt_3b067_3 : decode cJ1_charAt_3b067 3 = .ok (.invokestatic 9, 3) := by decide +kernel
theorem dJ1_charAt_3b067_6 : decode cJ1_charAt_3b067 6 = .ok (.aload_n 0, 1) := by decide +kernel
theorem dJ1_charAt_3b067_7 : decode cJ1_charAt_3b067 7 = .ok (.iload_n 1, 1) := by decide +kernel
theorem dJ1_charAt_3b067_8 : decode cJ1_charAt_3b067 8 = .ok (.baload, 1) := by decide +kernel
theorem dJ1_charAt_3b067_9 : decode cJ1_charAt_3b067 9 = .ok (.sipush 255, 3) := by decide +kernel
theorem dJ1_charAt_3b067_12 : decode cJ1_charAt_3b067 12 = .ok (.iand, 1) := by decide +kernel
theorem dJ1_charAt_3b067_13 : decode cJ1_charAt_3b067 13 = .ok (.i2c, 1) := by decide +kernel
theorem dJ1_charAt_3b067_14 : decode cJ1_charAt_3b067 14 = .ok (.ireturn, 1) := by decide +kernel
theorem dJ2_getChar_3b067_0 : decode cJ2_getChar_3b067 0 = .ok (.getstatic 44, 3) := by decide +kernel
theorem dJ2_getChar_3b067_3 : decode cJ2_getChar_3b067 3 = .ok (.ifCond .ne 25, 3) := by decide +kernel
theorem dJ2_getChar_3b067_6 : decode cJ2_getChar_3b067 6 = .ok (.iload_n 1, 1) := by decide +kernel
theorem dJ2_getChar_3b067_7 : decode cJ2_getChar_3b067 7 = .ok (.ifCond .lt 11, 3) := by decide +kernel
theorem dJ2_getChar_3b067_10 : decode cJ2_getChar_3b067 10 = .ok (.iload_n 1, 1) := by decide +kernel
theorem dJ2_getChar_3b067_11 : decode cJ2_getChar_3b067 11 = .ok (.aload_n 0, 1) := by decide +kernel
theorem dJ2_getChar_3b067_12 : decode cJ2_getChar_3b067 12 = .ok (.invokestatic 48, 3) := by decide +kernel
theorem dJ2_getChar_3b067_15 : decode cJ2_getChar_3b067 15 = .ok (.if_icmp .lt 13, 3) := by decide +kernel
theorem dJ2_getChar_3b067_18 : decode cJ2_getChar_3b067 18 = .ok (.new 52, 3) := by decide +kernel
theorem dJ2_getChar_3b067_21 : decode cJ2_getChar_3b067 21 = .ok (.dup, 1) := by decide +kernel
theorem dJ2_getChar_3b067_22 : decode cJ2_getChar_3b067 22 = .ok (.ldc 54, 2) := by decide +kernel
theorem dJ2_getChar_3b067_24 : decode cJ2_getChar_3b067 24 = .ok (.invokespecial 56, 3) := by decide +kernel
theorem dJ2_getChar_3b067_27 : decode cJ2_getChar_3b067 27 = .ok (.athrow, 1) := by decide +kernel
theorem dJ2_getChar_3b067_28 : decode cJ2_getChar_3b067 28 = .ok (.iload_n 1, 1) := by decide +kernel
theorem dJ2_getChar_3b067_29 : decode cJ2_getChar_3b067 29 = .ok (.iconst 1, 1) := by decide +kernel
theorem dJ2_getChar_3b067_30 : decode cJ2_getChar_3b067 30 = .ok (.ishl, 1) := by decide +kernel
theorem dJ2_getChar_3b067_31 : decode cJ2_getChar_3b067 31 = .ok (.istore_n 1, 1) := by decide +kernel
theorem dJ2_getChar_3b067_32 : decode cJ2_getChar_3b067 32 = .ok (.aload_n 0, 1) := by decide +kernel
theorem dJ2_getChar_3b067_33 : decode cJ2_getChar_3b067 33 = .ok (.iload_n 1, 1) := by decide +kernel
theorem dJ2_getChar_3b067_34 : decode cJ2_getChar_3b067 34 = .ok (.iinc 1 1, 3) := by decide +kernel
theorem dJ2_getChar_3b067_37 : decode cJ2_getChar_3b067 37 = .ok (.baload, 1) := by decide +kernel
theorem dJ2_getChar_3b067_38 : decode cJ2_getChar_3b067 38 = .ok (.sipush 255, 3) := by decide +kernel
theorem dJ2_getChar_3b067_41 : decode cJ2_getChar_3b067 41 = .ok (.iand, 1) := by decide +kernel
theorem dJ2_getChar_3b067_42 : decode cJ2_getChar_3b067 42 = .ok (.getstatic 59, 3) := by decide +kernel
theorem dJ2_getChar_3b067_45 : decode cJ2_getChar_3b067 45 = .ok (.ishl, 1) := by decide +kernel
theorem dJ2_getChar_3b067_46 : decode cJ2_getChar_3b067 46 = .ok (.aload_n 0, 1) := by decide +kernel
theorem dJ2_getChar_3b067_47 : decode cJ2_getChar_3b067 47 = .ok (.iload_n 1, 1) := by decide +kernel
theorem dJ2_getChar_3b067_48 : decode cJ2_getChar_3b067 48 = .ok (.baload, 1) := by decide +kernel
theorem dJ2_getChar_3b067_49 : decode cJ2_getChar_3b067 49 = .ok (.sipush 255, 3) := by decide +kernel
theorem dJ2_getChar_3b067_52 : decode cJ2_getChar_3b067 52 = .ok (.iand, 1) := by decide +kernel
theorem dJ2_getChar_3b067_53 : decode cJ2_getChar_3b067 53 = .ok (.getstatic 63, 3) := by decide +kernel
theorem dJ2_getChar_3b067_56 : decode cJ2_getChar_3b067 56 = .ok (.ishl, 1) := by decide +kernel
theorem dJ2_getChar_3b067_57 : decode cJ2_getChar_3b067 57 = .ok (.ior, 1) := by decide +kernel
theorem dJ2_getChar_3b067_58 : decode cJ2_getChar_3b067 58 = .ok (.i2c, 1) := by decide +kernel
theorem dJ2_getChar_3b067_59 : decode cJ2_getChar_3b067 59 = .ok (.ireturn, 1) := by decide +kernel
theorem dJ2_length_9d52b_0 : decode cJ2_length_9d52b 0 = .ok (.aload_n 0, 1) := by decide +kernel
theorem dJ2_length_9d52b_1 : decode cJ2_length_9d52b 1 = .ok (.arraylength, 1) := by decide +kernel
theorem dJ2_length_9d52b_2 : decode cJ2_length_9d52b 2 = .ok (.iconst 1, 1) := by decide +kernel
theorem dJ2_length_9d52b_3 : decode cJ2_length_9d52b 3 = .ok (.ishr, 1) := by decide +kernel
theorem dJ2_length_9d52b_4 : decode cJ2_length_9d52b 4 = .ok (.ireturn, 1) := by decide +kernel
theorem dJ2_charAt_3b067_0 : decode cJ2_charAt_3b067 0 = .ok (.iload_n 1, 1) := by decide +kernel
theorem dJ2_charAt_3b067_1 : decode cJ2_charAt_3b067 1 = .ok (.aload_n 0, 1) := by decide +kernel
theorem dJ2_charAt_3b067_2 : decode cJ2_charAt_3b067 2 = .ok (.invokestatic 67, 3) := by decide +kernel
theorem dJ2_charAt_3b067_5 : decode cJ2_charAt_3b067 5 = .ok (.aload_n 0, 1) := by decide +kernel
theorem dJ2_charAt_3b067_6 : decode cJ2_charAt_3b067 6 = .ok (.iload_n 1, 1) := by decide +kernel
theorem dJ2_charAt_3b067_7 : decode cJ2_charAt_3b067 7 = .ok (.invokestatic 71, 3) := by decide +kernel
theorem dJ2_charAt_3b067_10 : decode cJ2_charAt_3b067 10 = .ok (.ireturn, 1) := by decide +kernel
theorem dJ2_checkIndex_2214a_0 : decode cJ2_checkIndex_2214a 0 = .ok (.iload_n 0, 1) := by decide +kernel
theorem dJ2_checkIndex_2214a_1 : decode cJ2_checkIndex_2214a 1 = .ok (.aload_n 1, 1) := by decide +kernel
theorem dJ2_checkIndex_2214a_2 : decode cJ2_checkIndex_2214a 2 = .ok (.invokestatic 48, 3) := by decide +kernel
theorem dJ2_checkIndex_2214a_5 : decode cJ2_checkIndex_2214a 5 = .ok (.invokestatic 414, 3) := by decide +kernel
theorem dJ2_checkIndex_2214a_8 : decode cJ2_checkIndex_2214a 8 = .ok (.return_, 1) := by decide +kernel
theorem dJ7_fill_d0a16_0 : decode cJ7_fill_d0a16 0 = .ok (.iconst 0, 1) := by decide +kernel
theorem dJ7_fill_d0a16_1 : decode cJ7_fill_d0a16 1 = .ok (.istore_n 3, 1) := by decide +kernel
theorem dJ7_fill_d0a16_2 : decode cJ7_fill_d0a16 2 = .ok (.aload_n 0, 1) := by decide +kernel
theorem dJ7_fill_d0a16_3 : decode cJ7_fill_d0a16 3 = .ok (.arraylength, 1) := by decide +kernel
theorem dJ7_fill_d0a16_4 : decode cJ7_fill_d0a16 4 = .ok (.istore 4, 2) := by decide +kernel
theorem dJ7_fill_d0a16_6 : decode cJ7_fill_d0a16 6 = .ok (.iload_n 3, 1) := by decide +kernel
theorem dJ7_fill_d0a16_7 : decode cJ7_fill_d0a16 7 = .ok (.iload 4, 2) := by decide +kernel
theorem dJ7_fill_d0a16_9 : decode cJ7_fill_d0a16 9 = .ok (.if_icmp .ge 13, 3) := by decide +kernel
theorem dJ7_fill_d0a16_12 : decode cJ7_fill_d0a16 12 = .ok (.aload_n 0, 1) := by decide +kernel
theorem dJ7_fill_d0a16_13 : decode cJ7_fill_d0a16 13 = .ok (.iload_n 3, 1) := by decide +kernel
theorem dJ7_fill_d0a16_14 : decode cJ7_fill_d0a16 14 = .ok (.lload_n 1, 1) := by decide +kernel
theorem dJ7_fill_d0a16_15 : decode cJ7_fill_d0a16 15 = .ok (.lastore, 1) := by decide +kernel
theorem dJ7_fill_d0a16_16 : decode cJ7_fill_d0a16 16 = .ok (.iinc 3 1, 3) := by decide +kernel
theorem dJ7_fill_d0a16_19 : decode cJ7_fill_d0a16 19 = .ok (.goto (-13), 3) := by decide +kernel
theorem dJ7_fill_d0a16_22 : decode cJ7_fill_d0a16 22 = .ok (.return_, 1) := by decide +kernel
theorem dJ3_checkIndex_8e157_0 : decode cJ3_checkIndex_8e157 0 = .ok (.iload_n 0, 1) := by decide +kernel
theorem dJ3_checkIndex_8e157_1 : decode cJ3_checkIndex_8e157 1 = .ok (.ifCond .lt 8, 3) := by decide +kernel
theorem dJ3_checkIndex_8e157_4 : decode cJ3_checkIndex_8e157 4 = .ok (.iload_n 0, 1) := by decide +kernel
theorem dJ3_checkIndex_8e157_5 : decode cJ3_checkIndex_8e157 5 = .ok (.iload_n 1, 1) := by decide +kernel
theorem dJ3_checkIndex_8e157_6 : decode cJ3_checkIndex_8e157 6 = .ok (.if_icmp .lt 10, 3) := by decide +kernel
theorem dJ3_checkIndex_8e157_9 : decode cJ3_checkIndex_8e157 9 = .ok (.aload_n 2, 1) := by decide +kernel
theorem dJ3_checkIndex_8e157_10 : decode cJ3_checkIndex_8e157 10 = .ok (.iload_n 0, 1) := by decide +kernel
theorem dJ3_checkIndex_8e157_11 : decode cJ3_checkIndex_8e157 11 = .ok (.iload_n 1, 1) := by decide +kernel
theorem dJ3_checkIndex_8e157_12 : decode cJ3_checkIndex_8e157 12 = .ok (.invokestatic 95, 3) := by decide +kernel
theorem dJ3_checkIndex_8e157_15 : decode cJ3_checkIndex_8e157 15 = .ok (.athrow, 1) := by decide +kernel
theorem dJ3_checkIndex_8e157_16 : decode cJ3_checkIndex_8e157 16 = .ok (.iload_n 0, 1) := by decide +kernel
theorem dJ3_checkIndex_8e157_17 : decode cJ3_checkIndex_8e157 17 = .ok (.ireturn, 1) := by decide +kernel
end
section
theorem dX10_init_0 : decode cX10_init 0 = .ok (.aload_n 0, 1) := by decide +kernel
theorem dX10_init_1 : decode cX10_init 1 = .ok (.invokespecial 1, 3) := by decide +kernel
theorem dX10_init_4 : decode cX10_init 4 = .ok (.aload_n 0, 1) := by decide +kernel
theorem dX10_init_5 : decode cX10_init 5 = .ok (.new 7, 3) := by decide +kernel
theorem dX10_init_8 : decode cX10_init 8 = .ok (.dup, 1) := by decide +kernel
theorem dX10_init_9 : decode cX10_init 9 = .ok (.invokespecial 9, 3) := by decide +kernel
theorem dX10_init_12 : decode cX10_init 12 = .ok (.putfield 10, 3) := by decide +kernel
theorem dX10_init_15 : decode cX10_init 15 = .ok (.aload_n 0, 1) := by decide +kernel
theorem dX10_init_16 : decode cX10_init 16 = .ok (.iconst 4, 1) := by decide +kernel
theorem dX10_init_17 : decode cX10_init 17 = .ok (.anewarray 16, 3) := by decide +kernel
theorem dX10_init_20 : decode cX10_init 20 = .ok (.putfield 18, 3) := by decide +kernel
theorem dX10_init_23 : decode cX10_init 23 = .ok (.aload_n 0, 1) := by decide +kernel
theorem dX10_init_24 : decode cX10_init 24 = .ok (.bipush 7, 2) := by decide +kernel
theorem dX10_init_26 : decode cX10_init 26 = .ok (.newarray .int, 2) := by decide +kernel
theorem dX10_init_28 : decode cX10_init 28 = .ok (.putfield 22, 3) := by decide +kernel
theorem dX10_init_31 : decode cX10_init 31 = .ok (.aload_n 0, 1) := by decide +kernel
theorem dX10_init_32 : decode cX10_init 32 = .ok (.iconst 0, 1) := by decide +kernel
theorem dX10_init_33 : decode cX10_init 33 = .ok (.putfield 26, 3) := by decide +kernel
theorem dX10_init_36 : decode cX10_init 36 = .ok (.new 30, 3) := by decide +kernel
theorem dX10_init_39 : decode cX10_init 39 = .ok (.dup, 1) := by decide +kernel
theorem dX10_init_40 : decode cX10_init 40 = .ok (.invokespecial 32, 3) := by decide +kernel
theorem dX10_init_43 : decode cX10_init 43 = .ok (.astore_n 1, 1) := by decide +kernel
theorem dX10_init_44 : decode cX10_init 44 = .ok (.aload_n 0, 1) := by decide +kernel
theorem dX10_init_45 : decode cX10_init 45 = .ok (.new 33, 3) := by decide +kernel
theorem dX10_init_48 : decode cX10_init 48 = .ok (.dup, 1) := by decide +kernel
theorem dX10_init_49 : decode cX10_init 49 = .ok (.aload_n 1, 1) := by decide +kernel
theorem dX10_init_50 : decode cX10_init 50 = .ok (.invokespecial 35, 3) := by decide +kernel
theorem dX10_init_53 : decode cX10_init 53 = .ok (.putfield 38, 3) := by decide +kernel
theorem dX10_init_56 : decode cX10_init 56 = .ok (.aload_n 0, 1) := by decide +kernel
theorem dX10_init_57 : decode cX10_init 57 = .ok (.new 33, 3) := by decide +kernel
theorem dX10_init_60 : decode cX10_init 60 = .ok (.dup, 1) := by decide +kernel
theorem dX10_init_61 : decode cX10_init 61 = .ok (.aload_n 1, 1) := by decide +kernel
theorem dX10_init_62 : decode cX10_init 62 = .ok (.invokespecial 35, 3) := by decide +kernel
theorem dX10_init_65 : decode cX10_init 65 = .ok (.putfield 42, 3) := by decide +kernel
theorem dX10_init_68 : decode cX10_init 68 = .ok (.aload_n 0, 1) := by decide +kernel
theorem dX10_init_69 : decode cX10_init 69 = .ok (.new 33, 3) := by decide +kernel
theorem dX10_init_72 : decode cX10_init 72 = .ok (.dup, 1) := by decide +kernel
theorem dX10_init_73 : decode cX10_init 73 = .ok (.aload_n 1, 1) := by decide +kernel
theorem dX10_init_74 : decode cX10_init 74 = .ok (.invokespecial 35, 3) := by decide +kernel
theorem dX10_init_77 : decode cX10_init 77 = .ok (.putfield 45, 3) := by decide +kernel
theorem dX10_init_80 : decode cX10_init 80 = .ok (.iconst 0, 1) := by decide +kernel
theorem dX10_init_81 : decode cX10_init 81 = .ok (.istore_n 2, 1) := by decide +kernel
theorem dX10_init_82 : decode cX10_init 82 = .ok (.iload_n 2, 1) := by decide +kernel
theorem dX10_init_83 : decode cX10_init 83 = .ok (.iconst 4, 1) := by decide +kernel
theorem dX10_init_84 : decode cX10_init 84 = .ok (.if_icmp .ge 22, 3) := by decide +kernel
theorem dX10_init_87 : decode cX10_init 87 = .ok (.aload_n 0, 1) := by decide +kernel
theorem dX10_init_88 : decode cX10_init 88 = .ok (.getfield 18, 3) := by decide +kernel
theorem dX10_init_91 : decode cX10_init 91 = .ok (.iload_n 2, 1) := by decide +kernel
theorem dX10_init_92 : decode cX10_init 92 = .ok (.new 16, 3) := by decide +kernel
theorem dX10_init_95 : decode cX10_init 95 = .ok (.dup, 1) := by decide +kernel
theorem dX10_init_96 : decode cX10_init 96 = .ok (.invokespecial 48, 3) := by decide +kernel
theorem dX10_init_99 : decode cX10_init 99 = .ok (.aastore, 1) := by decide +kernel
theorem dX10_init_100 : decode cX10_init 100 = .ok (.iinc 2 1, 3) := by decide +kernel
theorem dX10_init_103 : decode cX10_init 103 = .ok (.goto (-21), 3) := by decide +kernel
theorem dX10_init_106 : decode cX10_init 106 = .ok (.return_, 1) := by decide +kernel
theorem dX10_score_0 : decode cX10_score 0 = .ok (.iload_n 1, 1) := by decide +kernel
theorem dX10_score_1 : decode cX10_score 1 = .ok (.iconst 0, 1) := by decide +kernel
theorem dX10_score_2 : decode cX10_score 2 = .ok (.iconst 5, 1) := by decide +kernel
theorem dX10_score_3 : decode cX10_score 3 = .ok (.invokestatic 49, 3) := by decide +kernel
theorem dX10_score_6 : decode cX10_score 6 = .ok (.ifCond .ne 10, 3) := by decide +kernel
theorem dX10_score_9 : decode cX10_score 9 = .ok (.iload_n 2, 1) := by decide +kernel
theorem dX10_score_10 : decode cX10_score 10 = .ok (.invokestatic 53, 3) := by decide +kernel
theorem dX10_score_13 : decode cX10_score 13 = .ok (.ifCond .eq 10, 3) := by decide +kernel
theorem dX10_score_16 : decode cX10_score 16 = .ok (.aload_n 0, 1) := by decide +kernel
theorem dX10_score_17 : decode cX10_score 17 = .ok (.ldc 57, 2) := by decide +kernel
theorem dX10_score_19 : decode cX10_score 19 = .ok (.invokevirtual 58, 3) := by decide +kernel
theorem dX10_score_22 : decode cX10_score 22 = .ok (.ireturn, 1) := by decide +kernel
theorem dX10_score_23 : decode cX10_score 23 = .ok (.aload_n 0, 1) := by decide +kernel
theorem dX10_score_24 : decode cX10_score 24 = .ok (.getfield 38, 3) := by decide +kernel
theorem dX10_score_27 : decode cX10_score 27 = .ok (.getfield 62, 3) := by decide +kernel
theorem dX10_score_30 : decode cX10_score 30 = .ok (.iload_n 1, 1) := by decide +kernel
theorem dX10_score_31 : decode cX10_score 31 = .ok (.iaload, 1) := by decide +kernel
theorem dX10_score_32 : decode cX10_score 32 = .ok (.istore_n 3, 1) := by decide +kernel
theorem dX10_score_33 : decode cX10_score 33 = .ok (.aload_n 0, 1) := by decide +kernel
theorem dX10_score_34 : decode cX10_score 34 = .ok (.getfield 38, 3) := by decide +kernel
theorem dX10_score_37 : decode cX10_score 37 = .ok (.getfield 62, 3) := by decide +kernel
theorem dX10_score_40 : decode cX10_score 40 = .ok (.iload_n 1, 1) := by decide +kernel
theorem dX10_score_41 : decode cX10_score 41 = .ok (.iload_n 2, 1) := by decide +kernel
theorem dX10_score_42 : decode cX10_score 42 = .ok (.iastore, 1) := by decide +kernel
theorem dX10_score_43 : decode cX10_score 43 = .ok (.iload_n 3, 1) := by decide +kernel
theorem dX10_score_44 : decode cX10_score 44 = .ok (.ireturn, 1) := by decide +kernel
theorem dX10_bell_0 : decode cX10_bell 0 = .ok (.iload_n 1, 1) := by decide +kernel
theorem dX10_bell_1 : decode cX10_bell 1 = .ok (.iconst 0, 1) := by decide +kernel
theorem dX10_bell_2 : decode cX10_bell 2 = .ok (.iconst 2, 1) := by decide +kernel
theorem dX10_bell_3 : decode cX10_bell 3 = .ok (.invokestatic 49, 3) := by decide +kernel
theorem dX10_bell_6 : decode cX10_bell 6 = .ok (.ifCond .ne 13, 3) := by decide +kernel
theorem dX10_bell_9 : decode cX10_bell 9 = .ok (.iload_n 2, 1) := by decide +kernel
theorem dX10_bell_10 : decode cX10_bell 10 = .ok (.iconst 0, 1) := by decide +kernel
theorem dX10_bell_11 : decode cX10_bell 11 = .ok (.bipush 47, 2) := by decide +kernel
theorem dX10_bell_13 : decode cX10_bell 13 = .ok (.invokestatic 49, 3) := by decide +kernel
theorem dX10_bell_16 : decode cX10_bell 16 = .ok (.ifCond .eq 10, 3) := by decide +kernel
theorem dX10_bell_19 : decode cX10_bell 19 = .ok (.aload_n 0, 1) := by decide +kernel
theorem dX10_bell_20 : decode cX10_bell 20 = .ok (.ldc 57, 2) := by decide +kernel
theorem dX10_bell_22 : decode cX10_bell 22 = .ok (.invokevirtual 58, 3) := by decide +kernel
theorem dX10_bell_25 : decode cX10_bell 25 = .ok (.ireturn, 1) := by decide +kernel
theorem dX10_bell_26 : decode cX10_bell 26 = .ok (.aload_n 0, 1) := by decide +kernel
theorem dX10_bell_27 : decode cX10_bell 27 = .ok (.getfield 38, 3) := by decide +kernel
theorem dX10_bell_30 : decode cX10_bell 30 = .ok (.getfield 65, 3) := by decide +kernel
theorem dX10_bell_33 : decode cX10_bell 33 = .ok (.iload_n 1, 1) := by decide +kernel
theorem dX10_bell_34 : decode cX10_bell 34 = .ok (.iaload, 1) := by decide +kernel
theorem dX10_bell_35 : decode cX10_bell 35 = .ok (.istore_n 3, 1) := by decide +kernel
theorem dX10_bell_36 : decode cX10_bell 36 = .ok (.aload_n 0, 1) := by decide +kernel
theorem dX10_bell_37 : decode cX10_bell 37 = .ok (.getfield 38, 3) := by decide +kernel
theorem dX10_bell_40 : decode cX10_bell 40 = .ok (.getfield 65, 3) := by decide +kernel
theorem dX10_bell_43 : decode cX10_bell 43 = .ok (.iload_n 1, 1) := by decide +kernel
theorem dX10_bell_44 : decode cX10_bell 44 = .ok (.iload_n 2, 1) := by decide +kernel
theorem dX10_bell_45 : decode cX10_bell 45 = .ok (.iastore, 1) := by decide +kernel
theorem dX10_bell_46 : decode cX10_bell 46 = .ok (.iload_n 3, 1) := by decide +kernel
theorem dX10_bell_47 : decode cX10_bell 47 = .ok (.ireturn, 1) := by decide +kernel
theorem dX10_now_0 : decode cX10_now 0 = .ok (.aload_n 0, 1) := by decide +kernel
theorem dX10_now_1 : decode cX10_now 1 = .ok (.getfield 38, 3) := by decide +kernel
theorem dX10_now_4 : decode cX10_now 4 = .ok (.invokevirtual 68, 3) := by decide +kernel
theorem dX10_now_7 : decode cX10_now 7 = .ok (.iload_n 1, 1) := by decide +kernel
theorem dX10_now_8 : decode cX10_now 8 = .ok (.tableswitch 91 0 5 #[40, 48, 56, 64, 72, 80], 40) := by decide +kernel
theorem dX10_now_48 : decode cX10_now 48 = .ok (.aload_n 0, 1) := by decide +kernel
theorem dX10_now_49 : decode cX10_now 49 = .ok (.getfield 38, 3) := by decide +kernel
theorem dX10_now_52 : decode cX10_now 52 = .ok (.getfield 71, 3) := by decide +kernel
theorem dX10_now_55 : decode cX10_now 55 = .ok (.ireturn, 1) := by decide +kernel
theorem dX10_now_56 : decode cX10_now 56 = .ok (.aload_n 0, 1) := by decide +kernel
theorem dX10_now_57 : decode cX10_now 57 = .ok (.getfield 38, 3) := by decide +kernel
theorem dX10_now_60 : decode cX10_now 60 = .ok (.getfield 75, 3) := by decide +kernel
theorem dX10_now_63 : decode cX10_now 63 = .ok (.ireturn, 1) := by decide +kernel
theorem dX10_now_64 : decode cX10_now 64 = .ok (.aload_n 0, 1) := by decide +kernel
theorem dX10_now_65 : decode cX10_now 65 = .ok (.getfield 38, 3) := by decide +kernel
theorem dX10_now_68 : decode cX10_now 68 = .ok (.getfield 78, 3) := by decide +kernel
theorem dX10_now_71 : decode cX10_now 71 = .ok (.ireturn, 1) := by decide +kernel
theorem dX10_now_72 : decode cX10_now 72 = .ok (.aload_n 0, 1) := by decide +kernel
theorem dX10_now_73 : decode cX10_now 73 = .ok (.getfield 38, 3) := by decide +kernel
theorem dX10_now_76 : decode cX10_now 76 = .ok (.getfield 81, 3) := by decide +kernel
theorem dX10_now_79 : decode cX10_now 79 = .ok (.ireturn, 1) := by decide +kernel
theorem dX10_now_80 : decode cX10_now 80 = .ok (.aload_n 0, 1) := by decide +kernel
theorem dX10_now_81 : decode cX10_now 81 = .ok (.getfield 38, 3) := by decide +kernel
theorem dX10_now_84 : decode cX10_now 84 = .ok (.invokevirtual 84, 3) := by decide +kernel
theorem dX10_now_87 : decode cX10_now 87 = .ok (.ireturn, 1) := by decide +kernel
theorem dX10_now_88 : decode cX10_now 88 = .ok (.ldc 88, 2) := by decide +kernel
theorem dX10_now_90 : decode cX10_now 90 = .ok (.aload_n 0, 1) := by decide +kernel
theorem dX10_now_91 : decode cX10_now 91 = .ok (.getfield 38, 3) := by decide +kernel
theorem dX10_now_94 : decode cX10_now 94 = .ok (.invokevirtual 89, 3) := by decide +kernel
theorem dX10_now_97 : decode cX10_now 97 = .ok (.iadd, 1) := by decide +kernel
theorem dX10_now_98 : decode cX10_now 98 = .ok (.ireturn, 1) := by decide +kernel
theorem dX10_now_99 : decode cX10_now 99 = .ok (.aload_n 0, 1) := by decide +kernel
theorem dX10_now_100 : decode cX10_now 100 = .ok (.ldc 57, 2) := by decide +kernel
theorem dX10_now_102 : decode cX10_now 102 = .ok (.invokevirtual 58, 3) := by decide +kernel
theorem dX10_now_105 : decode cX10_now 105 = .ok (.ireturn, 1) := by decide +kernel
theorem dX10_who_0 : decode cX10_who 0 = .ok (.iload_n 1, 1) := by decide +kernel
theorem dX10_who_1 : decode cX10_who 1 = .ok (.invokestatic 53, 3) := by decide +kernel
theorem dX10_who_4 : decode cX10_who 4 = .ok (.ifCond .eq 10, 3) := by decide +kernel
theorem dX10_who_7 : decode cX10_who 7 = .ok (.aload_n 0, 1) := by decide +kernel
theorem dX10_who_8 : decode cX10_who 8 = .ok (.ldc 57, 2) := by decide +kernel
theorem dX10_who_10 : decode cX10_who 10 = .ok (.invokevirtual 58, 3) := by decide +kernel
theorem dX10_who_13 : decode cX10_who 13 = .ok (.ireturn, 1) := by decide +kernel
theorem dX10_who_14 : decode cX10_who 14 = .ok (.aload_n 0, 1) := by decide +kernel
theorem dX10_who_15 : decode cX10_who 15 = .ok (.getfield 38, 3) := by decide +kernel
theorem dX10_who_18 : decode cX10_who 18 = .ok (.iload_n 1, 1) := by decide +kernel
theorem dX10_who_19 : decode cX10_who 19 = .ok (.invokevirtual 92, 3) := by decide +kernel
theorem dX10_who_22 : decode cX10_who 22 = .ok (.ireturn, 1) := by decide +kernel
theorem dX10_person_0 : decode cX10_person 0 = .ok (.iload_n 1, 1) := by decide +kernel
theorem dX10_person_1 : decode cX10_person 1 = .ok (.invokestatic 95, 3) := by decide +kernel
theorem dX10_person_4 : decode cX10_person 4 = .ok (.ifCond .ne 10, 3) := by decide +kernel
theorem dX10_person_7 : decode cX10_person 7 = .ok (.iload_n 2, 1) := by decide +kernel
theorem dX10_person_8 : decode cX10_person 8 = .ok (.invokestatic 53, 3) := by decide +kernel
theorem dX10_person_11 : decode cX10_person 11 = .ok (.ifCond .eq 10, 3) := by decide +kernel
theorem dX10_person_14 : decode cX10_person 14 = .ok (.aload_n 0, 1) := by decide +kernel
theorem dX10_person_15 : decode cX10_person 15 = .ok (.ldc 57, 2) := by decide +kernel
theorem dX10_person_17 : decode cX10_person 17 = .ok (.invokevirtual 58, 3) := by decide +kernel
theorem dX10_person_20 : decode cX10_person 20 = .ok (.ireturn, 1) := by decide +kernel
theorem dX10_person_21 : decode cX10_person 21 = .ok (.aload_n 0, 1) := by decide +kernel
theorem dX10_person_22 : decode cX10_person 22 = .ok (.getfield 38, 3) := by decide +kernel
theorem dX10_person_25 : decode cX10_person 25 = .ok (.getfield 98, 3) := by decide +kernel
theorem dX10_person_28 : decode cX10_person 28 = .ok (.bipush 8, 2) := by decide +kernel
theorem dX10_person_30 : decode cX10_person 30 = .ok (.if_icmp .lt 10, 3) := by decide +kernel
theorem dX10_person_33 : decode cX10_person 33 = .ok (.aload_n 0, 1) := by decide +kernel
theorem dX10_person_34 : decode cX10_person 34 = .ok (.ldc 101, 2) := by decide +kernel
theorem dX10_person_36 : decode cX10_person 36 = .ok (.invokevirtual 58, 3) := by decide +kernel
theorem dX10_person_39 : decode cX10_person 39 = .ok (.ireturn, 1) := by decide +kernel
theorem dX10_person_40 : decode cX10_person 40 = .ok (.aload_n 0, 1) := by decide +kernel
theorem dX10_person_41 : decode cX10_person 41 = .ok (.getfield 38, 3) := by decide +kernel
theorem dX10_person_44 : decode cX10_person 44 = .ok (.iload_n 1, 1) := by decide +kernel
theorem dX10_person_45 : decode cX10_person 45 = .ok (.iload_n 2, 1) := by decide +kernel
theorem dX10_person_46 : decode cX10_person 46 = .ok (.iconst 1, 1) := by decide +kernel
theorem dX10_person_47 : decode cX10_person 47 = .ok (.invokevirtual 102, 3) := by decide +kernel
theorem dX10_person_50 : decode cX10_person 50 = .ok (.aload_n 0, 1) := by decide +kernel
theorem dX10_person_51 : decode cX10_person 51 = .ok (.getfield 38, 3) := by decide +kernel
theorem dX10_person_54 : decode cX10_person 54 = .ok (.getfield 98, 3) := by decide +kernel
theorem dX10_person_57 : decode cX10_person 57 = .ok (.iconst 1, 1) := by decide +kernel
theorem dX10_person_58 : decode cX10_person 58 = .ok (.isub, 1) := by decide +kernel
theorem dX10_person_59 : decode cX10_person 59 = .ok (.ireturn, 1) := by decide +kernel
theorem dX10_of_0 : decode cX10_of 0 = .ok (.aload_n 0, 1) := by decide +kernel
theorem dX10_of_1 : decode cX10_of 1 = .ok (.iload_n 1, 1) := by decide +kernel
theorem dX10_of_2 : decode cX10_of 2 = .ok (.invokevirtual 106, 3) := by decide +kernel
theorem dX10_of_5 : decode cX10_of 5 = .ok (.ifCond .eq 10, 3) := by decide +kernel
theorem dX10_of_8 : decode cX10_of 8 = .ok (.aload_n 0, 1) := by decide +kernel
theorem dX10_of_9 : decode cX10_of 9 = .ok (.ldc 57, 2) := by decide +kernel
theorem dX10_of_11 : decode cX10_of 11 = .ok (.invokevirtual 58, 3) := by decide +kernel
theorem dX10_of_14 : decode cX10_of 14 = .ok (.ireturn, 1) := by decide +kernel
theorem dX10_of_15 : decode cX10_of 15 = .ok (.aload_n 0, 1) := by decide +kernel
theorem dX10_of_16 : decode cX10_of 16 = .ok (.getfield 38, 3) := by decide +kernel
theorem dX10_of_19 : decode cX10_of 19 = .ok (.invokevirtual 68, 3) := by decide +kernel
theorem dX10_of_22 : decode cX10_of 22 = .ok (.iload_n 2, 1) := by decide +kernel
theorem dX10_of_23 : decode cX10_of 23 = .ok (.tableswitch 162 0 8 #[49, 59, 69, 79, 89, 99, 108, 125, 150], 49) := by decide +kernel
theorem dX10_of_72 : decode cX10_of 72 = .ok (.aload_n 0, 1) := by decide +kernel
theorem dX10_of_73 : decode cX10_of 73 = .ok (.getfield 38, 3) := by decide +kernel
theorem dX10_of_76 : decode cX10_of 76 = .ok (.getfield 109, 3) := by decide +kernel
theorem dX10_of_79 : decode cX10_of 79 = .ok (.iload_n 1, 1) := by decide +kernel
theorem dX10_of_80 : decode cX10_of 80 = .ok (.iaload, 1) := by decide +kernel
theorem dX10_of_81 : decode cX10_of 81 = .ok (.ireturn, 1) := by decide +kernel
theorem dX10_of_82 : decode cX10_of 82 = .ok (.aload_n 0, 1) := by decide +kernel
theorem dX10_of_83 : decode cX10_of 83 = .ok (.getfield 38, 3) := by decide +kernel
theorem dX10_of_86 : decode cX10_of 86 = .ok (.getfield 112, 3) := by decide +kernel
theorem dX10_of_89 : decode cX10_of 89 = .ok (.iload_n 1, 1) := by decide +kernel
theorem dX10_of_90 : decode cX10_of 90 = .ok (.iaload, 1) := by decide +kernel
theorem dX10_of_91 : decode cX10_of 91 = .ok (.ireturn, 1) := by decide +kernel
theorem dX10_of_92 : decode cX10_of 92 = .ok (.aload_n 0, 1) := by decide +kernel
theorem dX10_of_93 : decode cX10_of 93 = .ok (.getfield 38, 3) := by decide +kernel
theorem dX10_of_96 : decode cX10_of 96 = .ok (.getfield 115, 3) := by decide +kernel
theorem dX10_of_99 : decode cX10_of 99 = .ok (.iload_n 1, 1) := by decide +kernel
theorem dX10_of_100 : decode cX10_of 100 = .ok (.iaload, 1) := by decide +kernel
theorem dX10_of_101 : decode cX10_of 101 = .ok (.ireturn, 1) := by decide +kernel
theorem dX10_of_102 : decode cX10_of 102 = .ok (.aload_n 0, 1) := by decide +kernel
theorem dX10_of_103 : decode cX10_of 103 = .ok (.getfield 38, 3) := by decide +kernel
theorem dX10_of_106 : decode cX10_of 106 = .ok (.getfield 118, 3) := by decide +kernel
theorem dX10_of_109 : decode cX10_of 109 = .ok (.iload_n 1, 1) := by decide +kernel
theorem dX10_of_110 : decode cX10_of 110 = .ok (.iaload, 1) := by decide +kernel
theorem dX10_of_111 : decode cX10_of 111 = .ok (.ireturn, 1) := by decide +kernel
theorem dX10_of_112 : decode cX10_of 112 = .ok (.aload_n 0, 1) := by decide +kernel
theorem dX10_of_113 : decode cX10_of 113 = .ok (.getfield 38, 3) := by decide +kernel
theorem dX10_of_116 : decode cX10_of 116 = .ok (.getfield 121, 3) := by decide +kernel
theorem dX10_of_119 : decode cX10_of 119 = .ok (.iload_n 1, 1) := by decide +kernel
theorem dX10_of_120 : decode cX10_of 120 = .ok (.iaload, 1) := by decide +kernel
theorem dX10_of_121 : decode cX10_of 121 = .ok (.ireturn, 1) := by decide +kernel
theorem dX10_of_122 : decode cX10_of 122 = .ok (.aload_n 0, 1) := by decide +kernel
theorem dX10_of_123 : decode cX10_of 123 = .ok (.getfield 38, 3) := by decide +kernel
theorem dX10_of_126 : decode cX10_of 126 = .ok (.iload_n 1, 1) := by decide +kernel
theorem dX10_of_127 : decode cX10_of 127 = .ok (.invokevirtual 124, 3) := by decide +kernel
theorem dX10_of_130 : decode cX10_of 130 = .ok (.ireturn, 1) := by decide +kernel
theorem dX10_of_131 : decode cX10_of 131 = .ok (.aload_n 0, 1) := by decide +kernel
theorem dX10_of_132 : decode cX10_of 132 = .ok (.getfield 38, 3) := by decide +kernel
theorem dX10_of_135 : decode cX10_of 135 = .ok (.iload_n 1, 1) := by decide +kernel
theorem dX10_of_136 : decode cX10_of 136 = .ok (.invokevirtual 127, 3) := by decide +kernel
theorem dX10_of_139 : decode cX10_of 139 = .ok (.ifCond .eq 7, 3) := by decide +kernel
theorem dX10_of_142 : decode cX10_of 142 = .ok (.iconst 1, 1) := by decide +kernel
theorem dX10_of_143 : decode cX10_of 143 = .ok (.goto 4, 3) := by decide +kernel
theorem dX10_of_146 : decode cX10_of 146 = .ok (.iconst 0, 1) := by decide +kernel
theorem dX10_of_147 : decode cX10_of 147 = .ok (.ireturn, 1) := by decide +kernel
theorem dX10_of_148 : decode cX10_of 148 = .ok (.aload_n 0, 1) := by decide +kernel
theorem dX10_of_149 : decode cX10_of 149 = .ok (.getfield 38, 3) := by decide +kernel
theorem dX10_of_152 : decode cX10_of 152 = .ok (.iload_n 1, 1) := by decide +kernel
theorem dX10_of_153 : decode cX10_of 153 = .ok (.invokevirtual 130, 3) := by decide +kernel
theorem dX10_of_156 : decode cX10_of 156 = .ok (.aload_n 0, 1) := by decide +kernel
theorem dX10_of_157 : decode cX10_of 157 = .ok (.getfield 38, 3) := by decide +kernel
theorem dX10_of_160 : decode cX10_of 160 = .ok (.iload_n 1, 1) := by decide +kernel
theorem dX10_of_161 : decode cX10_of 161 = .ok (.aload_n 0, 1) := by decide +kernel
theorem dX10_of_162 : decode cX10_of 162 = .ok (.getfield 38, 3) := by decide +kernel
theorem dX10_of_165 : decode cX10_of 165 = .ok (.iload_n 1, 1) := by decide +kernel
theorem dX10_of_166 : decode cX10_of 166 = .ok (.invokevirtual 124, 3) := by decide +kernel
theorem dX10_of_169 : decode cX10_of 169 = .ok (.invokevirtual 134, 3) := by decide +kernel
theorem dX10_of_172 : decode cX10_of 172 = .ok (.ireturn, 1) := by decide +kernel
theorem dX10_of_173 : decode cX10_of 173 = .ok (.aload_n 0, 1) := by decide +kernel
theorem dX10_of_174 : decode cX10_of 174 = .ok (.getfield 38, 3) := by decide +kernel
theorem dX10_of_177 : decode cX10_of 177 = .ok (.iload_n 1, 1) := by decide +kernel
theorem dX10_of_178 : decode cX10_of 178 = .ok (.invokevirtual 130, 3) := by decide +kernel
theorem dX10_of_181 : decode cX10_of 181 = .ok (.invokevirtual 140, 3) := by decide +kernel
theorem dX10_of_184 : decode cX10_of 184 = .ok (.ireturn, 1) := by decide +kernel
theorem dX10_of_185 : decode cX10_of 185 = .ok (.aload_n 0, 1) := by decide +kernel
theorem dX10_of_186 : decode cX10_of 186 = .ok (.ldc 57, 2) := by decide +kernel
theorem dX10_of_188 : decode cX10_of 188 = .ok (.invokevirtual 58, 3) := by decide +kernel
theorem dX10_of_191 : decode cX10_of 191 = .ok (.ireturn, 1) := by decide +kernel
theorem dX10_set_0 : decode cX10_set 0 = .ok (.aload_n 0, 1) := by decide +kernel
theorem dX10_set_1 : decode cX10_set 1 = .ok (.iload_n 1, 1) := by decide +kernel
theorem dX10_set_2 : decode cX10_set 2 = .ok (.invokevirtual 106, 3) := by decide +kernel
theorem dX10_set_5 : decode cX10_set 5 = .ok (.ifCond .eq 10, 3) := by decide +kernel
theorem dX10_set_8 : decode cX10_set 8 = .ok (.aload_n 0, 1) := by decide +kernel
theorem dX10_set_9 : decode cX10_set 9 = .ok (.ldc 57, 2) := by decide +kernel
theorem dX10_set_11 : decode cX10_set 11 = .ok (.invokevirtual 58, 3) := by decide +kernel
theorem dX10_set_14 : decode cX10_set 14 = .ok (.ireturn, 1) := by decide +kernel
theorem dX10_set_15 : decode cX10_set 15 = .ok (.iload_n 2, 1) := by decide +kernel
theorem dX10_set_16 : decode cX10_set 16 = .ok (.tableswitch 158 1 4 #[32, 61, 92, 125], 32) := by decide +kernel
theorem dX10_set_48 : decode cX10_set 48 = .ok (.iload_n 3, 1) := by decide +kernel
theorem dX10_set_49 : decode cX10_set 49 = .ok (.invokestatic 53, 3) := by decide +kernel
theorem dX10_set_52 : decode cX10_set 52 = .ok (.ifCond .eq 12, 3) := by decide +kernel
theorem dX10_set_55 : decode cX10_set 55 = .ok (.aload_n 0, 1) := by decide +kernel
theorem dX10_set_56 : decode cX10_set 56 = .ok (.ldc 57, 2) := by decide +kernel
theorem dX10_set_58 : decode cX10_set 58 = .ok (.invokevirtual 58, 3) := by decide +kernel
theorem dX10_set_61 : decode cX10_set 61 = .ok (.goto 15, 3) := by decide +kernel
theorem dX10_set_64 : decode cX10_set 64 = .ok (.aload_n 0, 1) := by decide +kernel
theorem dX10_set_65 : decode cX10_set 65 = .ok (.getfield 38, 3) := by decide +kernel
theorem dX10_set_68 : decode cX10_set 68 = .ok (.getfield 112, 3) := by decide +kernel
theorem dX10_set_71 : decode cX10_set 71 = .ok (.iload_n 1, 1) := by decide +kernel
theorem dX10_set_72 : decode cX10_set 72 = .ok (.iload_n 3, 1) := by decide +kernel
theorem dX10_set_73 : decode cX10_set 73 = .ok (.invokestatic 143, 3) := by decide +kernel
theorem dX10_set_76 : decode cX10_set 76 = .ok (.ireturn, 1) := by decide +kernel
theorem dX10_set_77 : decode cX10_set 77 = .ok (.iload_n 3, 1) := by decide +kernel
theorem dX10_set_78 : decode cX10_set 78 = .ok (.iconst 1, 1) := by decide +kernel
theorem dX10_set_79 : decode cX10_set 79 = .ok (.iconst 4, 1) := by decide +kernel
theorem dX10_set_80 : decode cX10_set 80 = .ok (.invokestatic 49, 3) := by decide +kernel
theorem dX10_set_83 : decode cX10_set 83 = .ok (.ifCond .eq 12, 3) := by decide +kernel
theorem dX10_set_86 : decode cX10_set 86 = .ok (.aload_n 0, 1) := by decide +kernel
theorem dX10_set_87 : decode cX10_set 87 = .ok (.ldc 57, 2) := by decide +kernel
theorem dX10_set_89 : decode cX10_set 89 = .ok (.invokevirtual 58, 3) := by decide +kernel
theorem dX10_set_92 : decode cX10_set 92 = .ok (.goto 15, 3) := by decide +kernel
theorem dX10_set_95 : decode cX10_set 95 = .ok (.aload_n 0, 1) := by decide +kernel
theorem dX10_set_96 : decode cX10_set 96 = .ok (.getfield 38, 3) := by decide +kernel
theorem dX10_set_99 : decode cX10_set 99 = .ok (.getfield 115, 3) := by decide +kernel
theorem dX10_set_102 : decode cX10_set 102 = .ok (.iload_n 1, 1) := by decide +kernel
theorem dX10_set_103 : decode cX10_set 103 = .ok (.iload_n 3, 1) := by decide +kernel
theorem dX10_set_104 : decode cX10_set 104 = .ok (.invokestatic 143, 3) := by decide +kernel
theorem dX10_set_107 : decode cX10_set 107 = .ok (.ireturn, 1) := by decide +kernel
theorem dX10_set_108 : decode cX10_set 108 = .ok (.iload_n 3, 1) := by decide +kernel
theorem dX10_set_109 : decode cX10_set 109 = .ok (.iconst 0, 1) := by decide +kernel
theorem dX10_set_110 : decode cX10_set 110 = .ok (.sipush 9999, 3) := by decide +kernel
theorem dX10_set_113 : decode cX10_set 113 = .ok (.invokestatic 49, 3) := by decide +kernel
theorem dX10_set_116 : decode cX10_set 116 = .ok (.ifCond .eq 12, 3) := by decide +kernel
theorem dX10_set_119 : decode cX10_set 119 = .ok (.aload_n 0, 1) := by decide +kernel
theorem dX10_set_120 : decode cX10_set 120 = .ok (.ldc 57, 2) := by decide +kernel
theorem dX10_set_122 : decode cX10_set 122 = .ok (.invokevirtual 58, 3) := by decide +kernel
theorem dX10_set_125 : decode cX10_set 125 = .ok (.goto 15, 3) := by decide +kernel
theorem dX10_set_128 : decode cX10_set 128 = .ok (.aload_n 0, 1) := by decide +kernel
theorem dX10_set_129 : decode cX10_set 129 = .ok (.getfield 38, 3) := by decide +kernel
theorem dX10_set_132 : decode cX10_set 132 = .ok (.getfield 118, 3) := by decide +kernel
theorem dX10_set_135 : decode cX10_set 135 = .ok (.iload_n 1, 1) := by decide +kernel
theorem dX10_set_136 : decode cX10_set 136 = .ok (.iload_n 3, 1) := by decide +kernel
theorem dX10_set_137 : decode cX10_set 137 = .ok (.invokestatic 143, 3) := by decide +kernel
theorem dX10_set_140 : decode cX10_set 140 = .ok (.ireturn, 1) := by decide +kernel
theorem dX10_set_141 : decode cX10_set 141 = .ok (.iload_n 3, 1) := by decide +kernel
theorem dX10_set_142 : decode cX10_set 142 = .ok (.iconst 0, 1) := by decide +kernel
theorem dX10_set_143 : decode cX10_set 143 = .ok (.sipush 9999, 3) := by decide +kernel
theorem dX10_set_146 : decode cX10_set 146 = .ok (.invokestatic 49, 3) := by decide +kernel
theorem dX10_set_149 : decode cX10_set 149 = .ok (.ifCond .eq 12, 3) := by decide +kernel
theorem dX10_set_152 : decode cX10_set 152 = .ok (.aload_n 0, 1) := by decide +kernel
theorem dX10_set_153 : decode cX10_set 153 = .ok (.ldc 57, 2) := by decide +kernel
theorem dX10_set_155 : decode cX10_set 155 = .ok (.invokevirtual 58, 3) := by decide +kernel
theorem dX10_set_158 : decode cX10_set 158 = .ok (.goto 15, 3) := by decide +kernel
theorem dX10_set_161 : decode cX10_set 161 = .ok (.aload_n 0, 1) := by decide +kernel
theorem dX10_set_162 : decode cX10_set 162 = .ok (.getfield 38, 3) := by decide +kernel
theorem dX10_set_165 : decode cX10_set 165 = .ok (.getfield 121, 3) := by decide +kernel
theorem dX10_set_168 : decode cX10_set 168 = .ok (.iload_n 1, 1) := by decide +kernel
theorem dX10_set_169 : decode cX10_set 169 = .ok (.iload_n 3, 1) := by decide +kernel
theorem dX10_set_170 : decode cX10_set 170 = .ok (.invokestatic 143, 3) := by decide +kernel
theorem dX10_set_173 : decode cX10_set 173 = .ok (.ireturn, 1) := by decide +kernel
theorem dX10_set_174 : decode cX10_set 174 = .ok (.aload_n 0, 1) := by decide +kernel
theorem dX10_set_175 : decode cX10_set 175 = .ok (.ldc 57, 2) := by decide +kernel
theorem dX10_set_177 : decode cX10_set 177 = .ok (.invokevirtual 58, 3) := by decide +kernel
theorem dX10_set_180 : decode cX10_set 180 = .ok (.ireturn, 1) := by decide +kernel
theorem dX10_turn_0 : decode cX10_turn 0 = .ok (.aload_n 0, 1) := by decide +kernel
theorem dX10_turn_1 : decode cX10_turn 1 = .ok (.iload_n 1, 1) := by decide +kernel
theorem dX10_turn_2 : decode cX10_turn 2 = .ok (.invokevirtual 106, 3) := by decide +kernel
theorem dX10_turn_5 : decode cX10_turn 5 = .ok (.ifCond .ne 10, 3) := by decide +kernel
theorem dX10_turn_8 : decode cX10_turn 8 = .ok (.iload_n 2, 1) := by decide +kernel
theorem dX10_turn_9 : decode cX10_turn 9 = .ok (.invokestatic 95, 3) := by decide +kernel
theorem dX10_turn_12 : decode cX10_turn 12 = .ok (.ifCond .eq 10, 3) := by decide +kernel
theorem dX10_turn_15 : decode cX10_turn 15 = .ok (.aload_n 0, 1) := by decide +kernel
theorem dX10_turn_16 : decode cX10_turn 16 = .ok (.ldc 57, 2) := by decide +kernel
theorem dX10_turn_18 : decode cX10_turn 18 = .ok (.invokevirtual 58, 3) := by decide +kernel
theorem dX10_turn_21 : decode cX10_turn 21 = .ok (.ireturn, 1) := by decide +kernel
theorem dX10_turn_22 : decode cX10_turn 22 = .ok (.aload_n 0, 1) := by decide +kernel
theorem dX10_turn_23 : decode cX10_turn 23 = .ok (.getfield 38, 3) := by decide +kernel
theorem dX10_turn_26 : decode cX10_turn 26 = .ok (.getfield 109, 3) := by decide +kernel
theorem dX10_turn_29 : decode cX10_turn 29 = .ok (.iload_n 1, 1) := by decide +kernel
theorem dX10_turn_30 : decode cX10_turn 30 = .ok (.iload_n 2, 1) := by decide +kernel
theorem dX10_turn_31 : decode cX10_turn 31 = .ok (.invokestatic 143, 3) := by decide +kernel
theorem dX10_turn_34 : decode cX10_turn 34 = .ok (.ireturn, 1) := by decide +kernel
theorem dX10_as_0 : decode cX10_as 0 = .ok (.aload_n 0, 1) := by decide +kernel
theorem dX10_as_1 : decode cX10_as 1 = .ok (.iload_n 1, 1) := by decide +kernel
theorem dX10_as_2 : decode cX10_as 2 = .ok (.invokevirtual 106, 3) := by decide +kernel
theorem dX10_as_5 : decode cX10_as 5 = .ok (.ifCond .ne 10, 3) := by decide +kernel
theorem dX10_as_8 : decode cX10_as 8 = .ok (.iload_n 2, 1) := by decide +kernel
theorem dX10_as_9 : decode cX10_as 9 = .ok (.invokestatic 95, 3) := by decide +kernel
theorem dX10_as_12 : decode cX10_as 12 = .ok (.ifCond .eq 10, 3) := by decide +kernel
theorem dX10_as_15 : decode cX10_as 15 = .ok (.aload_n 0, 1) := by decide +kernel
theorem dX10_as_16 : decode cX10_as 16 = .ok (.ldc 57, 2) := by decide +kernel
theorem dX10_as_18 : decode cX10_as 18 = .ok (.invokevirtual 58, 3) := by decide +kernel
theorem dX10_as_21 : decode cX10_as 21 = .ok (.ireturn, 1) := by decide +kernel
theorem dX10_as_22 : decode cX10_as 22 = .ok (.aload_n 0, 1) := by decide +kernel
theorem dX10_as_23 : decode cX10_as 23 = .ok (.getfield 38, 3) := by decide +kernel
theorem dX10_as_26 : decode cX10_as 26 = .ok (.getfield 109, 3) := by decide +kernel
theorem dX10_as_29 : decode cX10_as 29 = .ok (.iload_n 1, 1) := by decide +kernel
theorem dX10_as_30 : decode cX10_as 30 = .ok (.iaload, 1) := by decide +kernel
theorem dX10_as_31 : decode cX10_as 31 = .ok (.iload_n 2, 1) := by decide +kernel
theorem dX10_as_32 : decode cX10_as 32 = .ok (.invokestatic 147, 3) := by decide +kernel
theorem dX10_as_35 : decode cX10_as 35 = .ok (.ifCond .ne 10, 3) := by decide +kernel
theorem dX10_as_38 : decode cX10_as 38 = .ok (.aload_n 0, 1) := by decide +kernel
theorem dX10_as_39 : decode cX10_as 39 = .ok (.ldc 151, 2) := by decide +kernel
theorem dX10_as_41 : decode cX10_as 41 = .ok (.invokevirtual 58, 3) := by decide +kernel
theorem dX10_as_44 : decode cX10_as 44 = .ok (.ireturn, 1) := by decide +kernel
theorem dX10_as_45 : decode cX10_as 45 = .ok (.aload_n 0, 1) := by decide +kernel
theorem dX10_as_46 : decode cX10_as 46 = .ok (.getfield 38, 3) := by decide +kernel
theorem dX10_as_49 : decode cX10_as 49 = .ok (.getfield 118, 3) := by decide +kernel
theorem dX10_as_52 : decode cX10_as 52 = .ok (.iload_n 1, 1) := by decide +kernel
theorem dX10_as_53 : decode cX10_as 53 = .ok (.iaload, 1) := by decide +kernel
theorem dX10_as_54 : decode cX10_as 54 = .ok (.ireturn, 1) := by decide +kernel
theorem dX10_minutes_0 : decode cX10_minutes 0 = .ok (.iload_n 1, 1) := by decide +kernel
theorem dX10_minutes_1 : decode cX10_minutes 1 = .ok (.iconst 1, 1) := by decide +kernel
theorem dX10_minutes_2 : decode cX10_minutes 2 = .ok (.sipush 200, 3) := by decide +kernel
theorem dX10_minutes_5 : decode cX10_minutes 5 = .ok (.invokestatic 49, 3) := by decide +kernel
theorem dX10_minutes_8 : decode cX10_minutes 8 = .ok (.ifCond .eq 10, 3) := by decide +kernel
theorem dX10_minutes_11 : decode cX10_minutes 11 = .ok (.aload_n 0, 1) := by decide +kernel
theorem dX10_minutes_12 : decode cX10_minutes 12 = .ok (.ldc 57, 2) := by decide +kernel
theorem dX10_minutes_14 : decode cX10_minutes 14 = .ok (.invokevirtual 58, 3) := by decide +kernel
theorem dX10_minutes_17 : decode cX10_minutes 17 = .ok (.ireturn, 1) := by decide +kernel
theorem dX10_minutes_18 : decode cX10_minutes 18 = .ok (.aload_n 0, 1) := by decide +kernel
theorem dX10_minutes_19 : decode cX10_minutes 19 = .ok (.getfield 38, 3) := by decide +kernel
theorem dX10_minutes_22 : decode cX10_minutes 22 = .ok (.getfield 71, 3) := by decide +kernel
theorem dX10_minutes_25 : decode cX10_minutes 25 = .ok (.iload_n 1, 1) := by decide +kernel
theorem dX10_minutes_26 : decode cX10_minutes 26 = .ok (.iadd, 1) := by decide +kernel
theorem dX10_minutes_27 : decode cX10_minutes 27 = .ok (.ldc 152, 2) := by decide +kernel
theorem dX10_minutes_29 : decode cX10_minutes 29 = .ok (.if_icmp .le 10, 3) := by decide +kernel
theorem dX10_minutes_32 : decode cX10_minutes 32 = .ok (.aload_n 0, 1) := by decide +kernel
theorem dX10_minutes_33 : decode cX10_minutes 33 = .ok (.ldc 153, 2) := by decide +kernel
theorem dX10_minutes_35 : decode cX10_minutes 35 = .ok (.invokevirtual 58, 3) := by decide +kernel
theorem dX10_minutes_38 : decode cX10_minutes 38 = .ok (.ireturn, 1) := by decide +kernel
theorem dX10_minutes_39 : decode cX10_minutes 39 = .ok (.aload_n 0, 1) := by decide +kernel
theorem dX10_minutes_40 : decode cX10_minutes 40 = .ok (.getfield 38, 3) := by decide +kernel
theorem dX10_minutes_43 : decode cX10_minutes 43 = .ok (.iload_n 1, 1) := by decide +kernel
theorem dX10_minutes_44 : decode cX10_minutes 44 = .ok (.invokevirtual 154, 3) := by decide +kernel
theorem dX10_minutes_47 : decode cX10_minutes 47 = .ok (.aload_n 0, 1) := by decide +kernel
theorem dX10_minutes_48 : decode cX10_minutes 48 = .ok (.getfield 38, 3) := by decide +kernel
theorem dX10_minutes_51 : decode cX10_minutes 51 = .ok (.getfield 158, 3) := by decide +kernel
theorem dX10_minutes_54 : decode cX10_minutes 54 = .ok (.ireturn, 1) := by decide +kernel
theorem dX10_on_0 : decode cX10_on 0 = .ok (.aload_n 0, 1) := by decide +kernel
theorem dX10_on_1 : decode cX10_on 1 = .ok (.iload_n 1, 1) := by decide +kernel
theorem dX10_on_2 : decode cX10_on 2 = .ok (.invokevirtual 106, 3) := by decide +kernel
theorem dX10_on_5 : decode cX10_on 5 = .ok (.ifCond .ne 23, 3) := by decide +kernel
theorem dX10_on_8 : decode cX10_on 8 = .ok (.iload_n 2, 1) := by decide +kernel
theorem dX10_on_9 : decode cX10_on 9 = .ok (.iconst 0, 1) := by decide +kernel
theorem dX10_on_10 : decode cX10_on 10 = .ok (.sipush 300, 3) := by decide +kernel
theorem dX10_on_13 : decode cX10_on 13 = .ok (.invokestatic 49, 3) := by decide +kernel
theorem dX10_on_16 : decode cX10_on 16 = .ok (.ifCond .ne 12, 3) := by decide +kernel
theorem dX10_on_19 : decode cX10_on 19 = .ok (.iload_n 3, 1) := by decide +kernel
theorem dX10_on_20 : decode cX10_on 20 = .ok (.iconst 0, 1) := by decide +kernel
theorem dX10_on_21 : decode cX10_on 21 = .ok (.iconst 2, 1) := by decide +kernel
theorem dX10_on_22 : decode cX10_on 22 = .ok (.invokestatic 49, 3) := by decide +kernel
theorem dX10_on_25 : decode cX10_on 25 = .ok (.ifCond .eq 10, 3) := by decide +kernel
theorem dX10_on_28 : decode cX10_on 28 = .ok (.aload_n 0, 1) := by decide +kernel
theorem dX10_on_29 : decode cX10_on 29 = .ok (.ldc 57, 2) := by decide +kernel
theorem dX10_on_31 : decode cX10_on 31 = .ok (.invokevirtual 58, 3) := by decide +kernel
theorem dX10_on_34 : decode cX10_on 34 = .ok (.ireturn, 1) := by decide +kernel
theorem dX10_on_35 : decode cX10_on 35 = .ok (.aload_n 0, 1) := by decide +kernel
theorem dX10_on_36 : decode cX10_on 36 = .ok (.getfield 42, 3) := by decide +kernel
theorem dX10_on_39 : decode cX10_on 39 = .ok (.aload_n 0, 1) := by decide +kernel
theorem dX10_on_40 : decode cX10_on 40 = .ok (.getfield 38, 3) := by decide +kernel
theorem dX10_on_43 : decode cX10_on 43 = .ok (.invokevirtual 161, 3) := by decide +kernel
theorem dX10_on_46 : decode cX10_on 46 = .ok (.aload_n 0, 1) := by decide +kernel
theorem dX10_on_47 : decode cX10_on 47 = .ok (.getfield 42, 3) := by decide +kernel
theorem dX10_on_50 : decode cX10_on 50 = .ok (.iload_n 2, 1) := by decide +kernel
theorem dX10_on_51 : decode cX10_on 51 = .ok (.invokevirtual 154, 3) := by decide +kernel
theorem dX10_on_54 : decode cX10_on 54 = .ok (.iload_n 3, 1) := by decide +kernel
theorem dX10_on_55 : decode cX10_on 55 = .ok (.lookupswitch 45 #[(0, 25), (1, 35)], 25) := by decide +kernel
theorem dX10_on_80 : decode cX10_on 80 = .ok (.aload_n 0, 1) := by decide +kernel
theorem dX10_on_81 : decode cX10_on 81 = .ok (.getfield 42, 3) := by decide +kernel
theorem dX10_on_84 : decode cX10_on 84 = .ok (.getfield 112, 3) := by decide +kernel
theorem dX10_on_87 : decode cX10_on 87 = .ok (.iload_n 1, 1) := by decide +kernel
theorem dX10_on_88 : decode cX10_on 88 = .ok (.iaload, 1) := by decide +kernel
theorem dX10_on_89 : decode cX10_on 89 = .ok (.ireturn, 1) := by decide +kernel
theorem dX10_on_90 : decode cX10_on 90 = .ok (.aload_n 0, 1) := by decide +kernel
theorem dX10_on_91 : decode cX10_on 91 = .ok (.getfield 42, 3) := by decide +kernel
theorem dX10_on_94 : decode cX10_on 94 = .ok (.getfield 118, 3) := by decide +kernel
theorem dX10_on_97 : decode cX10_on 97 = .ok (.iload_n 1, 1) := by decide +kernel
theorem dX10_on_98 : decode cX10_on 98 = .ok (.iaload, 1) := by decide +kernel
theorem dX10_on_99 : decode cX10_on 99 = .ok (.ireturn, 1) := by decide +kernel
theorem dX10_on_100 : decode cX10_on 100 = .ok (.aload_n 0, 1) := by decide +kernel
theorem dX10_on_101 : decode cX10_on 101 = .ok (.getfield 42, 3) := by decide +kernel
theorem dX10_on_104 : decode cX10_on 104 = .ok (.getfield 121, 3) := by decide +kernel
theorem dX10_on_107 : decode cX10_on 107 = .ok (.iload_n 1, 1) := by decide +kernel
theorem dX10_on_108 : decode cX10_on 108 = .ok (.iaload, 1) := by decide +kernel
theorem dX10_on_109 : decode cX10_on 109 = .ok (.ireturn, 1) := by decide +kernel
theorem dX10_harmony_0 : decode cX10_harmony 0 = .ok (.iload_n 1, 1) := by decide +kernel
theorem dX10_harmony_1 : decode cX10_harmony 1 = .ok (.iconst 0, 1) := by decide +kernel
theorem dX10_harmony_2 : decode cX10_harmony 2 = .ok (.sipush 300, 3) := by decide +kernel
theorem dX10_harmony_5 : decode cX10_harmony 5 = .ok (.invokestatic 49, 3) := by decide +kernel
theorem dX10_harmony_8 : decode cX10_harmony 8 = .ok (.ifCond .eq 10, 3) := by decide +kernel
theorem dX10_harmony_11 : decode cX10_harmony 11 = .ok (.aload_n 0, 1) := by decide +kernel
theorem dX10_harmony_12 : decode cX10_harmony 12 = .ok (.ldc 57, 2) := by decide +kernel
theorem dX10_harmony_14 : decode cX10_harmony 14 = .ok (.invokevirtual 58, 3) := by decide +kernel
theorem dX10_harmony_17 : decode cX10_harmony 17 = .ok (.ireturn, 1) := by decide +kernel
theorem dX10_harmony_18 : decode cX10_harmony 18 = .ok (.aload_n 0, 1) := by decide +kernel
theorem dX10_harmony_19 : decode cX10_harmony 19 = .ok (.getfield 42, 3) := by decide +kernel
theorem dX10_harmony_22 : decode cX10_harmony 22 = .ok (.aload_n 0, 1) := by decide +kernel
theorem dX10_harmony_23 : decode cX10_harmony 23 = .ok (.getfield 38, 3) := by decide +kernel
theorem dX10_harmony_26 : decode cX10_harmony 26 = .ok (.invokevirtual 161, 3) := by decide +kernel
theorem dX10_harmony_29 : decode cX10_harmony 29 = .ok (.aload_n 0, 1) := by decide +kernel
theorem dX10_harmony_30 : decode cX10_harmony 30 = .ok (.getfield 42, 3) := by decide +kernel
theorem dX10_harmony_33 : decode cX10_harmony 33 = .ok (.iload_n 1, 1) := by decide +kernel
theorem dX10_harmony_34 : decode cX10_harmony 34 = .ok (.invokevirtual 154, 3) := by decide +kernel
theorem dX10_harmony_37 : decode cX10_harmony 37 = .ok (.aload_n 0, 1) := by decide +kernel
theorem dX10_harmony_38 : decode cX10_harmony 38 = .ok (.getfield 42, 3) := by decide +kernel
theorem dX10_harmony_41 : decode cX10_harmony 41 = .ok (.invokevirtual 89, 3) := by decide +kernel
theorem dX10_harmony_44 : decode cX10_harmony 44 = .ok (.ireturn, 1) := by decide +kernel
theorem dX10_comes_0 : decode cX10_comes 0 = .ok (.aload_n 0, 1) := by decide +kernel
theorem dX10_comes_1 : decode cX10_comes 1 = .ok (.iload_n 1, 1) := by decide +kernel
theorem dX10_comes_2 : decode cX10_comes 2 = .ok (.invokevirtual 106, 3) := by decide +kernel
theorem dX10_comes_5 : decode cX10_comes 5 = .ok (.ifCond .ne 10, 3) := by decide +kernel
theorem dX10_comes_8 : decode cX10_comes 8 = .ok (.iload_n 2, 1) := by decide +kernel
theorem dX10_comes_9 : decode cX10_comes 9 = .ok (.invokestatic 53, 3) := by decide +kernel
theorem dX10_comes_12 : decode cX10_comes 12 = .ok (.ifCond .eq 10, 3) := by decide +kernel
theorem dX10_comes_15 : decode cX10_comes 15 = .ok (.aload_n 0, 1) := by decide +kernel
theorem dX10_comes_16 : decode cX10_comes 16 = .ok (.ldc 57, 2) := by decide +kernel
theorem dX10_comes_18 : decode cX10_comes 18 = .ok (.invokevirtual 58, 3) := by decide +kernel
theorem dX10_comes_21 : decode cX10_comes 21 = .ok (.ireturn, 1) := by decide +kernel
theorem dX10_comes_22 : decode cX10_comes 22 = .ok (.aload_n 0, 1) := by decide +kernel
theorem dX10_comes_23 : decode cX10_comes 23 = .ok (.getfield 42, 3) := by decide +kernel
theorem dX10_comes_26 : decode cX10_comes 26 = .ok (.aload_n 0, 1) := by decide +kernel
theorem dX10_comes_27 : decode cX10_comes 27 = .ok (.getfield 38, 3) := by decide +kernel
theorem dX10_comes_30 : decode cX10_comes 30 = .ok (.invokevirtual 161, 3) := by decide +kernel
theorem dX10_comes_33 : decode cX10_comes 33 = .ok (.iconst 0, 1) := by decide +kernel
theorem dX10_comes_34 : decode cX10_comes 34 = .ok (.istore_n 3, 1) := by decide +kernel
theorem dX10_comes_35 : decode cX10_comes 35 = .ok (.iload_n 3, 1) := by decide +kernel
theorem dX10_comes_36 : decode cX10_comes 36 = .ok (.sipush 300, 3) := by decide +kernel
theorem dX10_comes_39 : decode cX10_comes 39 = .ok (.if_icmp .gt 31, 3) := by decide +kernel
theorem dX10_comes_42 : decode cX10_comes 42 = .ok (.aload_n 0, 1) := by decide +kernel
theorem dX10_comes_43 : decode cX10_comes 43 = .ok (.getfield 42, 3) := by decide +kernel
theorem dX10_comes_46 : decode cX10_comes 46 = .ok (.getfield 112, 3) := by decide +kernel
theorem dX10_comes_49 : decode cX10_comes 49 = .ok (.iload_n 1, 1) := by decide +kernel
theorem dX10_comes_50 : decode cX10_comes 50 = .ok (.iaload, 1) := by decide +kernel
theorem dX10_comes_51 : decode cX10_comes 51 = .ok (.iload_n 2, 1) := by decide +kernel
theorem dX10_comes_52 : decode cX10_comes 52 = .ok (.if_icmp .ne 5, 3) := by decide +kernel
theorem dX10_comes_55 : decode cX10_comes 55 = .ok (.iload_n 3, 1) := by decide +kernel
theorem dX10_comes_56 : decode cX10_comes 56 = .ok (.ireturn, 1) := by decide +kernel
theorem dX10_comes_57 : decode cX10_comes 57 = .ok (.aload_n 0, 1) := by decide +kernel
theorem dX10_comes_58 : decode cX10_comes 58 = .ok (.getfield 42, 3) := by decide +kernel
theorem dX10_comes_61 : decode cX10_comes 61 = .ok (.invokevirtual 165, 3) := by decide +kernel
theorem dX10_comes_64 : decode cX10_comes 64 = .ok (.iinc 3 1, 3) := by decide +kernel
theorem dX10_comes_67 : decode cX10_comes 67 = .ok (.goto (-32), 3) := by decide +kernel
theorem dX10_comes_70 : decode cX10_comes 70 = .ok (.aload_n 0, 1) := by decide +kernel
theorem dX10_comes_71 : decode cX10_comes 71 = .ok (.ldc 168, 2) := by decide +kernel
theorem dX10_comes_73 : decode cX10_comes 73 = .ok (.invokevirtual 58, 3) := by decide +kernel
theorem dX10_comes_76 : decode cX10_comes 76 = .ok (.ireturn, 1) := by decide +kernel
theorem dX10_plays_0 : decode cX10_plays 0 = .ok (.aload_n 0, 1) := by decide +kernel
theorem dX10_plays_1 : decode cX10_plays 1 = .ok (.iload_n 1, 1) := by decide +kernel
theorem dX10_plays_2 : decode cX10_plays 2 = .ok (.invokevirtual 106, 3) := by decide +kernel
theorem dX10_plays_5 : decode cX10_plays 5 = .ok (.ifCond .eq 10, 3) := by decide +kernel
theorem dX10_plays_8 : decode cX10_plays 8 = .ok (.aload_n 0, 1) := by decide +kernel
theorem dX10_plays_9 : decode cX10_plays 9 = .ok (.ldc 57, 2) := by decide +kernel
theorem dX10_plays_11 : decode cX10_plays 11 = .ok (.invokevirtual 58, 3) := by decide +kernel
theorem dX10_plays_14 : decode cX10_plays 14 = .ok (.ireturn, 1) := by decide +kernel
theorem dX10_plays_15 : decode cX10_plays 15 = .ok (.aload_n 0, 1) := by decide +kernel
theorem dX10_plays_16 : decode cX10_plays 16 = .ok (.getfield 42, 3) := by decide +kernel
theorem dX10_plays_19 : decode cX10_plays 19 = .ok (.aload_n 0, 1) := by decide +kernel
theorem dX10_plays_20 : decode cX10_plays 20 = .ok (.getfield 38, 3) := by decide +kernel
theorem dX10_plays_23 : decode cX10_plays 23 = .ok (.invokevirtual 161, 3) := by decide +kernel
theorem dX10_plays_26 : decode cX10_plays 26 = .ok (.iconst 1, 1) := by decide +kernel
theorem dX10_plays_27 : decode cX10_plays 27 = .ok (.istore_n 2, 1) := by decide +kernel
theorem dX10_plays_28 : decode cX10_plays 28 = .ok (.iload_n 2, 1) := by decide +kernel
theorem dX10_plays_29 : decode cX10_plays 29 = .ok (.sipush 300, 3) := by decide +kernel
theorem dX10_plays_32 : decode cX10_plays 32 = .ok (.if_icmp .gt 39, 3) := by decide +kernel
theorem dX10_plays_35 : decode cX10_plays 35 = .ok (.aload_n 0, 1) := by decide +kernel
theorem dX10_plays_36 : decode cX10_plays 36 = .ok (.getfield 42, 3) := by decide +kernel
theorem dX10_plays_39 : decode cX10_plays 39 = .ok (.invokevirtual 165, 3) := by decide +kernel
theorem dX10_plays_42 : decode cX10_plays 42 = .ok (.aload_n 0, 1) := by decide +kernel
theorem dX10_plays_43 : decode cX10_plays 43 = .ok (.getfield 42, 3) := by decide +kernel
theorem dX10_plays_46 : decode cX10_plays 46 = .ok (.getfield 118, 3) := by decide +kernel
theorem dX10_plays_49 : decode cX10_plays 49 = .ok (.iload_n 1, 1) := by decide +kernel
theorem dX10_plays_50 : decode cX10_plays 50 = .ok (.iaload, 1) := by decide +kernel
theorem dX10_plays_51 : decode cX10_plays 51 = .ok (.aload_n 0, 1) := by decide +kernel
theorem dX10_plays_52 : decode cX10_plays 52 = .ok (.getfield 38, 3) := by decide +kernel
theorem dX10_plays_55 : decode cX10_plays 55 = .ok (.getfield 118, 3) := by decide +kernel
theorem dX10_plays_58 : decode cX10_plays 58 = .ok (.iload_n 1, 1) := by decide +kernel
theorem dX10_plays_59 : decode cX10_plays 59 = .ok (.iaload, 1) := by decide +kernel
theorem dX10_plays_60 : decode cX10_plays 60 = .ok (.if_icmp .le 5, 3) := by decide +kernel
theorem dX10_plays_63 : decode cX10_plays 63 = .ok (.iload_n 2, 1) := by decide +kernel
theorem dX10_plays_64 : decode cX10_plays 64 = .ok (.ireturn, 1) := by decide +kernel
theorem dX10_plays_65 : decode cX10_plays 65 = .ok (.iinc 2 1, 3) := by decide +kernel
theorem dX10_plays_68 : decode cX10_plays 68 = .ok (.goto (-40), 3) := by decide +kernel
theorem dX10_plays_71 : decode cX10_plays 71 = .ok (.aload_n 0, 1) := by decide +kernel
theorem dX10_plays_72 : decode cX10_plays 72 = .ok (.ldc 168, 2) := by decide +kernel
theorem dX10_plays_74 : decode cX10_plays 74 = .ok (.invokevirtual 58, 3) := by decide +kernel
theorem dX10_plays_77 : decode cX10_plays 77 = .ok (.ireturn, 1) := by decide +kernel
theorem dX10_meet_0 : decode cX10_meet 0 = .ok (.aload_n 0, 1) := by decide +kernel
theorem dX10_meet_1 : decode cX10_meet 1 = .ok (.iload_n 1, 1) := by decide +kernel
theorem dX10_meet_2 : decode cX10_meet 2 = .ok (.invokevirtual 106, 3) := by decide +kernel
theorem dX10_meet_5 : decode cX10_meet 5 = .ok (.ifCond .ne 16, 3) := by decide +kernel
theorem dX10_meet_8 : decode cX10_meet 8 = .ok (.aload_n 0, 1) := by decide +kernel
theorem dX10_meet_9 : decode cX10_meet 9 = .ok (.iload_n 2, 1) := by decide +kernel
theorem dX10_meet_10 : decode cX10_meet 10 = .ok (.invokevirtual 106, 3) := by decide +kernel
theorem dX10_meet_13 : decode cX10_meet 13 = .ok (.ifCond .ne 8, 3) := by decide +kernel
theorem dX10_meet_16 : decode cX10_meet 16 = .ok (.iload_n 1, 1) := by decide +kernel
theorem dX10_meet_17 : decode cX10_meet 17 = .ok (.iload_n 2, 1) := by decide +kernel
theorem dX10_meet_18 : decode cX10_meet 18 = .ok (.if_icmp .ne 10, 3) := by decide +kernel
theorem dX10_meet_21 : decode cX10_meet 21 = .ok (.aload_n 0, 1) := by decide +kernel
theorem dX10_meet_22 : decode cX10_meet 22 = .ok (.ldc 57, 2) := by decide +kernel
theorem dX10_meet_24 : decode cX10_meet 24 = .ok (.invokevirtual 58, 3) := by decide +kernel
theorem dX10_meet_27 : decode cX10_meet 27 = .ok (.ireturn, 1) := by decide +kernel
theorem dX10_meet_28 : decode cX10_meet 28 = .ok (.aload_n 0, 1) := by decide +kernel
theorem dX10_meet_29 : decode cX10_meet 29 = .ok (.getfield 42, 3) := by decide +kernel
theorem dX10_meet_32 : decode cX10_meet 32 = .ok (.aload_n 0, 1) := by decide +kernel
theorem dX10_meet_33 : decode cX10_meet 33 = .ok (.getfield 38, 3) := by decide +kernel
theorem dX10_meet_36 : decode cX10_meet 36 = .ok (.invokevirtual 161, 3) := by decide +kernel
theorem dX10_meet_39 : decode cX10_meet 39 = .ok (.iconst 0, 1) := by decide +kernel
theorem dX10_meet_40 : decode cX10_meet 40 = .ok (.istore_n 3, 1) := by decide +kernel
theorem dX10_meet_41 : decode cX10_meet 41 = .ok (.iload_n 3, 1) := by decide +kernel
theorem dX10_meet_42 : decode cX10_meet 42 = .ok (.sipush 300, 3) := by decide +kernel
theorem dX10_meet_45 : decode cX10_meet 45 = .ok (.if_icmp .gt 39, 3) := by decide +kernel
theorem dX10_meet_48 : decode cX10_meet 48 = .ok (.aload_n 0, 1) := by decide +kernel
theorem dX10_meet_49 : decode cX10_meet 49 = .ok (.getfield 42, 3) := by decide +kernel
theorem dX10_meet_52 : decode cX10_meet 52 = .ok (.getfield 112, 3) := by decide +kernel
theorem dX10_meet_55 : decode cX10_meet 55 = .ok (.iload_n 1, 1) := by decide +kernel
theorem dX10_meet_56 : decode cX10_meet 56 = .ok (.iaload, 1) := by decide +kernel
theorem dX10_meet_57 : decode cX10_meet 57 = .ok (.aload_n 0, 1) := by decide +kernel
theorem dX10_meet_58 : decode cX10_meet 58 = .ok (.getfield 42, 3) := by decide +kernel
theorem dX10_meet_61 : decode cX10_meet 61 = .ok (.getfield 112, 3) := by decide +kernel
theorem dX10_meet_64 : decode cX10_meet 64 = .ok (.iload_n 2, 1) := by decide +kernel
theorem dX10_meet_65 : decode cX10_meet 65 = .ok (.iaload, 1) := by decide +kernel
theorem dX10_meet_66 : decode cX10_meet 66 = .ok (.if_icmp .ne 5, 3) := by decide +kernel
theorem dX10_meet_69 : decode cX10_meet 69 = .ok (.iload_n 3, 1) := by decide +kernel
theorem dX10_meet_70 : decode cX10_meet 70 = .ok (.ireturn, 1) := by decide +kernel
theorem dX10_meet_71 : decode cX10_meet 71 = .ok (.aload_n 0, 1) := by decide +kernel
theorem dX10_meet_72 : decode cX10_meet 72 = .ok (.getfield 42, 3) := by decide +kernel
theorem dX10_meet_75 : decode cX10_meet 75 = .ok (.invokevirtual 165, 3) := by decide +kernel
theorem dX10_meet_78 : decode cX10_meet 78 = .ok (.iinc 3 1, 3) := by decide +kernel
theorem dX10_meet_81 : decode cX10_meet 81 = .ok (.goto (-40), 3) := by decide +kernel
theorem dX10_meet_84 : decode cX10_meet 84 = .ok (.aload_n 0, 1) := by decide +kernel
theorem dX10_meet_85 : decode cX10_meet 85 = .ok (.ldc 168, 2) := by decide +kernel
theorem dX10_meet_87 : decode cX10_meet 87 = .ok (.invokevirtual 58, 3) := by decide +kernel
theorem dX10_meet_90 : decode cX10_meet 90 = .ok (.ireturn, 1) := by decide +kernel
theorem dX10_begin_0 : decode cX10_begin 0 = .ok (.aload_n 0, 1) := by decide +kernel
theorem dX10_begin_1 : decode cX10_begin 1 = .ok (.iload_n 1, 1) := by decide +kernel
theorem dX10_begin_2 : decode cX10_begin 2 = .ok (.invokevirtual 106, 3) := by decide +kernel
theorem dX10_begin_5 : decode cX10_begin 5 = .ok (.ifCond .ne 13, 3) := by decide +kernel
theorem dX10_begin_8 : decode cX10_begin 8 = .ok (.iload_n 2, 1) := by decide +kernel
theorem dX10_begin_9 : decode cX10_begin 9 = .ok (.iconst 1, 1) := by decide +kernel
theorem dX10_begin_10 : decode cX10_begin 10 = .ok (.bipush 100, 2) := by decide +kernel
theorem dX10_begin_12 : decode cX10_begin 12 = .ok (.invokestatic 49, 3) := by decide +kernel
theorem dX10_begin_15 : decode cX10_begin 15 = .ok (.ifCond .eq 10, 3) := by decide +kernel
theorem dX10_begin_18 : decode cX10_begin 18 = .ok (.aload_n 0, 1) := by decide +kernel
theorem dX10_begin_19 : decode cX10_begin 19 = .ok (.ldc 57, 2) := by decide +kernel
theorem dX10_begin_21 : decode cX10_begin 21 = .ok (.invokevirtual 58, 3) := by decide +kernel
theorem dX10_begin_24 : decode cX10_begin 24 = .ok (.ireturn, 1) := by decide +kernel
theorem dX10_begin_25 : decode cX10_begin 25 = .ok (.aload_n 0, 1) := by decide +kernel
theorem dX10_begin_26 : decode cX10_begin 26 = .ok (.aload_n 0, 1) := by decide +kernel
theorem dX10_begin_27 : decode cX10_begin 27 = .ok (.getfield 42, 3) := by decide +kernel
theorem dX10_begin_30 : decode cX10_begin 30 = .ok (.getfield 112, 3) := by decide +kernel
theorem dX10_begin_33 : decode cX10_begin 33 = .ok (.bipush 12, 2) := by decide +kernel
theorem dX10_begin_35 : decode cX10_begin 35 = .ok (.iload_n 1, 1) := by decide +kernel
theorem dX10_begin_36 : decode cX10_begin 36 = .ok (.iload_n 2, 1) := by decide +kernel
theorem dX10_begin_37 : decode cX10_begin 37 = .ok (.invokevirtual 169, 3) := by decide +kernel
theorem dX10_begin_40 : decode cX10_begin 40 = .ok (.ireturn, 1) := by decide +kernel
theorem dX10_kind_0 : decode cX10_kind 0 = .ok (.aload_n 0, 1) := by decide +kernel
theorem dX10_kind_1 : decode cX10_kind 1 = .ok (.iload_n 1, 1) := by decide +kernel
theorem dX10_kind_2 : decode cX10_kind 2 = .ok (.invokevirtual 106, 3) := by decide +kernel
theorem dX10_kind_5 : decode cX10_kind 5 = .ok (.ifCond .ne 13, 3) := by decide +kernel
theorem dX10_kind_8 : decode cX10_kind 8 = .ok (.iload_n 2, 1) := by decide +kernel
theorem dX10_kind_9 : decode cX10_kind 9 = .ok (.iconst 1, 1) := by decide +kernel
theorem dX10_kind_10 : decode cX10_kind 10 = .ok (.bipush 100, 2) := by decide +kernel
theorem dX10_kind_12 : decode cX10_kind 12 = .ok (.invokestatic 49, 3) := by decide +kernel
theorem dX10_kind_15 : decode cX10_kind 15 = .ok (.ifCond .eq 10, 3) := by decide +kernel
theorem dX10_kind_18 : decode cX10_kind 18 = .ok (.aload_n 0, 1) := by decide +kernel
theorem dX10_kind_19 : decode cX10_kind 19 = .ok (.ldc 57, 2) := by decide +kernel
theorem dX10_kind_21 : decode cX10_kind 21 = .ok (.invokevirtual 58, 3) := by decide +kernel
theorem dX10_kind_24 : decode cX10_kind 24 = .ok (.ireturn, 1) := by decide +kernel
theorem dX10_kind_25 : decode cX10_kind 25 = .ok (.aload_n 0, 1) := by decide +kernel
theorem dX10_kind_26 : decode cX10_kind 26 = .ok (.aload_n 0, 1) := by decide +kernel
theorem dX10_kind_27 : decode cX10_kind 27 = .ok (.getfield 42, 3) := by decide +kernel
theorem dX10_kind_30 : decode cX10_kind 30 = .ok (.getfield 109, 3) := by decide +kernel
theorem dX10_kind_33 : decode cX10_kind 33 = .ok (.bipush 6, 2) := by decide +kernel
theorem dX10_kind_35 : decode cX10_kind 35 = .ok (.iload_n 1, 1) := by decide +kernel
theorem dX10_kind_36 : decode cX10_kind 36 = .ok (.iload_n 2, 1) := by decide +kernel
theorem dX10_kind_37 : decode cX10_kind 37 = .ok (.invokevirtual 169, 3) := by decide +kernel
theorem dX10_kind_40 : decode cX10_kind 40 = .ok (.ireturn, 1) := by decide +kernel
theorem dX10_quick_0 : decode cX10_quick 0 = .ok (.aload_n 0, 1) := by decide +kernel
theorem dX10_quick_1 : decode cX10_quick 1 = .ok (.iload_n 1, 1) := by decide +kernel
theorem dX10_quick_2 : decode cX10_quick 2 = .ok (.invokevirtual 106, 3) := by decide +kernel
theorem dX10_quick_5 : decode cX10_quick 5 = .ok (.ifCond .ne 24, 3) := by decide +kernel
theorem dX10_quick_8 : decode cX10_quick 8 = .ok (.iload_n 2, 1) := by decide +kernel
theorem dX10_quick_9 : decode cX10_quick 9 = .ok (.iconst 1, 1) := by decide +kernel
theorem dX10_quick_10 : decode cX10_quick 10 = .ok (.bipush 100, 2) := by decide +kernel
theorem dX10_quick_12 : decode cX10_quick 12 = .ok (.invokestatic 49, 3) := by decide +kernel
theorem dX10_quick_15 : decode cX10_quick 15 = .ok (.ifCond .ne 14, 3) := by decide +kernel
theorem dX10_quick_18 : decode cX10_quick 18 = .ok (.iload_n 3, 1) := by decide +kernel
theorem dX10_quick_19 : decode cX10_quick 19 = .ok (.iconst 0, 1) := by decide +kernel
theorem dX10_quick_20 : decode cX10_quick 20 = .ok (.sipush 9999, 3) := by decide +kernel
theorem dX10_quick_23 : decode cX10_quick 23 = .ok (.invokestatic 49, 3) := by decide +kernel
theorem dX10_quick_26 : decode cX10_quick 26 = .ok (.ifCond .eq 10, 3) := by decide +kernel
theorem dX10_quick_29 : decode cX10_quick 29 = .ok (.aload_n 0, 1) := by decide +kernel
theorem dX10_quick_30 : decode cX10_quick 30 = .ok (.ldc 57, 2) := by decide +kernel
theorem dX10_quick_32 : decode cX10_quick 32 = .ok (.invokevirtual 58, 3) := by decide +kernel
theorem dX10_quick_35 : decode cX10_quick 35 = .ok (.ireturn, 1) := by decide +kernel
theorem dX10_quick_36 : decode cX10_quick 36 = .ok (.iconst 1, 1) := by decide +kernel
theorem dX10_quick_37 : decode cX10_quick 37 = .ok (.istore 4, 2) := by decide +kernel
theorem dX10_quick_39 : decode cX10_quick 39 = .ok (.iload 4, 2) := by decide +kernel
theorem dX10_quick_41 : decode cX10_quick 41 = .ok (.iconst 4, 1) := by decide +kernel
theorem dX10_quick_42 : decode cX10_quick 42 = .ok (.if_icmp .gt 55, 3) := by decide +kernel
theorem dX10_quick_45 : decode cX10_quick 45 = .ok (.aload_n 0, 1) := by decide +kernel
theorem dX10_quick_46 : decode cX10_quick 46 = .ok (.getfield 42, 3) := by decide +kernel
theorem dX10_quick_49 : decode cX10_quick 49 = .ok (.aload_n 0, 1) := by decide +kernel
theorem dX10_quick_50 : decode cX10_quick 50 = .ok (.getfield 38, 3) := by decide +kernel
theorem dX10_quick_53 : decode cX10_quick 53 = .ok (.invokevirtual 161, 3) := by decide +kernel
theorem dX10_quick_56 : decode cX10_quick 56 = .ok (.aload_n 0, 1) := by decide +kernel
theorem dX10_quick_57 : decode cX10_quick 57 = .ok (.getfield 42, 3) := by decide +kernel
theorem dX10_quick_60 : decode cX10_quick 60 = .ok (.getfield 115, 3) := by decide +kernel
theorem dX10_quick_63 : decode cX10_quick 63 = .ok (.iload_n 1, 1) := by decide +kernel
theorem dX10_quick_64 : decode cX10_quick 64 = .ok (.iload 4, 2) := by decide +kernel
theorem dX10_quick_66 : decode cX10_quick 66 = .ok (.iastore, 1) := by decide +kernel
theorem dX10_quick_67 : decode cX10_quick 67 = .ok (.aload_n 0, 1) := by decide +kernel
theorem dX10_quick_68 : decode cX10_quick 68 = .ok (.getfield 42, 3) := by decide +kernel
theorem dX10_quick_71 : decode cX10_quick 71 = .ok (.iload_n 2, 1) := by decide +kernel
theorem dX10_quick_72 : decode cX10_quick 72 = .ok (.invokevirtual 154, 3) := by decide +kernel
theorem dX10_quick_75 : decode cX10_quick 75 = .ok (.aload_n 0, 1) := by decide +kernel
theorem dX10_quick_76 : decode cX10_quick 76 = .ok (.getfield 42, 3) := by decide +kernel
theorem dX10_quick_79 : decode cX10_quick 79 = .ok (.getfield 118, 3) := by decide +kernel
theorem dX10_quick_82 : decode cX10_quick 82 = .ok (.iload_n 1, 1) := by decide +kernel
theorem dX10_quick_83 : decode cX10_quick 83 = .ok (.iaload, 1) := by decide +kernel
theorem dX10_quick_84 : decode cX10_quick 84 = .ok (.iload_n 3, 1) := by decide +kernel
theorem dX10_quick_85 : decode cX10_quick 85 = .ok (.if_icmp .lt 6, 3) := by decide +kernel
theorem dX10_quick_88 : decode cX10_quick 88 = .ok (.iload 4, 2) := by decide +kernel
theorem dX10_quick_90 : decode cX10_quick 90 = .ok (.ireturn, 1) := by decide +kernel
theorem dX10_quick_91 : decode cX10_quick 91 = .ok (.iinc 4 1, 3) := by decide +kernel
theorem dX10_quick_94 : decode cX10_quick 94 = .ok (.goto (-55), 3) := by decide +kernel
theorem dX10_quick_97 : decode cX10_quick 97 = .ok (.aload_n 0, 1) := by decide +kernel
theorem dX10_quick_98 : decode cX10_quick 98 = .ok (.ldc 168, 2) := by decide +kernel
theorem dX10_quick_100 : decode cX10_quick 100 = .ok (.invokevirtual 58, 3) := by decide +kernel
theorem dX10_quick_103 : decode cX10_quick 103 = .ok (.ireturn, 1) := by decide +kernel
theorem dX10_compose_0 : decode cX10_compose 0 = .ok (.iload_n 1, 1) := by decide +kernel
theorem dX10_compose_1 : decode cX10_compose 1 = .ok (.iconst 0, 1) := by decide +kernel
theorem dX10_compose_2 : decode cX10_compose 2 = .ok (.iconst 5, 1) := by decide +kernel
theorem dX10_compose_3 : decode cX10_compose 3 = .ok (.invokestatic 49, 3) := by decide +kernel
theorem dX10_compose_6 : decode cX10_compose 6 = .ok (.ifCond .ne 13, 3) := by decide +kernel
theorem dX10_compose_9 : decode cX10_compose 9 = .ok (.iload_n 2, 1) := by decide +kernel
theorem dX10_compose_10 : decode cX10_compose 10 = .ok (.iconst 1, 1) := by decide +kernel
theorem dX10_compose_11 : decode cX10_compose 11 = .ok (.bipush 100, 2) := by decide +kernel
theorem dX10_compose_13 : decode cX10_compose 13 = .ok (.invokestatic 49, 3) := by decide +kernel
theorem dX10_compose_16 : decode cX10_compose 16 = .ok (.ifCond .eq 10, 3) := by decide +kernel
theorem dX10_compose_19 : decode cX10_compose 19 = .ok (.aload_n 0, 1) := by decide +kernel
theorem dX10_compose_20 : decode cX10_compose 20 = .ok (.ldc 57, 2) := by decide +kernel
theorem dX10_compose_22 : decode cX10_compose 22 = .ok (.invokevirtual 58, 3) := by decide +kernel
theorem dX10_compose_25 : decode cX10_compose 25 = .ok (.ireturn, 1) := by decide +kernel
theorem dX10_compose_26 : decode cX10_compose 26 = .ok (.iconst 0, 1) := by decide +kernel
theorem dX10_compose_27 : decode cX10_compose 27 = .ok (.istore_n 3, 1) := by decide +kernel
theorem dX10_compose_28 : decode cX10_compose 28 = .ok (.iconst 0, 1) := by decide +kernel
theorem dX10_compose_29 : decode cX10_compose 29 = .ok (.istore 4, 2) := by decide +kernel
theorem dX10_compose_31 : decode cX10_compose 31 = .ok (.iconst 0, 1) := by decide +kernel
theorem dX10_compose_32 : decode cX10_compose 32 = .ok (.istore 5, 2) := by decide +kernel
theorem dX10_compose_34 : decode cX10_compose 34 = .ok (.iload 5, 2) := by decide +kernel
theorem dX10_compose_36 : decode cX10_compose 36 = .ok (.bipush 12, 2) := by decide +kernel
theorem dX10_compose_38 : decode cX10_compose 38 = .ok (.if_icmp .ge 67, 3) := by decide +kernel
theorem dX10_compose_41 : decode cX10_compose 41 = .ok (.aload_n 0, 1) := by decide +kernel
theorem dX10_compose_42 : decode cX10_compose 42 = .ok (.getfield 42, 3) := by decide +kernel
theorem dX10_compose_45 : decode cX10_compose 45 = .ok (.aload_n 0, 1) := by decide +kernel
theorem dX10_compose_46 : decode cX10_compose 46 = .ok (.getfield 38, 3) := by decide +kernel
theorem dX10_compose_49 : decode cX10_compose 49 = .ok (.invokevirtual 161, 3) := by decide +kernel
theorem dX10_compose_52 : decode cX10_compose 52 = .ok (.aload_n 0, 1) := by decide +kernel
theorem dX10_compose_53 : decode cX10_compose 53 = .ok (.getfield 42, 3) := by decide +kernel
theorem dX10_compose_56 : decode cX10_compose 56 = .ok (.getfield 62, 3) := by decide +kernel
theorem dX10_compose_59 : decode cX10_compose 59 = .ok (.iload_n 1, 1) := by decide +kernel
theorem dX10_compose_60 : decode cX10_compose 60 = .ok (.iload 5, 2) := by decide +kernel
theorem dX10_compose_62 : decode cX10_compose 62 = .ok (.iastore, 1) := by decide +kernel
theorem dX10_compose_63 : decode cX10_compose 63 = .ok (.aload_n 0, 1) := by decide +kernel
theorem dX10_compose_64 : decode cX10_compose 64 = .ok (.getfield 42, 3) := by decide +kernel
theorem dX10_compose_67 : decode cX10_compose 67 = .ok (.iload_n 2, 1) := by decide +kernel
theorem dX10_compose_68 : decode cX10_compose 68 = .ok (.invokevirtual 154, 3) := by decide +kernel
theorem dX10_compose_71 : decode cX10_compose 71 = .ok (.aload_n 0, 1) := by decide +kernel
theorem dX10_compose_72 : decode cX10_compose 72 = .ok (.getfield 42, 3) := by decide +kernel
theorem dX10_compose_75 : decode cX10_compose 75 = .ok (.invokevirtual 89, 3) := by decide +kernel
theorem dX10_compose_78 : decode cX10_compose 78 = .ok (.istore 6, 2) := by decide +kernel
theorem dX10_compose_80 : decode cX10_compose 80 = .ok (.iload 5, 2) := by decide +kernel
theorem dX10_compose_82 : decode cX10_compose 82 = .ok (.ifCond .eq 10, 3) := by decide +kernel
theorem dX10_compose_85 : decode cX10_compose 85 = .ok (.iload 6, 2) := by decide +kernel
theorem dX10_compose_87 : decode cX10_compose 87 = .ok (.iload 4, 2) := by decide +kernel
theorem dX10_compose_89 : decode cX10_compose 89 = .ok (.if_icmp .le 10, 3) := by decide +kernel
theorem dX10_compose_92 : decode cX10_compose 92 = .ok (.iload 6, 2) := by decide +kernel
theorem dX10_compose_94 : decode cX10_compose 94 = .ok (.istore 4, 2) := by decide +kernel
theorem dX10_compose_96 : decode cX10_compose 96 = .ok (.iload 5, 2) := by decide +kernel
theorem dX10_compose_98 : decode cX10_compose 98 = .ok (.istore_n 3, 1) := by decide +kernel
theorem dX10_compose_99 : decode cX10_compose 99 = .ok (.iinc 5 1, 3) := by decide +kernel
theorem dX10_compose_102 : decode cX10_compose 102 = .ok (.goto (-68), 3) := by decide +kernel
theorem dX10_compose_105 : decode cX10_compose 105 = .ok (.iload_n 3, 1) := by decide +kernel
theorem dX10_compose_106 : decode cX10_compose 106 = .ok (.ireturn, 1) := by decide +kernel
theorem dX10_deceive_0 : decode cX10_deceive 0 = .ok (.iload_n 1, 1) := by decide +kernel
theorem dX10_deceive_1 : decode cX10_deceive 1 = .ok (.iconst 0, 1) := by decide +kernel
theorem dX10_deceive_2 : decode cX10_deceive 2 = .ok (.iconst 2, 1) := by decide +kernel
theorem dX10_deceive_3 : decode cX10_deceive 3 = .ok (.invokestatic 49, 3) := by decide +kernel
theorem dX10_deceive_6 : decode cX10_deceive 6 = .ok (.ifCond .ne 13, 3) := by decide +kernel
theorem dX10_deceive_9 : decode cX10_deceive 9 = .ok (.iload_n 2, 1) := by decide +kernel
theorem dX10_deceive_10 : decode cX10_deceive 10 = .ok (.iconst 1, 1) := by decide +kernel
theorem dX10_deceive_11 : decode cX10_deceive 11 = .ok (.bipush 60, 2) := by decide +kernel
theorem dX10_deceive_13 : decode cX10_deceive 13 = .ok (.invokestatic 49, 3) := by decide +kernel
theorem dX10_deceive_16 : decode cX10_deceive 16 = .ok (.ifCond .eq 10, 3) := by decide +kernel
theorem dX10_deceive_19 : decode cX10_deceive 19 = .ok (.aload_n 0, 1) := by decide +kernel
theorem dX10_deceive_20 : decode cX10_deceive 20 = .ok (.ldc 57, 2) := by decide +kernel
theorem dX10_deceive_22 : decode cX10_deceive 22 = .ok (.invokevirtual 58, 3) := by decide +kernel
theorem dX10_deceive_25 : decode cX10_deceive 25 = .ok (.ireturn, 1) := by decide +kernel
theorem dX10_deceive_26 : decode cX10_deceive 26 = .ok (.iconst 0, 1) := by decide +kernel
theorem dX10_deceive_27 : decode cX10_deceive 27 = .ok (.istore_n 3, 1) := by decide +kernel
theorem dX10_deceive_28 : decode cX10_deceive 28 = .ok (.iconst 0, 1) := by decide +kernel
theorem dX10_deceive_29 : decode cX10_deceive 29 = .ok (.istore 4, 2) := by decide +kernel
theorem dX10_deceive_31 : decode cX10_deceive 31 = .ok (.iconst 0, 1) := by decide +kernel
theorem dX10_deceive_32 : decode cX10_deceive 32 = .ok (.istore 5, 2) := by decide +kernel
theorem dX10_deceive_34 : decode cX10_deceive 34 = .ok (.iload 5, 2) := by decide +kernel
theorem dX10_deceive_36 : decode cX10_deceive 36 = .ok (.bipush 48, 2) := by decide +kernel
theorem dX10_deceive_38 : decode cX10_deceive 38 = .ok (.if_icmp .ge 67, 3) := by decide +kernel
theorem dX10_deceive_41 : decode cX10_deceive 41 = .ok (.aload_n 0, 1) := by decide +kernel
theorem dX10_deceive_42 : decode cX10_deceive 42 = .ok (.getfield 42, 3) := by decide +kernel
theorem dX10_deceive_45 : decode cX10_deceive 45 = .ok (.aload_n 0, 1) := by decide +kernel
theorem dX10_deceive_46 : decode cX10_deceive 46 = .ok (.getfield 38, 3) := by decide +kernel
theorem dX10_deceive_49 : decode cX10_deceive 49 = .ok (.invokevirtual 161, 3) := by decide +kernel
theorem dX10_deceive_52 : decode cX10_deceive 52 = .ok (.aload_n 0, 1) := by decide +kernel
theorem dX10_deceive_53 : decode cX10_deceive 53 = .ok (.getfield 42, 3) := by decide +kernel
theorem dX10_deceive_56 : decode cX10_deceive 56 = .ok (.getfield 65, 3) := by decide +kernel
theorem dX10_deceive_59 : decode cX10_deceive 59 = .ok (.iload_n 1, 1) := by decide +kernel
theorem dX10_deceive_60 : decode cX10_deceive 60 = .ok (.iload 5, 2) := by decide +kernel
theorem dX10_deceive_62 : decode cX10_deceive 62 = .ok (.iastore, 1) := by decide +kernel
theorem dX10_deceive_63 : decode cX10_deceive 63 = .ok (.aload_n 0, 1) := by decide +kernel
theorem dX10_deceive_64 : decode cX10_deceive 64 = .ok (.getfield 42, 3) := by decide +kernel
theorem dX10_deceive_67 : decode cX10_deceive 67 = .ok (.iload_n 2, 1) := by decide +kernel
theorem dX10_deceive_68 : decode cX10_deceive 68 = .ok (.invokevirtual 154, 3) := by decide +kernel
theorem dX10_deceive_71 : decode cX10_deceive 71 = .ok (.aload_n 0, 1) := by decide +kernel
theorem dX10_deceive_72 : decode cX10_deceive 72 = .ok (.getfield 42, 3) := by decide +kernel
theorem dX10_deceive_75 : decode cX10_deceive 75 = .ok (.invokevirtual 89, 3) := by decide +kernel
theorem dX10_deceive_78 : decode cX10_deceive 78 = .ok (.istore 6, 2) := by decide +kernel
theorem dX10_deceive_80 : decode cX10_deceive 80 = .ok (.iload 5, 2) := by decide +kernel
theorem dX10_deceive_82 : decode cX10_deceive 82 = .ok (.ifCond .eq 10, 3) := by decide +kernel
theorem dX10_deceive_85 : decode cX10_deceive 85 = .ok (.iload 6, 2) := by decide +kernel
theorem dX10_deceive_87 : decode cX10_deceive 87 = .ok (.iload 4, 2) := by decide +kernel
theorem dX10_deceive_89 : decode cX10_deceive 89 = .ok (.if_icmp .ge 10, 3) := by decide +kernel
theorem dX10_deceive_92 : decode cX10_deceive 92 = .ok (.iload 6, 2) := by decide +kernel
theorem dX10_deceive_94 : decode cX10_deceive 94 = .ok (.istore 4, 2) := by decide +kernel
theorem dX10_deceive_96 : decode cX10_deceive 96 = .ok (.iload 5, 2) := by decide +kernel
theorem dX10_deceive_98 : decode cX10_deceive 98 = .ok (.istore_n 3, 1) := by decide +kernel
theorem dX10_deceive_99 : decode cX10_deceive 99 = .ok (.iinc 5 1, 3) := by decide +kernel
theorem dX10_deceive_102 : decode cX10_deceive 102 = .ok (.goto (-68), 3) := by decide +kernel
theorem dX10_deceive_105 : decode cX10_deceive 105 = .ok (.iload_n 3, 1) := by decide +kernel
theorem dX10_deceive_106 : decode cX10_deceive 106 = .ok (.ireturn, 1) := by decide +kernel
theorem dX10_worst_0 : decode cX10_worst 0 = .ok (.iload_n 1, 1) := by decide +kernel
theorem dX10_worst_1 : decode cX10_worst 1 = .ok (.iconst 0, 1) := by decide +kernel
theorem dX10_worst_2 : decode cX10_worst 2 = .ok (.sipush 300, 3) := by decide +kernel
theorem dX10_worst_5 : decode cX10_worst 5 = .ok (.invokestatic 49, 3) := by decide +kernel
theorem dX10_worst_8 : decode cX10_worst 8 = .ok (.ifCond .eq 10, 3) := by decide +kernel
theorem dX10_worst_11 : decode cX10_worst 11 = .ok (.aload_n 0, 1) := by decide +kernel
theorem dX10_worst_12 : decode cX10_worst 12 = .ok (.ldc 57, 2) := by decide +kernel
theorem dX10_worst_14 : decode cX10_worst 14 = .ok (.invokevirtual 58, 3) := by decide +kernel
theorem dX10_worst_17 : decode cX10_worst 17 = .ok (.ireturn, 1) := by decide +kernel
theorem dX10_worst_18 : decode cX10_worst 18 = .ok (.aload_n 0, 1) := by decide +kernel
theorem dX10_worst_19 : decode cX10_worst 19 = .ok (.getfield 38, 3) := by decide +kernel
theorem dX10_worst_22 : decode cX10_worst 22 = .ok (.getfield 98, 3) := by decide +kernel
theorem dX10_worst_25 : decode cX10_worst 25 = .ok (.ifCond .ne 10, 3) := by decide +kernel
theorem dX10_worst_28 : decode cX10_worst 28 = .ok (.aload_n 0, 1) := by decide +kernel
theorem dX10_worst_29 : decode cX10_worst 29 = .ok (.ldc 168, 2) := by decide +kernel
theorem dX10_worst_31 : decode cX10_worst 31 = .ok (.invokevirtual 58, 3) := by decide +kernel
theorem dX10_worst_34 : decode cX10_worst 34 = .ok (.ireturn, 1) := by decide +kernel
theorem dX10_worst_35 : decode cX10_worst 35 = .ok (.aload_n 0, 1) := by decide +kernel
theorem dX10_worst_36 : decode cX10_worst 36 = .ok (.getfield 42, 3) := by decide +kernel
theorem dX10_worst_39 : decode cX10_worst 39 = .ok (.aload_n 0, 1) := by decide +kernel
theorem dX10_worst_40 : decode cX10_worst 40 = .ok (.getfield 38, 3) := by decide +kernel
theorem dX10_worst_43 : decode cX10_worst 43 = .ok (.invokevirtual 161, 3) := by decide +kernel
theorem dX10_worst_46 : decode cX10_worst 46 = .ok (.aload_n 0, 1) := by decide +kernel
theorem dX10_worst_47 : decode cX10_worst 47 = .ok (.getfield 42, 3) := by decide +kernel
theorem dX10_worst_50 : decode cX10_worst 50 = .ok (.iload_n 1, 1) := by decide +kernel
theorem dX10_worst_51 : decode cX10_worst 51 = .ok (.invokevirtual 154, 3) := by decide +kernel
theorem dX10_worst_54 : decode cX10_worst 54 = .ok (.iconst 0, 1) := by decide +kernel
theorem dX10_worst_55 : decode cX10_worst 55 = .ok (.istore_n 2, 1) := by decide +kernel
theorem dX10_worst_56 : decode cX10_worst 56 = .ok (.iconst 1, 1) := by decide +kernel
theorem dX10_worst_57 : decode cX10_worst 57 = .ok (.istore_n 3, 1) := by decide +kernel
theorem dX10_worst_58 : decode cX10_worst 58 = .ok (.iload_n 3, 1) := by decide +kernel
theorem dX10_worst_59 : decode cX10_worst 59 = .ok (.aload_n 0, 1) := by decide +kernel
theorem dX10_worst_60 : decode cX10_worst 60 = .ok (.getfield 42, 3) := by decide +kernel
theorem dX10_worst_63 : decode cX10_worst 63 = .ok (.getfield 98, 3) := by decide +kernel
theorem dX10_worst_66 : decode cX10_worst 66 = .ok (.if_icmp .ge 32, 3) := by decide +kernel
theorem dX10_worst_69 : decode cX10_worst 69 = .ok (.aload_n 0, 1) := by decide +kernel
theorem dX10_worst_70 : decode cX10_worst 70 = .ok (.getfield 42, 3) := by decide +kernel
theorem dX10_worst_73 : decode cX10_worst 73 = .ok (.getfield 121, 3) := by decide +kernel
theorem dX10_worst_76 : decode cX10_worst 76 = .ok (.iload_n 3, 1) := by decide +kernel
theorem dX10_worst_77 : decode cX10_worst 77 = .ok (.iaload, 1) := by decide +kernel
theorem dX10_worst_78 : decode cX10_worst 78 = .ok (.aload_n 0, 1) := by decide +kernel
theorem dX10_worst_79 : decode cX10_worst 79 = .ok (.getfield 42, 3) := by decide +kernel
theorem dX10_worst_82 : decode cX10_worst 82 = .ok (.getfield 121, 3) := by decide +kernel
theorem dX10_worst_85 : decode cX10_worst 85 = .ok (.iload_n 2, 1) := by decide +kernel
theorem dX10_worst_86 : decode cX10_worst 86 = .ok (.iaload, 1) := by decide +kernel
theorem dX10_worst_87 : decode cX10_worst 87 = .ok (.if_icmp .le 5, 3) := by decide +kernel
theorem dX10_worst_90 : decode cX10_worst 90 = .ok (.iload_n 3, 1) := by decide +kernel
theorem dX10_worst_91 : decode cX10_worst 91 = .ok (.istore_n 2, 1) := by decide +kernel
theorem dX10_worst_92 : decode cX10_worst 92 = .ok (.iinc 3 1, 3) := by decide +kernel
theorem dX10_worst_95 : decode cX10_worst 95 = .ok (.goto (-37), 3) := by decide +kernel
theorem dX10_worst_98 : decode cX10_worst 98 = .ok (.iload_n 2, 1) := by decide +kernel
theorem dX10_worst_99 : decode cX10_worst 99 = .ok (.ireturn, 1) := by decide +kernel
theorem dX10_feed_0 : decode cX10_feed 0 = .ok (.iload_n 2, 1) := by decide +kernel
theorem dX10_feed_1 : decode cX10_feed 1 = .ok (.iconst 1, 1) := by decide +kernel
theorem dX10_feed_2 : decode cX10_feed 2 = .ok (.iconst 4, 1) := by decide +kernel
theorem dX10_feed_3 : decode cX10_feed 3 = .ok (.invokestatic 49, 3) := by decide +kernel
theorem dX10_feed_6 : decode cX10_feed 6 = .ok (.ifCond .eq 10, 3) := by decide +kernel
theorem dX10_feed_9 : decode cX10_feed 9 = .ok (.aload_n 0, 1) := by decide +kernel
theorem dX10_feed_10 : decode cX10_feed 10 = .ok (.ldc 57, 2) := by decide +kernel
theorem dX10_feed_12 : decode cX10_feed 12 = .ok (.invokevirtual 58, 3) := by decide +kernel
theorem dX10_feed_15 : decode cX10_feed 15 = .ok (.ireturn, 1) := by decide +kernel
theorem dX10_feed_16 : decode cX10_feed 16 = .ok (.aload_n 0, 1) := by decide +kernel
theorem dX10_feed_17 : decode cX10_feed 17 = .ok (.getfield 10, 3) := by decide +kernel
theorem dX10_feed_20 : decode cX10_feed 20 = .ok (.getfield 173, 3) := by decide +kernel
theorem dX10_feed_23 : decode cX10_feed 23 = .ok (.iload_n 2, 1) := by decide +kernel
theorem dX10_feed_24 : decode cX10_feed 24 = .ok (.iadd, 1) := by decide +kernel
theorem dX10_feed_25 : decode cX10_feed 25 = .ok (.bipush 120, 2) := by decide +kernel
theorem dX10_feed_27 : decode cX10_feed 27 = .ok (.if_icmp .le 10, 3) := by decide +kernel
theorem dX10_feed_30 : decode cX10_feed 30 = .ok (.aload_n 0, 1) := by decide +kernel
theorem dX10_feed_31 : decode cX10_feed 31 = .ok (.ldc 101, 2) := by decide +kernel
theorem dX10_feed_33 : decode cX10_feed 33 = .ok (.invokevirtual 58, 3) := by decide +kernel
theorem dX10_feed_36 : decode cX10_feed 36 = .ok (.ireturn, 1) := by decide +kernel
theorem dX10_feed_37 : decode cX10_feed 37 = .ok (.iload_n 2, 1) := by decide +kernel
theorem dX10_feed_38 : decode cX10_feed 38 = .ok (.iconst 1, 1) := by decide +kernel
theorem dX10_feed_39 : decode cX10_feed 39 = .ok (.isub, 1) := by decide +kernel
theorem dX10_feed_40 : decode cX10_feed 40 = .ok (.istore_n 3, 1) := by decide +kernel
theorem dX10_feed_41 : decode cX10_feed 41 = .ok (.iload_n 3, 1) := by decide +kernel
theorem dX10_feed_42 : decode cX10_feed 42 = .ok (.ifCond .lt 26, 3) := by decide +kernel
theorem dX10_feed_45 : decode cX10_feed 45 = .ok (.aload_n 0, 1) := by decide +kernel
theorem dX10_feed_46 : decode cX10_feed 46 = .ok (.getfield 10, 3) := by decide +kernel
theorem dX10_feed_49 : decode cX10_feed 49 = .ok (.iload_n 1, 1) := by decide +kernel
theorem dX10_feed_50 : decode cX10_feed 50 = .ok (.bipush 8, 2) := by decide +kernel
theorem dX10_feed_52 : decode cX10_feed 52 = .ok (.iload_n 3, 1) := by decide +kernel
theorem dX10_feed_53 : decode cX10_feed 53 = .ok (.imul, 1) := by decide +kernel
theorem dX10_feed_54 : decode cX10_feed 54 = .ok (.ishr, 1) := by decide +kernel
theorem dX10_feed_55 : decode cX10_feed 55 = .ok (.sipush 255, 3) := by decide +kernel
theorem dX10_feed_58 : decode cX10_feed 58 = .ok (.iand, 1) := by decide +kernel
theorem dX10_feed_59 : decode cX10_feed 59 = .ok (.invokevirtual 176, 3) := by decide +kernel
theorem dX10_feed_62 : decode cX10_feed 62 = .ok (.iinc 3 (-1), 3) := by decide +kernel
theorem dX10_feed_65 : decode cX10_feed 65 = .ok (.goto (-24), 3) := by decide +kernel
theorem dX10_feed_68 : decode cX10_feed 68 = .ok (.aload_n 0, 1) := by decide +kernel
theorem dX10_feed_69 : decode cX10_feed 69 = .ok (.getfield 10, 3) := by decide +kernel
theorem dX10_feed_72 : decode cX10_feed 72 = .ok (.getfield 173, 3) := by decide +kernel
theorem dX10_feed_75 : decode cX10_feed 75 = .ok (.ireturn, 1) := by decide +kernel
theorem dX10_wipe_0 : decode cX10_wipe 0 = .ok (.aload_n 0, 1) := by decide +kernel
theorem dX10_wipe_1 : decode cX10_wipe 1 = .ok (.getfield 10, 3) := by decide +kernel
theorem dX10_wipe_4 : decode cX10_wipe 4 = .ok (.getfield 173, 3) := by decide +kernel
theorem dX10_wipe_7 : decode cX10_wipe 7 = .ok (.istore_n 1, 1) := by decide +kernel
theorem dX10_wipe_8 : decode cX10_wipe 8 = .ok (.aload_n 0, 1) := by decide +kernel
theorem dX10_wipe_9 : decode cX10_wipe 9 = .ok (.getfield 10, 3) := by decide +kernel
theorem dX10_wipe_12 : decode cX10_wipe 12 = .ok (.iconst 0, 1) := by decide +kernel
theorem dX10_wipe_13 : decode cX10_wipe 13 = .ok (.putfield 173, 3) := by decide +kernel
theorem dX10_wipe_16 : decode cX10_wipe 16 = .ok (.iload_n 1, 1) := by decide +kernel
theorem dX10_wipe_17 : decode cX10_wipe 17 = .ok (.ireturn, 1) := by decide +kernel
theorem dX10_interval_0 : decode cX10_interval 0 = .ok (.aload_n 0, 1) := by decide +kernel
theorem dX10_interval_1 : decode cX10_interval 1 = .ok (.getfield 42, 3) := by decide +kernel
theorem dX10_interval_4 : decode cX10_interval 4 = .ok (.aload_n 0, 1) := by decide +kernel
theorem dX10_interval_5 : decode cX10_interval 5 = .ok (.getfield 38, 3) := by decide +kernel
theorem dX10_interval_8 : decode cX10_interval 8 = .ok (.invokevirtual 161, 3) := by decide +kernel
theorem dX10_interval_11 : decode cX10_interval 11 = .ok (.aload_n 0, 1) := by decide +kernel
theorem dX10_interval_12 : decode cX10_interval 12 = .ok (.getfield 10, 3) := by decide +kernel
theorem dX10_interval_15 : decode cX10_interval 15 = .ok (.aload_n 0, 1) := by decide +kernel
theorem dX10_interval_16 : decode cX10_interval 16 = .ok (.getfield 42, 3) := by decide +kernel
theorem dX10_interval_19 : decode cX10_interval 19 = .ok (.invokevirtual 179, 3) := by decide +kernel
theorem dX10_interval_22 : decode cX10_interval 22 = .ok (.istore_n 1, 1) := by decide +kernel
theorem dX10_interval_23 : decode cX10_interval 23 = .ok (.iload_n 1, 1) := by decide +kernel
theorem dX10_interval_24 : decode cX10_interval 24 = .ok (.ifCond .lt 14, 3) := by decide +kernel
theorem dX10_interval_27 : decode cX10_interval 27 = .ok (.aload_n 0, 1) := by decide +kernel
theorem dX10_interval_28 : decode cX10_interval 28 = .ok (.getfield 38, 3) := by decide +kernel
theorem dX10_interval_31 : decode cX10_interval 31 = .ok (.aload_n 0, 1) := by decide +kernel
theorem dX10_interval_32 : decode cX10_interval 32 = .ok (.getfield 42, 3) := by decide +kernel
theorem dX10_interval_35 : decode cX10_interval 35 = .ok (.invokevirtual 161, 3) := by decide +kernel
theorem dX10_interval_38 : decode cX10_interval 38 = .ok (.aload_n 0, 1) := by decide +kernel
theorem dX10_interval_39 : decode cX10_interval 39 = .ok (.getfield 10, 3) := by decide +kernel
theorem dX10_interval_42 : decode cX10_interval 42 = .ok (.iconst 0, 1) := by decide +kernel
theorem dX10_interval_43 : decode cX10_interval 43 = .ok (.putfield 173, 3) := by decide +kernel
theorem dX10_interval_46 : decode cX10_interval 46 = .ok (.iload_n 1, 1) := by decide +kernel
theorem dX10_interval_47 : decode cX10_interval 47 = .ok (.ireturn, 1) := by decide +kernel
theorem dX10_sheet_0 : decode cX10_sheet 0 = .ok (.iload_n 1, 1) := by decide +kernel
theorem dX10_sheet_1 : decode cX10_sheet 1 = .ok (.invokestatic 183, 3) := by decide +kernel
theorem dX10_sheet_4 : decode cX10_sheet 4 = .ok (.ifCond .ne 25, 3) := by decide +kernel
theorem dX10_sheet_7 : decode cX10_sheet 7 = .ok (.iload_n 2, 1) := by decide +kernel
theorem dX10_sheet_8 : decode cX10_sheet 8 = .ok (.ifCond .eq 28, 3) := by decide +kernel
theorem dX10_sheet_11 : decode cX10_sheet 11 = .ok (.iload_n 2, 1) := by decide +kernel
theorem dX10_sheet_12 : decode cX10_sheet 12 = .ok (.bipush 8, 2) := by decide +kernel
theorem dX10_sheet_14 : decode cX10_sheet 14 = .ok (.if_icmp .eq 22, 3) := by decide +kernel
theorem dX10_sheet_17 : decode cX10_sheet 17 = .ok (.iload_n 2, 1) := by decide +kernel
theorem dX10_sheet_18 : decode cX10_sheet 18 = .ok (.bipush 16, 2) := by decide +kernel
theorem dX10_sheet_20 : decode cX10_sheet 20 = .ok (.if_icmp .eq 16, 3) := by decide +kernel
theorem dX10_sheet_23 : decode cX10_sheet 23 = .ok (.iload_n 2, 1) := by decide +kernel
theorem dX10_sheet_24 : decode cX10_sheet 24 = .ok (.bipush 64, 2) := by decide +kernel
theorem dX10_sheet_26 : decode cX10_sheet 26 = .ok (.if_icmp .eq 10, 3) := by decide +kernel
theorem dX10_sheet_29 : decode cX10_sheet 29 = .ok (.aload_n 0, 1) := by decide +kernel
theorem dX10_sheet_30 : decode cX10_sheet 30 = .ok (.ldc 57, 2) := by decide +kernel
theorem dX10_sheet_32 : decode cX10_sheet 32 = .ok (.invokevirtual 58, 3) := by decide +kernel
theorem dX10_sheet_35 : decode cX10_sheet 35 = .ok (.ireturn, 1) := by decide +kernel
theorem dX10_sheet_36 : decode cX10_sheet 36 = .ok (.iload_n 3, 1) := by decide +kernel
theorem dX10_sheet_37 : decode cX10_sheet 37 = .ok (.ifCond .ge 10, 3) := by decide +kernel
theorem dX10_sheet_40 : decode cX10_sheet 40 = .ok (.aload_n 0, 1) := by decide +kernel
theorem dX10_sheet_41 : decode cX10_sheet 41 = .ok (.ldc 186, 2) := by decide +kernel
theorem dX10_sheet_43 : decode cX10_sheet 43 = .ok (.invokevirtual 58, 3) := by decide +kernel
theorem dX10_sheet_46 : decode cX10_sheet 46 = .ok (.ireturn, 1) := by decide +kernel
theorem dX10_sheet_47 : decode cX10_sheet 47 = .ok (.iload_n 3, 1) := by decide +kernel
theorem dX10_sheet_48 : decode cX10_sheet 48 = .ok (.bipush 40, 2) := by decide +kernel
theorem dX10_sheet_50 : decode cX10_sheet 50 = .ok (.if_icmp .le 10, 3) := by decide +kernel
theorem dX10_sheet_53 : decode cX10_sheet 53 = .ok (.aload_n 0, 1) := by decide +kernel
theorem dX10_sheet_54 : decode cX10_sheet 54 = .ok (.ldc 57, 2) := by decide +kernel
theorem dX10_sheet_56 : decode cX10_sheet 56 = .ok (.invokevirtual 58, 3) := by decide +kernel
theorem dX10_sheet_59 : decode cX10_sheet 59 = .ok (.ireturn, 1) := by decide +kernel
theorem dX10_sheet_60 : decode cX10_sheet 60 = .ok (.aload_n 0, 1) := by decide +kernel
theorem dX10_sheet_61 : decode cX10_sheet 61 = .ok (.getfield 18, 3) := by decide +kernel
theorem dX10_sheet_64 : decode cX10_sheet 64 = .ok (.iload_n 1, 1) := by decide +kernel
theorem dX10_sheet_65 : decode cX10_sheet 65 = .ok (.aaload, 1) := by decide +kernel
theorem dX10_sheet_66 : decode cX10_sheet 66 = .ok (.iload_n 2, 1) := by decide +kernel
theorem dX10_sheet_67 : decode cX10_sheet 67 = .ok (.iload_n 3, 1) := by decide +kernel
theorem dX10_sheet_68 : decode cX10_sheet 68 = .ok (.invokevirtual 187, 3) := by decide +kernel
theorem dX10_sheet_71 : decode cX10_sheet 71 = .ok (.aload_n 0, 1) := by decide +kernel
theorem dX10_sheet_72 : decode cX10_sheet 72 = .ok (.getfield 18, 3) := by decide +kernel
theorem dX10_sheet_75 : decode cX10_sheet 75 = .ok (.iload_n 1, 1) := by decide +kernel
theorem dX10_sheet_76 : decode cX10_sheet 76 = .ok (.aaload, 1) := by decide +kernel
theorem dX10_sheet_77 : decode cX10_sheet 77 = .ok (.getfield 191, 3) := by decide +kernel
theorem dX10_sheet_80 : decode cX10_sheet 80 = .ok (.ireturn, 1) := by decide +kernel
theorem dX10_write_0 : decode cX10_write 0 = .ok (.aload_n 0, 1) := by decide +kernel
theorem dX10_write_1 : decode cX10_write 1 = .ok (.iload_n 1, 1) := by decide +kernel
theorem dX10_write_2 : decode cX10_write 2 = .ok (.invokevirtual 194, 3) := by decide +kernel
theorem dX10_write_5 : decode cX10_write 5 = .ok (.istore 5, 2) := by decide +kernel
theorem dX10_write_7 : decode cX10_write 7 = .ok (.iload 5, 2) := by decide +kernel
theorem dX10_write_9 : decode cX10_write 9 = .ok (.ifCond .eq 11, 3) := by decide +kernel
theorem dX10_write_12 : decode cX10_write 12 = .ok (.aload_n 0, 1) := by decide +kernel
theorem dX10_write_13 : decode cX10_write 13 = .ok (.iload 5, 2) := by decide +kernel
theorem dX10_write_15 : decode cX10_write 15 = .ok (.invokevirtual 58, 3) := by decide +kernel
theorem dX10_write_18 : decode cX10_write 18 = .ok (.i2l, 1) := by decide +kernel
theorem dX10_write_19 : decode cX10_write 19 = .ok (.lreturn, 1) := by decide +kernel
theorem dX10_write_20 : decode cX10_write 20 = .ok (.iload_n 2, 1) := by decide +kernel
theorem dX10_write_21 : decode cX10_write 21 = .ok (.iconst 0, 1) := by decide +kernel
theorem dX10_write_22 : decode cX10_write 22 = .ok (.aload_n 0, 1) := by decide +kernel
theorem dX10_write_23 : decode cX10_write 23 = .ok (.getfield 18, 3) := by decide +kernel
theorem dX10_write_26 : decode cX10_write 26 = .ok (.iload_n 1, 1) := by decide +kernel
theorem dX10_write_27 : decode cX10_write 27 = .ok (.aaload, 1) := by decide +kernel
theorem dX10_write_28 : decode cX10_write 28 = .ok (.getfield 191, 3) := by decide +kernel
theorem dX10_write_31 : decode cX10_write 31 = .ok (.iconst 1, 1) := by decide +kernel
theorem dX10_write_32 : decode cX10_write 32 = .ok (.isub, 1) := by decide +kernel
theorem dX10_write_33 : decode cX10_write 33 = .ok (.invokestatic 49, 3) := by decide +kernel
theorem dX10_write_36 : decode cX10_write 36 = .ok (.ifCond .eq 11, 3) := by decide +kernel
theorem dX10_write_39 : decode cX10_write 39 = .ok (.aload_n 0, 1) := by decide +kernel
theorem dX10_write_40 : decode cX10_write 40 = .ok (.ldc 57, 2) := by decide +kernel
theorem dX10_write_42 : decode cX10_write 42 = .ok (.invokevirtual 58, 3) := by decide +kernel
theorem dX10_write_45 : decode cX10_write 45 = .ok (.i2l, 1) := by decide +kernel
theorem dX10_write_46 : decode cX10_write 46 = .ok (.lreturn, 1) := by decide +kernel
theorem dX10_write_47 : decode cX10_write 47 = .ok (.aload_n 0, 1) := by decide +kernel
theorem dX10_write_48 : decode cX10_write 48 = .ok (.getfield 18, 3) := by decide +kernel
theorem dX10_write_51 : decode cX10_write 51 = .ok (.iload_n 1, 1) := by decide +kernel
theorem dX10_write_52 : decode cX10_write 52 = .ok (.aaload, 1) := by decide +kernel
theorem dX10_write_53 : decode cX10_write 53 = .ok (.getfield 197, 3) := by decide +kernel
theorem dX10_write_56 : decode cX10_write 56 = .ok (.iload_n 2, 1) := by decide +kernel
theorem dX10_write_57 : decode cX10_write 57 = .ok (.laload, 1) := by decide +kernel
theorem dX10_write_58 : decode cX10_write 58 = .ok (.lstore 6, 2) := by decide +kernel
theorem dX10_write_60 : decode cX10_write 60 = .ok (.aload_n 0, 1) := by decide +kernel
theorem dX10_write_61 : decode cX10_write 61 = .ok (.getfield 18, 3) := by decide +kernel
theorem dX10_write_64 : decode cX10_write 64 = .ok (.iload_n 1, 1) := by decide +kernel
theorem dX10_write_65 : decode cX10_write 65 = .ok (.aaload, 1) := by decide +kernel
theorem dX10_write_66 : decode cX10_write 66 = .ok (.getfield 197, 3) := by decide +kernel
theorem dX10_write_69 : decode cX10_write 69 = .ok (.iload_n 2, 1) := by decide +kernel
theorem dX10_write_70 : decode cX10_write 70 = .ok (.aload_n 0, 1) := by decide +kernel
theorem dX10_write_71 : decode cX10_write 71 = .ok (.getfield 18, 3) := by decide +kernel
theorem dX10_write_74 : decode cX10_write 74 = .ok (.iload_n 1, 1) := by decide +kernel
theorem dX10_write_75 : decode cX10_write 75 = .ok (.aaload, 1) := by decide +kernel
theorem dX10_write_76 : decode cX10_write 76 = .ok (.lload_n 3, 1) := by decide +kernel
theorem dX10_write_77 : decode cX10_write 77 = .ok (.invokevirtual 201, 3) := by decide +kernel
theorem dX10_write_80 : decode cX10_write 80 = .ok (.lastore, 1) := by decide +kernel
theorem dX10_write_81 : decode cX10_write 81 = .ok (.lload 6, 2) := by decide +kernel
theorem dX10_write_83 : decode cX10_write 83 = .ok (.lreturn, 1) := by decide +kernel
theorem dX10_copy_0 : decode cX10_copy 0 = .ok (.iload_n 1, 1) := by decide +kernel
theorem dX10_copy_1 : decode cX10_copy 1 = .ok (.invokestatic 183, 3) := by decide +kernel
theorem dX10_copy_4 : decode cX10_copy 4 = .ok (.ifCond .ne 10, 3) := by decide +kernel
theorem dX10_copy_7 : decode cX10_copy 7 = .ok (.iload_n 3, 1) := by decide +kernel
theorem dX10_copy_8 : decode cX10_copy 8 = .ok (.invokestatic 183, 3) := by decide +kernel
theorem dX10_copy_11 : decode cX10_copy 11 = .ok (.ifCond .eq 10, 3) := by decide +kernel
theorem dX10_copy_14 : decode cX10_copy 14 = .ok (.aload_n 0, 1) := by decide +kernel
theorem dX10_copy_15 : decode cX10_copy 15 = .ok (.ldc 57, 2) := by decide +kernel
theorem dX10_copy_17 : decode cX10_copy 17 = .ok (.invokevirtual 58, 3) := by decide +kernel
theorem dX10_copy_20 : decode cX10_copy 20 = .ok (.ireturn, 1) := by decide +kernel
theorem dX10_copy_21 : decode cX10_copy 21 = .ok (.aload_n 0, 1) := by decide +kernel
theorem dX10_copy_22 : decode cX10_copy 22 = .ok (.getfield 18, 3) := by decide +kernel
theorem dX10_copy_25 : decode cX10_copy 25 = .ok (.iload_n 1, 1) := by decide +kernel
theorem dX10_copy_26 : decode cX10_copy 26 = .ok (.aaload, 1) := by decide +kernel
theorem dX10_copy_27 : decode cX10_copy 27 = .ok (.invokevirtual 205, 3) := by decide +kernel
theorem dX10_copy_30 : decode cX10_copy 30 = .ok (.ifCond .ne 15, 3) := by decide +kernel
theorem dX10_copy_33 : decode cX10_copy 33 = .ok (.aload_n 0, 1) := by decide +kernel
theorem dX10_copy_34 : decode cX10_copy 34 = .ok (.getfield 18, 3) := by decide +kernel
theorem dX10_copy_37 : decode cX10_copy 37 = .ok (.iload_n 3, 1) := by decide +kernel
theorem dX10_copy_38 : decode cX10_copy 38 = .ok (.aaload, 1) := by decide +kernel
theorem dX10_copy_39 : decode cX10_copy 39 = .ok (.invokevirtual 205, 3) := by decide +kernel
theorem dX10_copy_42 : decode cX10_copy 42 = .ok (.ifCond .eq 10, 3) := by decide +kernel
theorem dX10_copy_45 : decode cX10_copy 45 = .ok (.aload_n 0, 1) := by decide +kernel
theorem dX10_copy_46 : decode cX10_copy 46 = .ok (.ldc 209, 2) := by decide +kernel
theorem dX10_copy_48 : decode cX10_copy 48 = .ok (.invokevirtual 58, 3) := by decide +kernel
theorem dX10_copy_51 : decode cX10_copy 51 = .ok (.ireturn, 1) := by decide +kernel
theorem dX10_copy_52 : decode cX10_copy 52 = .ok (.aload_n 0, 1) := by decide +kernel
theorem dX10_copy_53 : decode cX10_copy 53 = .ok (.getfield 18, 3) := by decide +kernel
theorem dX10_copy_56 : decode cX10_copy 56 = .ok (.iload_n 1, 1) := by decide +kernel
theorem dX10_copy_57 : decode cX10_copy 57 = .ok (.aaload, 1) := by decide +kernel
theorem dX10_copy_58 : decode cX10_copy 58 = .ok (.getfield 210, 3) := by decide +kernel
theorem dX10_copy_61 : decode cX10_copy 61 = .ok (.aload_n 0, 1) := by decide +kernel
theorem dX10_copy_62 : decode cX10_copy 62 = .ok (.getfield 18, 3) := by decide +kernel
theorem dX10_copy_65 : decode cX10_copy 65 = .ok (.iload_n 3, 1) := by decide +kernel
theorem dX10_copy_66 : decode cX10_copy 66 = .ok (.aaload, 1) := by decide +kernel
theorem dX10_copy_67 : decode cX10_copy 67 = .ok (.getfield 210, 3) := by decide +kernel
theorem dX10_copy_70 : decode cX10_copy 70 = .ok (.if_icmp .eq 10, 3) := by decide +kernel
theorem dX10_copy_73 : decode cX10_copy 73 = .ok (.aload_n 0, 1) := by decide +kernel
theorem dX10_copy_74 : decode cX10_copy 74 = .ok (.ldc 151, 2) := by decide +kernel
theorem dX10_copy_76 : decode cX10_copy 76 = .ok (.invokevirtual 58, 3) := by decide +kernel
theorem dX10_copy_79 : decode cX10_copy 79 = .ok (.ireturn, 1) := by decide +kernel
theorem dX10_copy_80 : decode cX10_copy 80 = .ok (.aload_n 0, 1) := by decide +kernel
theorem dX10_copy_81 : decode cX10_copy 81 = .ok (.getfield 18, 3) := by decide +kernel
theorem dX10_copy_84 : decode cX10_copy 84 = .ok (.iload_n 1, 1) := by decide +kernel
theorem dX10_copy_85 : decode cX10_copy 85 = .ok (.aaload, 1) := by decide +kernel
theorem dX10_copy_86 : decode cX10_copy 86 = .ok (.iload_n 2, 1) := by decide +kernel
theorem dX10_copy_87 : decode cX10_copy 87 = .ok (.iload 5, 2) := by decide +kernel
theorem dX10_copy_89 : decode cX10_copy 89 = .ok (.invokevirtual 213, 3) := by decide +kernel
theorem dX10_copy_92 : decode cX10_copy 92 = .ok (.ifCond .eq 19, 3) := by decide +kernel
theorem dX10_copy_95 : decode cX10_copy 95 = .ok (.aload_n 0, 1) := by decide +kernel
theorem dX10_copy_96 : decode cX10_copy 96 = .ok (.getfield 18, 3) := by decide +kernel
theorem dX10_copy_99 : decode cX10_copy 99 = .ok (.iload_n 3, 1) := by decide +kernel
theorem dX10_copy_100 : decode cX10_copy 100 = .ok (.aaload, 1) := by decide +kernel
theorem dX10_copy_101 : decode cX10_copy 101 = .ok (.iload 4, 2) := by decide +kernel
theorem dX10_copy_103 : decode cX10_copy 103 = .ok (.iload 5, 2) := by decide +kernel
theorem dX10_copy_105 : decode cX10_copy 105 = .ok (.invokevirtual 213, 3) := by decide +kernel
theorem dX10_copy_108 : decode cX10_copy 108 = .ok (.ifCond .ne 10, 3) := by decide +kernel
theorem dX10_copy_111 : decode cX10_copy 111 = .ok (.aload_n 0, 1) := by decide +kernel
theorem dX10_copy_112 : decode cX10_copy 112 = .ok (.ldc 57, 2) := by decide +kernel
theorem dX10_copy_114 : decode cX10_copy 114 = .ok (.invokevirtual 58, 3) := by decide +kernel
theorem dX10_copy_117 : decode cX10_copy 117 = .ok (.ireturn, 1) := by decide +kernel
theorem dX10_copy_118 : decode cX10_copy 118 = .ok (.aload_n 0, 1) := by decide +kernel
theorem dX10_copy_119 : decode cX10_copy 119 = .ok (.getfield 18, 3) := by decide +kernel
theorem dX10_copy_122 : decode cX10_copy 122 = .ok (.iload_n 1, 1) := by decide +kernel
theorem dX10_copy_123 : decode cX10_copy 123 = .ok (.aaload, 1) := by decide +kernel
theorem dX10_copy_124 : decode cX10_copy 124 = .ok (.getfield 197, 3) := by decide +kernel
theorem dX10_copy_127 : decode cX10_copy 127 = .ok (.iload_n 2, 1) := by decide +kernel
theorem dX10_copy_128 : decode cX10_copy 128 = .ok (.aload_n 0, 1) := by decide +kernel
theorem dX10_copy_129 : decode cX10_copy 129 = .ok (.getfield 18, 3) := by decide +kernel
theorem dX10_copy_132 : decode cX10_copy 132 = .ok (.iload_n 3, 1) := by decide +kernel
theorem dX10_copy_133 : decode cX10_copy 133 = .ok (.aaload, 1) := by decide +kernel
theorem dX10_copy_134 : decode cX10_copy 134 = .ok (.getfield 197, 3) := by decide +kernel
theorem dX10_copy_137 : decode cX10_copy 137 = .ok (.iload 4, 2) := by decide +kernel
theorem dX10_copy_139 : decode cX10_copy 139 = .ok (.iload 5, 2) := by decide +kernel
theorem dX10_copy_141 : decode cX10_copy 141 = .ok (.invokestatic 216, 3) := by decide +kernel
theorem dX10_copy_144 : decode cX10_copy 144 = .ok (.iload 5, 2) := by decide +kernel
theorem dX10_copy_146 : decode cX10_copy 146 = .ok (.ireturn, 1) := by decide +kernel
theorem dX10_lays_0 : decode cX10_lays 0 = .ok (.aload_n 0, 1) := by decide +kernel
theorem dX10_lays_1 : decode cX10_lays 1 = .ok (.iload_n 1, 1) := by decide +kernel
theorem dX10_lays_2 : decode cX10_lays 2 = .ok (.invokevirtual 194, 3) := by decide +kernel
theorem dX10_lays_5 : decode cX10_lays 5 = .ok (.istore_n 2, 1) := by decide +kernel
theorem dX10_lays_6 : decode cX10_lays 6 = .ok (.iload_n 2, 1) := by decide +kernel
theorem dX10_lays_7 : decode cX10_lays 7 = .ok (.ifCond .eq 9, 3) := by decide +kernel
theorem dX10_lays_10 : decode cX10_lays 10 = .ok (.aload_n 0, 1) := by decide +kernel
theorem dX10_lays_11 : decode cX10_lays 11 = .ok (.iload_n 2, 1) := by decide +kernel
theorem dX10_lays_12 : decode cX10_lays 12 = .ok (.invokevirtual 58, 3) := by decide +kernel
theorem dX10_lays_15 : decode cX10_lays 15 = .ok (.ireturn, 1) := by decide +kernel
theorem dX10_lays_16 : decode cX10_lays 16 = .ok (.iconst 0, 1) := by decide +kernel
theorem dX10_lays_17 : decode cX10_lays 17 = .ok (.istore_n 3, 1) := by decide +kernel
theorem dX10_lays_18 : decode cX10_lays 18 = .ok (.iconst 0, 1) := by decide +kernel
theorem dX10_lays_19 : decode cX10_lays 19 = .ok (.istore 4, 2) := by decide +kernel
theorem dX10_lays_21 : decode cX10_lays 21 = .ok (.iload 4, 2) := by decide +kernel
theorem dX10_lays_23 : decode cX10_lays 23 = .ok (.bipush 6, 2) := by decide +kernel
theorem dX10_lays_25 : decode cX10_lays 25 = .ok (.if_icmp .ge 69, 3) := by decide +kernel
theorem dX10_lays_28 : decode cX10_lays 28 = .ok (.iload 4, 2) := by decide +kernel
theorem dX10_lays_30 : decode cX10_lays 30 = .ok (.aload_n 0, 1) := by decide +kernel
theorem dX10_lays_31 : decode cX10_lays 31 = .ok (.getfield 18, 3) := by decide +kernel
theorem dX10_lays_34 : decode cX10_lays 34 = .ok (.iload_n 1, 1) := by decide +kernel
theorem dX10_lays_35 : decode cX10_lays 35 = .ok (.aaload, 1) := by decide +kernel
theorem dX10_lays_36 : decode cX10_lays 36 = .ok (.getfield 191, 3) := by decide +kernel
theorem dX10_lays_39 : decode cX10_lays 39 = .ok (.if_icmp .ge 55, 3) := by decide +kernel
theorem dX10_lays_42 : decode cX10_lays 42 = .ok (.aload_n 0, 1) := by decide +kernel
theorem dX10_lays_43 : decode cX10_lays 43 = .ok (.getfield 18, 3) := by decide +kernel
theorem dX10_lays_46 : decode cX10_lays 46 = .ok (.iload_n 1, 1) := by decide +kernel
theorem dX10_lays_47 : decode cX10_lays 47 = .ok (.aaload, 1) := by decide +kernel
theorem dX10_lays_48 : decode cX10_lays 48 = .ok (.getfield 197, 3) := by decide +kernel
theorem dX10_lays_51 : decode cX10_lays 51 = .ok (.iload 4, 2) := by decide +kernel
theorem dX10_lays_53 : decode cX10_lays 53 = .ok (.laload, 1) := by decide +kernel
theorem dX10_lays_54 : decode cX10_lays 54 = .ok (.lstore 5, 2) := by decide +kernel
theorem dX10_lays_56 : decode cX10_lays 56 = .ok (.lload 5, 2) := by decide +kernel
theorem dX10_lays_58 : decode cX10_lays 58 = .ok (.lconst 0, 1) := by decide +kernel
theorem dX10_lays_59 : decode cX10_lays 59 = .ok (.lcmp, 1) := by decide +kernel
theorem dX10_lays_60 : decode cX10_lays 60 = .ok (.ifCond .lt 28, 3) := by decide +kernel
theorem dX10_lays_63 : decode cX10_lays 63 = .ok (.lload 5, 2) := by decide +kernel
theorem dX10_lays_65 : decode cX10_lays 65 = .ok (.ldc2_w 222, 3) := by decide +kernel
theorem dX10_lays_68 : decode cX10_lays 68 = .ok (.lcmp, 1) := by decide +kernel
theorem dX10_lays_69 : decode cX10_lays 69 = .ok (.ifCond .gt 19, 3) := by decide +kernel
theorem dX10_lays_72 : decode cX10_lays 72 = .ok (.aload_n 0, 1) := by decide +kernel
theorem dX10_lays_73 : decode cX10_lays 73 = .ok (.getfield 38, 3) := by decide +kernel
theorem dX10_lays_76 : decode cX10_lays 76 = .ok (.getfield 62, 3) := by decide +kernel
theorem dX10_lays_79 : decode cX10_lays 79 = .ok (.iload 4, 2) := by decide +kernel
theorem dX10_lays_81 : decode cX10_lays 81 = .ok (.lload 5, 2) := by decide +kernel
theorem dX10_lays_83 : decode cX10_lays 83 = .ok (.l2i, 1) := by decide +kernel
theorem dX10_lays_84 : decode cX10_lays 84 = .ok (.iastore, 1) := by decide +kernel
theorem dX10_lays_85 : decode cX10_lays 85 = .ok (.iinc 3 1, 3) := by decide +kernel
theorem dX10_lays_88 : decode cX10_lays 88 = .ok (.iinc 4 1, 3) := by decide +kernel
theorem dX10_lays_91 : decode cX10_lays 91 = .ok (.goto (-70), 3) := by decide +kernel
theorem dX10_lays_94 : decode cX10_lays 94 = .ok (.iload_n 3, 1) := by decide +kernel
theorem dX10_lays_95 : decode cX10_lays 95 = .ok (.ireturn, 1) := by decide +kernel
theorem dX10_book_0 : decode cX10_book 0 = .ok (.aload_n 0, 1) := by decide +kernel
theorem dX10_book_1 : decode cX10_book 1 = .ok (.iload_n 1, 1) := by decide +kernel
theorem dX10_book_2 : decode cX10_book 2 = .ok (.invokevirtual 194, 3) := by decide +kernel
theorem dX10_book_5 : decode cX10_book 5 = .ok (.istore_n 3, 1) := by decide +kernel
theorem dX10_book_6 : decode cX10_book 6 = .ok (.iload_n 3, 1) := by decide +kernel
theorem dX10_book_7 : decode cX10_book 7 = .ok (.ifCond .eq 9, 3) := by decide +kernel
theorem dX10_book_10 : decode cX10_book 10 = .ok (.aload_n 0, 1) := by decide +kernel
theorem dX10_book_11 : decode cX10_book 11 = .ok (.iload_n 3, 1) := by decide +kernel
theorem dX10_book_12 : decode cX10_book 12 = .ok (.invokevirtual 58, 3) := by decide +kernel
theorem dX10_book_15 : decode cX10_book 15 = .ok (.ireturn, 1) := by decide +kernel
theorem dX10_book_16 : decode cX10_book 16 = .ok (.aload_n 0, 1) := by decide +kernel
theorem dX10_book_17 : decode cX10_book 17 = .ok (.iload_n 2, 1) := by decide +kernel
theorem dX10_book_18 : decode cX10_book 18 = .ok (.invokevirtual 106, 3) := by decide +kernel
theorem dX10_book_21 : decode cX10_book 21 = .ok (.ifCond .eq 10, 3) := by decide +kernel
theorem dX10_book_24 : decode cX10_book 24 = .ok (.aload_n 0, 1) := by decide +kernel
theorem dX10_book_25 : decode cX10_book 25 = .ok (.ldc 57, 2) := by decide +kernel
theorem dX10_book_27 : decode cX10_book 27 = .ok (.invokevirtual 58, 3) := by decide +kernel
theorem dX10_book_30 : decode cX10_book 30 = .ok (.ireturn, 1) := by decide +kernel
theorem dX10_book_31 : decode cX10_book 31 = .ok (.aload_n 0, 1) := by decide +kernel
theorem dX10_book_32 : decode cX10_book 32 = .ok (.getfield 42, 3) := by decide +kernel
theorem dX10_book_35 : decode cX10_book 35 = .ok (.aload_n 0, 1) := by decide +kernel
theorem dX10_book_36 : decode cX10_book 36 = .ok (.getfield 38, 3) := by decide +kernel
theorem dX10_book_39 : decode cX10_book 39 = .ok (.invokevirtual 161, 3) := by decide +kernel
theorem dX10_book_42 : decode cX10_book 42 = .ok (.iconst 0, 1) := by decide +kernel
theorem dX10_book_43 : decode cX10_book 43 = .ok (.istore 4, 2) := by decide +kernel
theorem dX10_book_45 : decode cX10_book 45 = .ok (.iload 4, 2) := by decide +kernel
theorem dX10_book_47 : decode cX10_book 47 = .ok (.aload_n 0, 1) := by decide +kernel
theorem dX10_book_48 : decode cX10_book 48 = .ok (.getfield 18, 3) := by decide +kernel
theorem dX10_book_51 : decode cX10_book 51 = .ok (.iload_n 1, 1) := by decide +kernel
theorem dX10_book_52 : decode cX10_book 52 = .ok (.aaload, 1) := by decide +kernel
theorem dX10_book_53 : decode cX10_book 53 = .ok (.getfield 191, 3) := by decide +kernel
theorem dX10_book_56 : decode cX10_book 56 = .ok (.if_icmp .ge 38, 3) := by decide +kernel
theorem dX10_book_59 : decode cX10_book 59 = .ok (.aload_n 0, 1) := by decide +kernel
theorem dX10_book_60 : decode cX10_book 60 = .ok (.getfield 18, 3) := by decide +kernel
theorem dX10_book_63 : decode cX10_book 63 = .ok (.iload_n 1, 1) := by decide +kernel
theorem dX10_book_64 : decode cX10_book 64 = .ok (.aaload, 1) := by decide +kernel
theorem dX10_book_65 : decode cX10_book 65 = .ok (.getfield 197, 3) := by decide +kernel
theorem dX10_book_68 : decode cX10_book 68 = .ok (.iload 4, 2) := by decide +kernel
theorem dX10_book_70 : decode cX10_book 70 = .ok (.aload_n 0, 1) := by decide +kernel
theorem dX10_book_71 : decode cX10_book 71 = .ok (.getfield 42, 3) := by decide +kernel
theorem dX10_book_74 : decode cX10_book 74 = .ok (.getfield 112, 3) := by decide +kernel
theorem dX10_book_77 : decode cX10_book 77 = .ok (.iload_n 2, 1) := by decide +kernel
theorem dX10_book_78 : decode cX10_book 78 = .ok (.iaload, 1) := by decide +kernel
theorem dX10_book_79 : decode cX10_book 79 = .ok (.i2l, 1) := by decide +kernel
theorem dX10_book_80 : decode cX10_book 80 = .ok (.lastore, 1) := by decide +kernel
theorem dX10_book_81 : decode cX10_book 81 = .ok (.aload_n 0, 1) := by decide +kernel
theorem dX10_book_82 : decode cX10_book 82 = .ok (.getfield 42, 3) := by decide +kernel
theorem dX10_book_85 : decode cX10_book 85 = .ok (.invokevirtual 165, 3) := by decide +kernel
theorem dX10_book_88 : decode cX10_book 88 = .ok (.iinc 4 1, 3) := by decide +kernel
theorem dX10_book_91 : decode cX10_book 91 = .ok (.goto (-46), 3) := by decide +kernel
theorem dX10_book_94 : decode cX10_book 94 = .ok (.aload_n 0, 1) := by decide +kernel
theorem dX10_book_95 : decode cX10_book 95 = .ok (.getfield 18, 3) := by decide +kernel
theorem dX10_book_98 : decode cX10_book 98 = .ok (.iload_n 1, 1) := by decide +kernel
theorem dX10_book_99 : decode cX10_book 99 = .ok (.aaload, 1) := by decide +kernel
theorem dX10_book_100 : decode cX10_book 100 = .ok (.getfield 191, 3) := by decide +kernel
theorem dX10_book_103 : decode cX10_book 103 = .ok (.ireturn, 1) := by decide +kernel
theorem dX10_read_0 : decode cX10_read 0 = .ok (.aload_n 0, 1) := by decide +kernel
theorem dX10_read_1 : decode cX10_read 1 = .ok (.iload_n 1, 1) := by decide +kernel
theorem dX10_read_2 : decode cX10_read 2 = .ok (.invokevirtual 194, 3) := by decide +kernel
theorem dX10_read_5 : decode cX10_read 5 = .ok (.istore_n 3, 1) := by decide +kernel
theorem dX10_read_6 : decode cX10_read 6 = .ok (.iload_n 3, 1) := by decide +kernel
theorem dX10_read_7 : decode cX10_read 7 = .ok (.ifCond .eq 9, 3) := by decide +kernel
theorem dX10_read_10 : decode cX10_read 10 = .ok (.aload_n 0, 1) := by decide +kernel
theorem dX10_read_11 : decode cX10_read 11 = .ok (.iload_n 3, 1) := by decide +kernel
theorem dX10_read_12 : decode cX10_read 12 = .ok (.invokevirtual 58, 3) := by decide +kernel
theorem dX10_read_15 : decode cX10_read 15 = .ok (.ireturn, 1) := by decide +kernel
theorem dX10_read_16 : decode cX10_read 16 = .ok (.aload_n 0, 1) := by decide +kernel
theorem dX10_read_17 : decode cX10_read 17 = .ok (.iload_n 2, 1) := by decide +kernel
theorem dX10_read_18 : decode cX10_read 18 = .ok (.invokevirtual 106, 3) := by decide +kernel
theorem dX10_read_21 : decode cX10_read 21 = .ok (.ifCond .eq 10, 3) := by decide +kernel
theorem dX10_read_24 : decode cX10_read 24 = .ok (.aload_n 0, 1) := by decide +kernel
theorem dX10_read_25 : decode cX10_read 25 = .ok (.ldc 57, 2) := by decide +kernel
theorem dX10_read_27 : decode cX10_read 27 = .ok (.invokevirtual 58, 3) := by decide +kernel
theorem dX10_read_30 : decode cX10_read 30 = .ok (.ireturn, 1) := by decide +kernel
theorem dX10_read_31 : decode cX10_read 31 = .ok (.iconst 0, 1) := by decide +kernel
theorem dX10_read_32 : decode cX10_read 32 = .ok (.istore 4, 2) := by decide +kernel
theorem dX10_read_34 : decode cX10_read 34 = .ok (.iconst 0, 1) := by decide +kernel
theorem dX10_read_35 : decode cX10_read 35 = .ok (.istore 5, 2) := by decide +kernel
theorem dX10_read_37 : decode cX10_read 37 = .ok (.iload 5, 2) := by decide +kernel
theorem dX10_read_39 : decode cX10_read 39 = .ok (.bipush 6, 2) := by decide +kernel
theorem dX10_read_41 : decode cX10_read 41 = .ok (.if_icmp .ge 74, 3) := by decide +kernel
theorem dX10_read_44 : decode cX10_read 44 = .ok (.iconst 1, 1) := by decide +kernel
theorem dX10_read_45 : decode cX10_read 45 = .ok (.istore 6, 2) := by decide +kernel
theorem dX10_read_47 : decode cX10_read 47 = .ok (.iload 6, 2) := by decide +kernel
theorem dX10_read_49 : decode cX10_read 49 = .ok (.iconst 4, 1) := by decide +kernel
theorem dX10_read_50 : decode cX10_read 50 = .ok (.if_icmp .gt 59, 3) := by decide +kernel
theorem dX10_read_53 : decode cX10_read 53 = .ok (.aload_n 0, 1) := by decide +kernel
theorem dX10_read_54 : decode cX10_read 54 = .ok (.getfield 42, 3) := by decide +kernel
theorem dX10_read_57 : decode cX10_read 57 = .ok (.aload_n 0, 1) := by decide +kernel
theorem dX10_read_58 : decode cX10_read 58 = .ok (.getfield 38, 3) := by decide +kernel
theorem dX10_read_61 : decode cX10_read 61 = .ok (.invokevirtual 161, 3) := by decide +kernel
theorem dX10_read_64 : decode cX10_read 64 = .ok (.aload_n 0, 1) := by decide +kernel
theorem dX10_read_65 : decode cX10_read 65 = .ok (.getfield 42, 3) := by decide +kernel
theorem dX10_read_68 : decode cX10_read 68 = .ok (.getfield 109, 3) := by decide +kernel
theorem dX10_read_71 : decode cX10_read 71 = .ok (.iload_n 2, 1) := by decide +kernel
theorem dX10_read_72 : decode cX10_read 72 = .ok (.iload 5, 2) := by decide +kernel
theorem dX10_read_74 : decode cX10_read 74 = .ok (.iastore, 1) := by decide +kernel
theorem dX10_read_75 : decode cX10_read 75 = .ok (.aload_n 0, 1) := by decide +kernel
theorem dX10_read_76 : decode cX10_read 76 = .ok (.getfield 42, 3) := by decide +kernel
theorem dX10_read_79 : decode cX10_read 79 = .ok (.getfield 115, 3) := by decide +kernel
theorem dX10_read_82 : decode cX10_read 82 = .ok (.iload_n 2, 1) := by decide +kernel
theorem dX10_read_83 : decode cX10_read 83 = .ok (.iload 6, 2) := by decide +kernel
theorem dX10_read_85 : decode cX10_read 85 = .ok (.iastore, 1) := by decide +kernel
theorem dX10_read_86 : decode cX10_read 86 = .ok (.aload_n 0, 1) := by decide +kernel
theorem dX10_read_87 : decode cX10_read 87 = .ok (.aload_n 0, 1) := by decide +kernel
theorem dX10_read_88 : decode cX10_read 88 = .ok (.getfield 18, 3) := by decide +kernel
theorem dX10_read_91 : decode cX10_read 91 = .ok (.iload_n 1, 1) := by decide +kernel
theorem dX10_read_92 : decode cX10_read 92 = .ok (.aaload, 1) := by decide +kernel
theorem dX10_read_93 : decode cX10_read 93 = .ok (.iload_n 2, 1) := by decide +kernel
theorem dX10_read_94 : decode cX10_read 94 = .ok (.invokevirtual 224, 3) := by decide +kernel
theorem dX10_read_97 : decode cX10_read 97 = .ok (.ifCond .eq 6, 3) := by decide +kernel
theorem dX10_read_100 : decode cX10_read 100 = .ok (.iinc 4 1, 3) := by decide +kernel
theorem dX10_read_103 : decode cX10_read 103 = .ok (.iinc 6 1, 3) := by decide +kernel
theorem dX10_read_106 : decode cX10_read 106 = .ok (.goto (-59), 3) := by decide +kernel
theorem dX10_read_109 : decode cX10_read 109 = .ok (.iinc 5 1, 3) := by decide +kernel
theorem dX10_read_112 : decode cX10_read 112 = .ok (.goto (-75), 3) := by decide +kernel
theorem dX10_read_115 : decode cX10_read 115 = .ok (.iload 4, 2) := by decide +kernel
theorem dX10_read_117 : decode cX10_read 117 = .ok (.ireturn, 1) := by decide +kernel
theorem dX10_image_0 : decode cX10_image 0 = .ok (.aload_n 0, 1) := by decide +kernel
theorem dX10_image_1 : decode cX10_image 1 = .ok (.getfield 45, 3) := by decide +kernel
theorem dX10_image_4 : decode cX10_image 4 = .ok (.aload_n 0, 1) := by decide +kernel
theorem dX10_image_5 : decode cX10_image 5 = .ok (.getfield 38, 3) := by decide +kernel
theorem dX10_image_8 : decode cX10_image 8 = .ok (.invokevirtual 161, 3) := by decide +kernel
theorem dX10_image_11 : decode cX10_image 11 = .ok (.aload_n 0, 1) := by decide +kernel
theorem dX10_image_12 : decode cX10_image 12 = .ok (.iconst 1, 1) := by decide +kernel
theorem dX10_image_13 : decode cX10_image 13 = .ok (.putfield 26, 3) := by decide +kernel
theorem dX10_image_16 : decode cX10_image 16 = .ok (.iconst 1, 1) := by decide +kernel
theorem dX10_image_17 : decode cX10_image 17 = .ok (.ireturn, 1) := by decide +kernel
theorem dX10_undo_0 : decode cX10_undo 0 = .ok (.aload_n 0, 1) := by decide +kernel
theorem dX10_undo_1 : decode cX10_undo 1 = .ok (.getfield 26, 3) := by decide +kernel
theorem dX10_undo_4 : decode cX10_undo 4 = .ok (.ifCond .ne 10, 3) := by decide +kernel
theorem dX10_undo_7 : decode cX10_undo 7 = .ok (.aload_n 0, 1) := by decide +kernel
theorem dX10_undo_8 : decode cX10_undo 8 = .ok (.ldc 168, 2) := by decide +kernel
theorem dX10_undo_10 : decode cX10_undo 10 = .ok (.invokevirtual 58, 3) := by decide +kernel
theorem dX10_undo_13 : decode cX10_undo 13 = .ok (.ireturn, 1) := by decide +kernel
theorem dX10_undo_14 : decode cX10_undo 14 = .ok (.aload_n 0, 1) := by decide +kernel
theorem dX10_undo_15 : decode cX10_undo 15 = .ok (.getfield 38, 3) := by decide +kernel
theorem dX10_undo_18 : decode cX10_undo 18 = .ok (.aload_n 0, 1) := by decide +kernel
theorem dX10_undo_19 : decode cX10_undo 19 = .ok (.getfield 45, 3) := by decide +kernel
theorem dX10_undo_22 : decode cX10_undo 22 = .ok (.invokevirtual 161, 3) := by decide +kernel
theorem dX10_undo_25 : decode cX10_undo 25 = .ok (.aload_n 0, 1) := by decide +kernel
theorem dX10_undo_26 : decode cX10_undo 26 = .ok (.getfield 38, 3) := by decide +kernel
theorem dX10_undo_29 : decode cX10_undo 29 = .ok (.getfield 98, 3) := by decide +kernel
theorem dX10_undo_32 : decode cX10_undo 32 = .ok (.ireturn, 1) := by decide +kernel
theorem dX10_tear_0 : decode cX10_tear 0 = .ok (.aload_n 0, 1) := by decide +kernel
theorem dX10_tear_1 : decode cX10_tear 1 = .ok (.getfield 26, 3) := by decide +kernel
theorem dX10_tear_4 : decode cX10_tear 4 = .ok (.ifCond .eq 7, 3) := by decide +kernel
theorem dX10_tear_7 : decode cX10_tear 7 = .ok (.iconst 1, 1) := by decide +kernel
theorem dX10_tear_8 : decode cX10_tear 8 = .ok (.goto 4, 3) := by decide +kernel
theorem dX10_tear_11 : decode cX10_tear 11 = .ok (.iconst 0, 1) := by decide +kernel
theorem dX10_tear_12 : decode cX10_tear 12 = .ok (.istore_n 1, 1) := by decide +kernel
theorem dX10_tear_13 : decode cX10_tear 13 = .ok (.aload_n 0, 1) := by decide +kernel
theorem dX10_tear_14 : decode cX10_tear 14 = .ok (.iconst 0, 1) := by decide +kernel
theorem dX10_tear_15 : decode cX10_tear 15 = .ok (.putfield 26, 3) := by decide +kernel
theorem dX10_tear_18 : decode cX10_tear 18 = .ok (.iload_n 1, 1) := by decide +kernel
theorem dX10_tear_19 : decode cX10_tear 19 = .ok (.ireturn, 1) := by decide +kernel
theorem dX10_count_0 : decode cX10_count 0 = .ok (.iload_n 1, 1) := by decide +kernel
theorem dX10_count_1 : decode cX10_count 1 = .ok (.tableswitch 77 0 3 #[31, 39, 47, 62], 31) := by decide +kernel
theorem dX10_count_32 : decode cX10_count 32 = .ok (.aload_n 0, 1) := by decide +kernel
theorem dX10_count_33 : decode cX10_count 33 = .ok (.getfield 38, 3) := by decide +kernel
theorem dX10_count_36 : decode cX10_count 36 = .ok (.getfield 98, 3) := by decide +kernel
theorem dX10_count_39 : decode cX10_count 39 = .ok (.ireturn, 1) := by decide +kernel
theorem dX10_count_40 : decode cX10_count 40 = .ok (.aload_n 0, 1) := by decide +kernel
theorem dX10_count_41 : decode cX10_count 41 = .ok (.getfield 10, 3) := by decide +kernel
theorem dX10_count_44 : decode cX10_count 44 = .ok (.getfield 173, 3) := by decide +kernel
theorem dX10_count_47 : decode cX10_count 47 = .ok (.ireturn, 1) := by decide +kernel
theorem dX10_count_48 : decode cX10_count 48 = .ok (.aload_n 0, 1) := by decide +kernel
theorem dX10_count_49 : decode cX10_count 49 = .ok (.getfield 38, 3) := by decide +kernel
theorem dX10_count_52 : decode cX10_count 52 = .ok (.aload_n 0, 1) := by decide +kernel
theorem dX10_count_53 : decode cX10_count 53 = .ok (.getfield 38, 3) := by decide +kernel
theorem dX10_count_56 : decode cX10_count 56 = .ok (.getfield 118, 3) := by decide +kernel
theorem dX10_count_59 : decode cX10_count 59 = .ok (.invokevirtual 228, 3) := by decide +kernel
theorem dX10_count_62 : decode cX10_count 62 = .ok (.ireturn, 1) := by decide +kernel
theorem dX10_count_63 : decode cX10_count 63 = .ok (.aload_n 0, 1) := by decide +kernel
theorem dX10_count_64 : decode cX10_count 64 = .ok (.getfield 38, 3) := by decide +kernel
theorem dX10_count_67 : decode cX10_count 67 = .ok (.aload_n 0, 1) := by decide +kernel
theorem dX10_count_68 : decode cX10_count 68 = .ok (.getfield 38, 3) := by decide +kernel
theorem dX10_count_71 : decode cX10_count 71 = .ok (.getfield 121, 3) := by decide +kernel
theorem dX10_count_74 : decode cX10_count 74 = .ok (.invokevirtual 228, 3) := by decide +kernel
theorem dX10_count_77 : decode cX10_count 77 = .ok (.ireturn, 1) := by decide +kernel
theorem dX10_count_78 : decode cX10_count 78 = .ok (.aload_n 0, 1) := by decide +kernel
theorem dX10_count_79 : decode cX10_count 79 = .ok (.ldc 57, 2) := by decide +kernel
theorem dX10_count_81 : decode cX10_count 81 = .ok (.invokevirtual 58, 3) := by decide +kernel
theorem dX10_count_84 : decode cX10_count 84 = .ok (.ireturn, 1) := by decide +kernel
theorem dX10_status_0 : decode cX10_status 0 = .ok (.iload_n 1, 1) := by decide +kernel
theorem dX10_status_1 : decode cX10_status 1 = .ok (.iconst (-1), 1) := by decide +kernel
theorem dX10_status_2 : decode cX10_status 2 = .ok (.bipush 6, 2) := by decide +kernel
theorem dX10_status_4 : decode cX10_status 4 = .ok (.invokestatic 49, 3) := by decide +kernel
theorem dX10_status_7 : decode cX10_status 7 = .ok (.ifCond .eq 10, 3) := by decide +kernel
theorem dX10_status_10 : decode cX10_status 10 = .ok (.aload_n 0, 1) := by decide +kernel
theorem dX10_status_11 : decode cX10_status 11 = .ok (.ldc 57, 2) := by decide +kernel
theorem dX10_status_13 : decode cX10_status 13 = .ok (.invokevirtual 58, 3) := by decide +kernel
theorem dX10_status_16 : decode cX10_status 16 = .ok (.ireturn, 1) := by decide +kernel
theorem dX10_status_17 : decode cX10_status 17 = .ok (.iload_n 1, 1) := by decide +kernel
theorem dX10_status_18 : decode cX10_status 18 = .ok (.ifCond .lt 10, 3) := by decide +kernel
theorem dX10_status_21 : decode cX10_status 21 = .ok (.aload_n 0, 1) := by decide +kernel
theorem dX10_status_22 : decode cX10_status 22 = .ok (.getfield 22, 3) := by decide +kernel
theorem dX10_status_25 : decode cX10_status 25 = .ok (.iload_n 1, 1) := by decide +kernel
theorem dX10_status_26 : decode cX10_status 26 = .ok (.iaload, 1) := by decide +kernel
theorem dX10_status_27 : decode cX10_status 27 = .ok (.ireturn, 1) := by decide +kernel
theorem dX10_status_28 : decode cX10_status 28 = .ok (.iconst 0, 1) := by decide +kernel
theorem dX10_status_29 : decode cX10_status 29 = .ok (.istore_n 2, 1) := by decide +kernel
theorem dX10_status_30 : decode cX10_status 30 = .ok (.iconst 0, 1) := by decide +kernel
theorem dX10_status_31 : decode cX10_status 31 = .ok (.istore_n 3, 1) := by decide +kernel
theorem dX10_status_32 : decode cX10_status 32 = .ok (.iload_n 3, 1) := by decide +kernel
theorem dX10_status_33 : decode cX10_status 33 = .ok (.bipush 7, 2) := by decide +kernel
theorem dX10_status_35 : decode cX10_status 35 = .ok (.if_icmp .ge 18, 3) := by decide +kernel
theorem dX10_status_38 : decode cX10_status 38 = .ok (.iload_n 2, 1) := by decide +kernel
theorem dX10_status_39 : decode cX10_status 39 = .ok (.aload_n 0, 1) := by decide +kernel
theorem dX10_status_40 : decode cX10_status 40 = .ok (.getfield 22, 3) := by decide +kernel
theorem dX10_status_43 : decode cX10_status 43 = .ok (.iload_n 3, 1) := by decide +kernel
theorem dX10_status_44 : decode cX10_status 44 = .ok (.iaload, 1) := by decide +kernel
theorem dX10_status_45 : decode cX10_status 45 = .ok (.iadd, 1) := by decide +kernel
theorem dX10_status_46 : decode cX10_status 46 = .ok (.istore_n 2, 1) := by decide +kernel
theorem dX10_status_47 : decode cX10_status 47 = .ok (.iinc 3 1, 3) := by decide +kernel
theorem dX10_status_50 : decode cX10_status 50 = .ok (.goto (-18), 3) := by decide +kernel
theorem dX10_status_53 : decode cX10_status 53 = .ok (.iload_n 2, 1) := by decide +kernel
theorem dX10_status_54 : decode cX10_status 54 = .ok (.ireturn, 1) := by decide +kernel
theorem dX10_tell_0 : decode cX10_tell 0 = .ok (.ldc 57, 2) := by decide +kernel
theorem dX10_tell_2 : decode cX10_tell 2 = .ok (.iload_n 1, 1) := by decide +kernel
theorem dX10_tell_3 : decode cX10_tell 3 = .ok (.isub, 1) := by decide +kernel
theorem dX10_tell_4 : decode cX10_tell 4 = .ok (.istore_n 2, 1) := by decide +kernel
theorem dX10_tell_5 : decode cX10_tell 5 = .ok (.iload_n 2, 1) := by decide +kernel
theorem dX10_tell_6 : decode cX10_tell 6 = .ok (.ifCond .lt 19, 3) := by decide +kernel
theorem dX10_tell_9 : decode cX10_tell 9 = .ok (.iload_n 2, 1) := by decide +kernel
theorem dX10_tell_10 : decode cX10_tell 10 = .ok (.bipush 7, 2) := by decide +kernel
theorem dX10_tell_12 : decode cX10_tell 12 = .ok (.if_icmp .ge 13, 3) := by decide +kernel
theorem dX10_tell_15 : decode cX10_tell 15 = .ok (.aload_n 0, 1) := by decide +kernel
theorem dX10_tell_16 : decode cX10_tell 16 = .ok (.getfield 22, 3) := by decide +kernel
theorem dX10_tell_19 : decode cX10_tell 19 = .ok (.iload_n 2, 1) := by decide +kernel
theorem dX10_tell_20 : decode cX10_tell 20 = .ok (.dup2, 1) := by decide +kernel
theorem dX10_tell_21 : decode cX10_tell 21 = .ok (.iaload, 1) := by decide +kernel
theorem dX10_tell_22 : decode cX10_tell 22 = .ok (.iconst 1, 1) := by decide +kernel
theorem dX10_tell_23 : decode cX10_tell 23 = .ok (.iadd, 1) := by decide +kernel
theorem dX10_tell_24 : decode cX10_tell 24 = .ok (.iastore, 1) := by decide +kernel
theorem dX10_tell_25 : decode cX10_tell 25 = .ok (.iload_n 1, 1) := by decide +kernel
theorem dX10_tell_26 : decode cX10_tell 26 = .ok (.ireturn, 1) := by decide +kernel
theorem dX10_bestPlayed_0 : decode cX10_bestPlayed 0 = .ok (.iconst 0, 1) := by decide +kernel
theorem dX10_bestPlayed_1 : decode cX10_bestPlayed 1 = .ok (.istore 5, 2) := by decide +kernel
theorem dX10_bestPlayed_3 : decode cX10_bestPlayed 3 = .ok (.iconst (-1), 1) := by decide +kernel
theorem dX10_bestPlayed_4 : decode cX10_bestPlayed 4 = .ok (.istore 6, 2) := by decide +kernel
theorem dX10_bestPlayed_6 : decode cX10_bestPlayed 6 = .ok (.iconst 0, 1) := by decide +kernel
theorem dX10_bestPlayed_7 : decode cX10_bestPlayed 7 = .ok (.istore 7, 2) := by decide +kernel
theorem dX10_bestPlayed_9 : decode cX10_bestPlayed 9 = .ok (.iload 7, 2) := by decide +kernel
theorem dX10_bestPlayed_11 : decode cX10_bestPlayed 11 = .ok (.iload_n 2, 1) := by decide +kernel
theorem dX10_bestPlayed_12 : decode cX10_bestPlayed 12 = .ok (.if_icmp .ge 63, 3) := by decide +kernel
theorem dX10_bestPlayed_15 : decode cX10_bestPlayed 15 = .ok (.aload_n 0, 1) := by decide +kernel
theorem dX10_bestPlayed_16 : decode cX10_bestPlayed 16 = .ok (.getfield 42, 3) := by decide +kernel
theorem dX10_bestPlayed_19 : decode cX10_bestPlayed 19 = .ok (.aload_n 0, 1) := by decide +kernel
theorem dX10_bestPlayed_20 : decode cX10_bestPlayed 20 = .ok (.getfield 38, 3) := by decide +kernel
theorem dX10_bestPlayed_23 : decode cX10_bestPlayed 23 = .ok (.invokevirtual 161, 3) := by decide +kernel
theorem dX10_bestPlayed_26 : decode cX10_bestPlayed 26 = .ok (.aload_n 1, 1) := by decide +kernel
theorem dX10_bestPlayed_27 : decode cX10_bestPlayed 27 = .ok (.iload_n 3, 1) := by decide +kernel
theorem dX10_bestPlayed_28 : decode cX10_bestPlayed 28 = .ok (.iload 7, 2) := by decide +kernel
theorem dX10_bestPlayed_30 : decode cX10_bestPlayed 30 = .ok (.iastore, 1) := by decide +kernel
theorem dX10_bestPlayed_31 : decode cX10_bestPlayed 31 = .ok (.aload_n 0, 1) := by decide +kernel
theorem dX10_bestPlayed_32 : decode cX10_bestPlayed 32 = .ok (.getfield 42, 3) := by decide +kernel
theorem dX10_bestPlayed_35 : decode cX10_bestPlayed 35 = .ok (.iload 4, 2) := by decide +kernel
theorem dX10_bestPlayed_37 : decode cX10_bestPlayed 37 = .ok (.invokevirtual 154, 3) := by decide +kernel
theorem dX10_bestPlayed_40 : decode cX10_bestPlayed 40 = .ok (.aload_n 0, 1) := by decide +kernel
theorem dX10_bestPlayed_41 : decode cX10_bestPlayed 41 = .ok (.getfield 42, 3) := by decide +kernel
theorem dX10_bestPlayed_44 : decode cX10_bestPlayed 44 = .ok (.getfield 118, 3) := by decide +kernel
theorem dX10_bestPlayed_47 : decode cX10_bestPlayed 47 = .ok (.iload_n 3, 1) := by decide +kernel
theorem dX10_bestPlayed_48 : decode cX10_bestPlayed 48 = .ok (.iaload, 1) := by decide +kernel
theorem dX10_bestPlayed_49 : decode cX10_bestPlayed 49 = .ok (.iload 6, 2) := by decide +kernel
theorem dX10_bestPlayed_51 : decode cX10_bestPlayed 51 = .ok (.if_icmp .le 18, 3) := by decide +kernel
theorem dX10_bestPlayed_54 : decode cX10_bestPlayed 54 = .ok (.aload_n 0, 1) := by decide +kernel
theorem dX10_bestPlayed_55 : decode cX10_bestPlayed 55 = .ok (.getfield 42, 3) := by decide +kernel
theorem dX10_bestPlayed_58 : decode cX10_bestPlayed 58 = .ok (.getfield 118, 3) := by decide +kernel
theorem dX10_bestPlayed_61 : decode cX10_bestPlayed 61 = .ok (.iload_n 3, 1) := by decide +kernel
theorem dX10_bestPlayed_62 : decode cX10_bestPlayed 62 = .ok (.iaload, 1) := by decide +kernel
theorem dX10_bestPlayed_63 : decode cX10_bestPlayed 63 = .ok (.istore 6, 2) := by decide +kernel
theorem dX10_bestPlayed_65 : decode cX10_bestPlayed 65 = .ok (.iload 7, 2) := by decide +kernel
theorem dX10_bestPlayed_67 : decode cX10_bestPlayed 67 = .ok (.istore 5, 2) := by decide +kernel
theorem dX10_bestPlayed_69 : decode cX10_bestPlayed 69 = .ok (.iinc 7 1, 3) := by decide +kernel
theorem dX10_bestPlayed_72 : decode cX10_bestPlayed 72 = .ok (.goto (-63), 3) := by decide +kernel
theorem dX10_bestPlayed_75 : decode cX10_bestPlayed 75 = .ok (.iload 5, 2) := by decide +kernel
theorem dX10_bestPlayed_77 : decode cX10_bestPlayed 77 = .ok (.ireturn, 1) := by decide +kernel
theorem dX10_sheetFinding_0 : decode cX10_sheetFinding 0 = .ok (.iload_n 1, 1) := by decide +kernel
theorem dX10_sheetFinding_1 : decode cX10_sheetFinding 1 = .ok (.invokestatic 183, 3) := by decide +kernel
theorem dX10_sheetFinding_4 : decode cX10_sheetFinding 4 = .ok (.ifCond .eq 6, 3) := by decide +kernel
theorem dX10_sheetFinding_7 : decode cX10_sheetFinding 7 = .ok (.ldc 57, 2) := by decide +kernel
theorem dX10_sheetFinding_9 : decode cX10_sheetFinding 9 = .ok (.ireturn, 1) := by decide +kernel
theorem dX10_sheetFinding_10 : decode cX10_sheetFinding 10 = .ok (.aload_n 0, 1) := by decide +kernel
theorem dX10_sheetFinding_11 : decode cX10_sheetFinding 11 = .ok (.getfield 18, 3) := by decide +kernel
theorem dX10_sheetFinding_14 : decode cX10_sheetFinding 14 = .ok (.iload_n 1, 1) := by decide +kernel
theorem dX10_sheetFinding_15 : decode cX10_sheetFinding 15 = .ok (.aaload, 1) := by decide +kernel
theorem dX10_sheetFinding_16 : decode cX10_sheetFinding 16 = .ok (.invokevirtual 205, 3) := by decide +kernel
theorem dX10_sheetFinding_19 : decode cX10_sheetFinding 19 = .ok (.ifCond .eq 8, 3) := by decide +kernel
theorem dX10_sheetFinding_22 : decode cX10_sheetFinding 22 = .ok (.ldc 209, 2) := by decide +kernel
theorem dX10_sheetFinding_24 : decode cX10_sheetFinding 24 = .ok (.goto 4, 3) := by decide +kernel
theorem dX10_sheetFinding_27 : decode cX10_sheetFinding 27 = .ok (.iconst 0, 1) := by decide +kernel
theorem dX10_sheetFinding_28 : decode cX10_sheetFinding 28 = .ok (.ireturn, 1) := by decide +kernel
theorem dX10_goesAsTold_0 : decode cX10_goesAsTold 0 = .ok (.iconst 0, 1) := by decide +kernel
theorem dX10_goesAsTold_1 : decode cX10_goesAsTold 1 = .ok (.istore_n 3, 1) := by decide +kernel
theorem dX10_goesAsTold_2 : decode cX10_goesAsTold 2 = .ok (.iload_n 3, 1) := by decide +kernel
theorem dX10_goesAsTold_3 : decode cX10_goesAsTold 3 = .ok (.aload_n 1, 1) := by decide +kernel
theorem dX10_goesAsTold_4 : decode cX10_goesAsTold 4 = .ok (.getfield 191, 3) := by decide +kernel
theorem dX10_goesAsTold_7 : decode cX10_goesAsTold 7 = .ok (.if_icmp .ge 38, 3) := by decide +kernel
theorem dX10_goesAsTold_10 : decode cX10_goesAsTold 10 = .ok (.aload_n 1, 1) := by decide +kernel
theorem dX10_goesAsTold_11 : decode cX10_goesAsTold 11 = .ok (.getfield 197, 3) := by decide +kernel
theorem dX10_goesAsTold_14 : decode cX10_goesAsTold 14 = .ok (.iload_n 3, 1) := by decide +kernel
theorem dX10_goesAsTold_15 : decode cX10_goesAsTold 15 = .ok (.laload, 1) := by decide +kernel
theorem dX10_goesAsTold_16 : decode cX10_goesAsTold 16 = .ok (.aload_n 0, 1) := by decide +kernel
theorem dX10_goesAsTold_17 : decode cX10_goesAsTold 17 = .ok (.getfield 42, 3) := by decide +kernel
theorem dX10_goesAsTold_20 : decode cX10_goesAsTold 20 = .ok (.getfield 112, 3) := by decide +kernel
theorem dX10_goesAsTold_23 : decode cX10_goesAsTold 23 = .ok (.iload_n 2, 1) := by decide +kernel
theorem dX10_goesAsTold_24 : decode cX10_goesAsTold 24 = .ok (.iaload, 1) := by decide +kernel
theorem dX10_goesAsTold_25 : decode cX10_goesAsTold 25 = .ok (.i2l, 1) := by decide +kernel
theorem dX10_goesAsTold_26 : decode cX10_goesAsTold 26 = .ok (.lcmp, 1) := by decide +kernel
theorem dX10_goesAsTold_27 : decode cX10_goesAsTold 27 = .ok (.ifCond .eq 5, 3) := by decide +kernel
theorem dX10_goesAsTold_30 : decode cX10_goesAsTold 30 = .ok (.iconst 0, 1) := by decide +kernel
theorem dX10_goesAsTold_31 : decode cX10_goesAsTold 31 = .ok (.ireturn, 1) := by decide +kernel
theorem dX10_goesAsTold_32 : decode cX10_goesAsTold 32 = .ok (.aload_n 0, 1) := by decide +kernel
theorem dX10_goesAsTold_33 : decode cX10_goesAsTold 33 = .ok (.getfield 42, 3) := by decide +kernel
theorem dX10_goesAsTold_36 : decode cX10_goesAsTold 36 = .ok (.invokevirtual 165, 3) := by decide +kernel
theorem dX10_goesAsTold_39 : decode cX10_goesAsTold 39 = .ok (.iinc 3 1, 3) := by decide +kernel
theorem dX10_goesAsTold_42 : decode cX10_goesAsTold 42 = .ok (.goto (-40), 3) := by decide +kernel
theorem dX10_goesAsTold_45 : decode cX10_goesAsTold 45 = .ok (.iconst 1, 1) := by decide +kernel
theorem dX10_goesAsTold_46 : decode cX10_goesAsTold 46 = .ok (.ireturn, 1) := by decide +kernel
theorem dX10_isNobody_0 : decode cX10_isNobody 0 = .ok (.iload_n 1, 1) := by decide +kernel
theorem dX10_isNobody_1 : decode cX10_isNobody 1 = .ok (.ifCond .lt 14, 3) := by decide +kernel
theorem dX10_isNobody_4 : decode cX10_isNobody 4 = .ok (.iload_n 1, 1) := by decide +kernel
theorem dX10_isNobody_5 : decode cX10_isNobody 5 = .ok (.aload_n 0, 1) := by decide +kernel
theorem dX10_isNobody_6 : decode cX10_isNobody 6 = .ok (.getfield 38, 3) := by decide +kernel
theorem dX10_isNobody_9 : decode cX10_isNobody 9 = .ok (.getfield 98, 3) := by decide +kernel
theorem dX10_isNobody_12 : decode cX10_isNobody 12 = .ok (.if_icmp .lt 7, 3) := by decide +kernel
theorem dX10_isNobody_15 : decode cX10_isNobody 15 = .ok (.iconst 1, 1) := by decide +kernel
theorem dX10_isNobody_16 : decode cX10_isNobody 16 = .ok (.goto 4, 3) := by decide +kernel
theorem dX10_isNobody_19 : decode cX10_isNobody 19 = .ok (.iconst 0, 1) := by decide +kernel
theorem dX10_isNobody_20 : decode cX10_isNobody 20 = .ok (.ireturn, 1) := by decide +kernel
theorem dX10_isOutside_0 : decode cX10_isOutside 0 = .ok (.iload_n 0, 1) := by decide +kernel
theorem dX10_isOutside_1 : decode cX10_isOutside 1 = .ok (.iload_n 1, 1) := by decide +kernel
theorem dX10_isOutside_2 : decode cX10_isOutside 2 = .ok (.if_icmp .lt 8, 3) := by decide +kernel
theorem dX10_isOutside_5 : decode cX10_isOutside 5 = .ok (.iload_n 0, 1) := by decide +kernel
theorem dX10_isOutside_6 : decode cX10_isOutside 6 = .ok (.iload_n 2, 1) := by decide +kernel
theorem dX10_isOutside_7 : decode cX10_isOutside 7 = .ok (.if_icmp .le 7, 3) := by decide +kernel
theorem dX10_isOutside_10 : decode cX10_isOutside 10 = .ok (.iconst 1, 1) := by decide +kernel
theorem dX10_isOutside_11 : decode cX10_isOutside 11 = .ok (.goto 4, 3) := by decide +kernel
theorem dX10_isOutside_14 : decode cX10_isOutside 14 = .ok (.iconst 0, 1) := by decide +kernel
theorem dX10_isOutside_15 : decode cX10_isOutside 15 = .ok (.ireturn, 1) := by decide +kernel
theorem dX10_isNoSpot_0 : decode cX10_isNoSpot 0 = .ok (.iload_n 0, 1) := by decide +kernel
theorem dX10_isNoSpot_1 : decode cX10_isNoSpot 1 = .ok (.iconst 0, 1) := by decide +kernel
theorem dX10_isNoSpot_2 : decode cX10_isNoSpot 2 = .ok (.bipush 11, 2) := by decide +kernel
theorem dX10_isNoSpot_4 : decode cX10_isNoSpot 4 = .ok (.invokestatic 49, 3) := by decide +kernel
theorem dX10_isNoSpot_7 : decode cX10_isNoSpot 7 = .ok (.ireturn, 1) := by decide +kernel
theorem dX10_isNoKind_0 : decode cX10_isNoKind 0 = .ok (.iload_n 0, 1) := by decide +kernel
theorem dX10_isNoKind_1 : decode cX10_isNoKind 1 = .ok (.iconst 0, 1) := by decide +kernel
theorem dX10_isNoKind_2 : decode cX10_isNoKind 2 = .ok (.iconst 5, 1) := by decide +kernel
theorem dX10_isNoKind_3 : decode cX10_isNoKind 3 = .ok (.invokestatic 49, 3) := by decide +kernel
theorem dX10_isNoKind_6 : decode cX10_isNoKind 6 = .ok (.ireturn, 1) := by decide +kernel
theorem dX10_isNoSheet_0 : decode cX10_isNoSheet 0 = .ok (.iload_n 0, 1) := by decide +kernel
theorem dX10_isNoSheet_1 : decode cX10_isNoSheet 1 = .ok (.iconst 0, 1) := by decide +kernel
theorem dX10_isNoSheet_2 : decode cX10_isNoSheet 2 = .ok (.iconst 3, 1) := by decide +kernel
theorem dX10_isNoSheet_3 : decode cX10_isNoSheet 3 = .ok (.invokestatic 49, 3) := by decide +kernel
theorem dX10_isNoSheet_6 : decode cX10_isNoSheet 6 = .ok (.ireturn, 1) := by decide +kernel
theorem dX10_isOfKind_0 : decode cX10_isOfKind 0 = .ok (.iload_n 0, 1) := by decide +kernel
theorem dX10_isOfKind_1 : decode cX10_isOfKind 1 = .ok (.istore_n 2, 1) := by decide +kernel
theorem dX10_isOfKind_2 : decode cX10_isOfKind 2 = .ok (.iconst 0, 1) := by decide +kernel
theorem dX10_isOfKind_3 : decode cX10_isOfKind 3 = .ok (.istore_n 3, 1) := by decide +kernel
theorem dX10_isOfKind_4 : decode cX10_isOfKind 4 = .ok (.iload_n 3, 1) := by decide +kernel
theorem dX10_isOfKind_5 : decode cX10_isOfKind 5 = .ok (.bipush 6, 2) := by decide +kernel
theorem dX10_isOfKind_7 : decode cX10_isOfKind 7 = .ok (.if_icmp .ge 32, 3) := by decide +kernel
theorem dX10_isOfKind_10 : decode cX10_isOfKind 10 = .ok (.iload_n 2, 1) := by decide +kernel
theorem dX10_isOfKind_11 : decode cX10_isOfKind 11 = .ok (.ifCond .lt 28, 3) := by decide +kernel
theorem dX10_isOfKind_14 : decode cX10_isOfKind 14 = .ok (.iload_n 2, 1) := by decide +kernel
theorem dX10_isOfKind_15 : decode cX10_isOfKind 15 = .ok (.bipush 6, 2) := by decide +kernel
theorem dX10_isOfKind_17 : decode cX10_isOfKind 17 = .ok (.if_icmp .ge 22, 3) := by decide +kernel
theorem dX10_isOfKind_20 : decode cX10_isOfKind 20 = .ok (.iload_n 2, 1) := by decide +kernel
theorem dX10_isOfKind_21 : decode cX10_isOfKind 21 = .ok (.iload_n 1, 1) := by decide +kernel
theorem dX10_isOfKind_22 : decode cX10_isOfKind 22 = .ok (.if_icmp .ne 5, 3) := by decide +kernel
theorem dX10_isOfKind_25 : decode cX10_isOfKind 25 = .ok (.iconst 1, 1) := by decide +kernel
theorem dX10_isOfKind_26 : decode cX10_isOfKind 26 = .ok (.ireturn, 1) := by decide +kernel
theorem dX10_isOfKind_27 : decode cX10_isOfKind 27 = .ok (.getstatic 232, 3) := by decide +kernel
theorem dX10_isOfKind_30 : decode cX10_isOfKind 30 = .ok (.iload_n 2, 1) := by decide +kernel
theorem dX10_isOfKind_31 : decode cX10_isOfKind 31 = .ok (.iaload, 1) := by decide +kernel
theorem dX10_isOfKind_32 : decode cX10_isOfKind 32 = .ok (.istore_n 2, 1) := by decide +kernel
theorem dX10_isOfKind_33 : decode cX10_isOfKind 33 = .ok (.iinc 3 1, 3) := by decide +kernel
theorem dX10_isOfKind_36 : decode cX10_isOfKind 36 = .ok (.goto (-32), 3) := by decide +kernel
theorem dX10_isOfKind_39 : decode cX10_isOfKind 39 = .ok (.iconst 0, 1) := by decide +kernel
theorem dX10_isOfKind_40 : decode cX10_isOfKind 40 = .ok (.ireturn, 1) := by decide +kernel
theorem dX10_exchange_0 : decode cX10_exchange 0 = .ok (.aload_n 0, 1) := by decide +kernel
theorem dX10_exchange_1 : decode cX10_exchange 1 = .ok (.iload_n 1, 1) := by decide +kernel
theorem dX10_exchange_2 : decode cX10_exchange 2 = .ok (.iaload, 1) := by decide +kernel
theorem dX10_exchange_3 : decode cX10_exchange 3 = .ok (.istore_n 3, 1) := by decide +kernel
theorem dX10_exchange_4 : decode cX10_exchange 4 = .ok (.aload_n 0, 1) := by decide +kernel
theorem dX10_exchange_5 : decode cX10_exchange 5 = .ok (.iload_n 1, 1) := by decide +kernel
theorem dX10_exchange_6 : decode cX10_exchange 6 = .ok (.iload_n 2, 1) := by decide +kernel
theorem dX10_exchange_7 : decode cX10_exchange 7 = .ok (.iastore, 1) := by decide +kernel
theorem dX10_exchange_8 : decode cX10_exchange 8 = .ok (.iload_n 3, 1) := by decide +kernel
theorem dX10_exchange_9 : decode cX10_exchange 9 = .ok (.ireturn, 1) := by decide +kernel
end
section
theorem dX11_init_0 : decode cX11_init 0 = .ok (.aload_n 0, 1) := by decide +kernel
theorem dX11_init_1 : decode cX11_init 1 = .ok (.invokespecial 1, 3) := by decide +kernel
theorem dX11_init_4 : decode cX11_init 4 = .ok (.aload_n 0, 1) := by decide +kernel
theorem dX11_init_5 : decode cX11_init 5 = .ok (.bipush 51, 2) := by decide +kernel
theorem dX11_init_7 : decode cX11_init 7 = .ok (.newarray .int, 2) := by decide +kernel
theorem dX11_init_9 : decode cX11_init 9 = .ok (.putfield 7, 3) := by decide +kernel
theorem dX11_init_12 : decode cX11_init 12 = .ok (.aload_n 0, 1) := by decide +kernel
theorem dX11_init_13 : decode cX11_init 13 = .ok (.bipush 51, 2) := by decide +kernel
theorem dX11_init_15 : decode cX11_init 15 = .ok (.newarray .int, 2) := by decide +kernel
theorem dX11_init_17 : decode cX11_init 17 = .ok (.putfield 13, 3) := by decide +kernel
theorem dX11_init_20 : decode cX11_init 20 = .ok (.aload_n 0, 1) := by decide +kernel
theorem dX11_init_21 : decode cX11_init 21 = .ok (.bipush 51, 2) := by decide +kernel
theorem dX11_init_23 : decode cX11_init 23 = .ok (.newarray .int, 2) := by decide +kernel
theorem dX11_init_25 : decode cX11_init 25 = .ok (.putfield 16, 3) := by decide +kernel
theorem dX11_init_28 : decode cX11_init 28 = .ok (.aload_n 0, 1) := by decide +kernel
theorem dX11_init_29 : decode cX11_init 29 = .ok (.bipush 51, 2) := by decide +kernel
theorem dX11_init_31 : decode cX11_init 31 = .ok (.newarray .int, 2) := by decide +kernel
theorem dX11_init_33 : decode cX11_init 33 = .ok (.putfield 19, 3) := by decide +kernel
theorem dX11_init_36 : decode cX11_init 36 = .ok (.aload_n 0, 1) := by decide +kernel
theorem dX11_init_37 : decode cX11_init 37 = .ok (.bipush 7, 2) := by decide +kernel
theorem dX11_init_39 : decode cX11_init 39 = .ok (.newarray .int, 2) := by decide +kernel
theorem dX11_init_41 : decode cX11_init 41 = .ok (.putfield 22, 3) := by decide +kernel
theorem dX11_init_44 : decode cX11_init 44 = .ok (.aload_n 0, 1) := by decide +kernel
theorem dX11_init_45 : decode cX11_init 45 = .ok (.bipush 8, 2) := by decide +kernel
theorem dX11_init_47 : decode cX11_init 47 = .ok (.newarray .int, 2) := by decide +kernel
theorem dX11_init_49 : decode cX11_init 49 = .ok (.putfield 25, 3) := by decide +kernel
theorem dX11_init_52 : decode cX11_init 52 = .ok (.aload_n 0, 1) := by decide +kernel
theorem dX11_init_53 : decode cX11_init 53 = .ok (.bipush 120, 2) := by decide +kernel
theorem dX11_init_55 : decode cX11_init 55 = .ok (.newarray .int, 2) := by decide +kernel
theorem dX11_init_57 : decode cX11_init 57 = .ok (.putfield 28, 3) := by decide +kernel
theorem dX11_init_60 : decode cX11_init 60 = .ok (.aload_n 0, 1) := by decide +kernel
theorem dX11_init_61 : decode cX11_init 61 = .ok (.iconst 4, 1) := by decide +kernel
theorem dX11_init_62 : decode cX11_init 62 = .ok (.newarray .int, 2) := by decide +kernel
theorem dX11_init_64 : decode cX11_init 64 = .ok (.putfield 31, 3) := by decide +kernel
theorem dX11_init_67 : decode cX11_init 67 = .ok (.aload_n 0, 1) := by decide +kernel
theorem dX11_init_68 : decode cX11_init 68 = .ok (.iconst 4, 1) := by decide +kernel
theorem dX11_init_69 : decode cX11_init 69 = .ok (.newarray .int, 2) := by decide +kernel
theorem dX11_init_71 : decode cX11_init 71 = .ok (.putfield 34, 3) := by decide +kernel
theorem dX11_init_74 : decode cX11_init 74 = .ok (.aload_n 0, 1) := by decide +kernel
theorem dX11_init_75 : decode cX11_init 75 = .ok (.sipush 160, 3) := by decide +kernel
theorem dX11_init_78 : decode cX11_init 78 = .ok (.newarray .long, 2) := by decide +kernel
theorem dX11_init_80 : decode cX11_init 80 = .ok (.putfield 37, 3) := by decide +kernel
theorem dX11_init_83 : decode cX11_init 83 = .ok (.aload_n 0, 1) := by decide +kernel
theorem dX11_init_84 : decode cX11_init 84 = .ok (.bipush 40, 2) := by decide +kernel
theorem dX11_init_86 : decode cX11_init 86 = .ok (.newarray .long, 2) := by decide +kernel
theorem dX11_init_88 : decode cX11_init 88 = .ok (.putfield 41, 3) := by decide +kernel
theorem dX11_init_91 : decode cX11_init 91 = .ok (.iconst 0, 1) := by decide +kernel
theorem dX11_init_92 : decode cX11_init 92 = .ok (.istore_n 1, 1) := by decide +kernel
theorem dX11_init_93 : decode cX11_init 93 = .ok (.iload_n 1, 1) := by decide +kernel
theorem dX11_init_94 : decode cX11_init 94 = .ok (.bipush 6, 2) := by decide +kernel
theorem dX11_init_96 : decode cX11_init 96 = .ok (.if_icmp .ge 23, 3) := by decide +kernel
theorem dX11_init_99 : decode cX11_init 99 = .ok (.aload_n 0, 1) := by decide +kernel
theorem dX11_init_100 : decode cX11_init 100 = .ok (.getfield 7, 3) := by decide +kernel
theorem dX11_init_103 : decode cX11_init 103 = .ok (.iconst 2, 1) := by decide +kernel
theorem dX11_init_104 : decode cX11_init 104 = .ok (.iload_n 1, 1) := by decide +kernel
theorem dX11_init_105 : decode cX11_init 105 = .ok (.iadd, 1) := by decide +kernel
theorem dX11_init_106 : decode cX11_init 106 = .ok (.iconst 5, 1) := by decide +kernel
theorem dX11_init_107 : decode cX11_init 107 = .ok (.iload_n 1, 1) := by decide +kernel
theorem dX11_init_108 : decode cX11_init 108 = .ok (.imul, 1) := by decide +kernel
theorem dX11_init_109 : decode cX11_init 109 = .ok (.bipush 12, 2) := by decide +kernel
theorem dX11_init_111 : decode cX11_init 111 = .ok (.irem, 1) := by decide +kernel
theorem dX11_init_112 : decode cX11_init 112 = .ok (.iastore, 1) := by decide +kernel
theorem dX11_init_113 : decode cX11_init 113 = .ok (.iinc 1 1, 3) := by decide +kernel
theorem dX11_init_116 : decode cX11_init 116 = .ok (.goto (-23), 3) := by decide +kernel
theorem dX11_init_119 : decode cX11_init 119 = .ok (.iconst 0, 1) := by decide +kernel
theorem dX11_init_120 : decode cX11_init 120 = .ok (.istore_n 1, 1) := by decide +kernel
theorem dX11_init_121 : decode cX11_init 121 = .ok (.iload_n 1, 1) := by decide +kernel
theorem dX11_init_122 : decode cX11_init 122 = .ok (.iconst 3, 1) := by decide +kernel
theorem dX11_init_123 : decode cX11_init 123 = .ok (.if_icmp .ge 25, 3) := by decide +kernel
theorem dX11_init_126 : decode cX11_init 126 = .ok (.aload_n 0, 1) := by decide +kernel
theorem dX11_init_127 : decode cX11_init 127 = .ok (.getfield 7, 3) := by decide +kernel
theorem dX11_init_130 : decode cX11_init 130 = .ok (.bipush 8, 2) := by decide +kernel
theorem dX11_init_132 : decode cX11_init 132 = .ok (.iload_n 1, 1) := by decide +kernel
theorem dX11_init_133 : decode cX11_init 133 = .ok (.iadd, 1) := by decide +kernel
theorem dX11_init_134 : decode cX11_init 134 = .ok (.bipush 10, 2) := by decide +kernel
theorem dX11_init_136 : decode cX11_init 136 = .ok (.iload_n 1, 1) := by decide +kernel
theorem dX11_init_137 : decode cX11_init 137 = .ok (.imul, 1) := by decide +kernel
theorem dX11_init_138 : decode cX11_init 138 = .ok (.bipush 10, 2) := by decide +kernel
theorem dX11_init_140 : decode cX11_init 140 = .ok (.iadd, 1) := by decide +kernel
theorem dX11_init_141 : decode cX11_init 141 = .ok (.iastore, 1) := by decide +kernel
theorem dX11_init_142 : decode cX11_init 142 = .ok (.iinc 1 1, 3) := by decide +kernel
theorem dX11_init_145 : decode cX11_init 145 = .ok (.goto (-24), 3) := by decide +kernel
theorem dX11_init_148 : decode cX11_init 148 = .ok (.return_, 1) := by decide +kernel
theorem dX11_in_0 : decode cX11_in 0 = .ok (.lload_n 0, 1) := by decide +kernel
theorem dX11_in_1 : decode cX11_in 1 = .ok (.lload_n 2, 1) := by decide +kernel
theorem dX11_in_2 : decode cX11_in 2 = .ok (.lcmp, 1) := by decide +kernel
theorem dX11_in_3 : decode cX11_in 3 = .ok (.ifCond .lt 14, 3) := by decide +kernel
theorem dX11_in_6 : decode cX11_in 6 = .ok (.lload_n 0, 1) := by decide +kernel
theorem dX11_in_7 : decode cX11_in 7 = .ok (.lload 4, 2) := by decide +kernel
theorem dX11_in_9 : decode cX11_in 9 = .ok (.lcmp, 1) := by decide +kernel
theorem dX11_in_10 : decode cX11_in 10 = .ok (.ifCond .gt 7, 3) := by decide +kernel
theorem dX11_in_13 : decode cX11_in 13 = .ok (.iconst 1, 1) := by decide +kernel
theorem dX11_in_14 : decode cX11_in 14 = .ok (.goto 4, 3) := by decide +kernel
theorem dX11_in_17 : decode cX11_in 17 = .ok (.iconst 0, 1) := by decide +kernel
theorem dX11_in_18 : decode cX11_in 18 = .ok (.ireturn, 1) := by decide +kernel
theorem dX11_finds_0 : decode cX11_finds 0 = .ok (.aload_n 0, 1) := by decide +kernel
theorem dX11_finds_1 : decode cX11_finds 1 = .ok (.getfield 22, 3) := by decide +kernel
theorem dX11_finds_4 : decode cX11_finds 4 = .ok (.ldc 44, 2) := by decide +kernel
theorem dX11_finds_6 : decode cX11_finds 6 = .ok (.iload_n 1, 1) := by decide +kernel
theorem dX11_finds_7 : decode cX11_finds 7 = .ok (.isub, 1) := by decide +kernel
theorem dX11_finds_8 : decode cX11_finds 8 = .ok (.dup2, 1) := by decide +kernel
theorem dX11_finds_9 : decode cX11_finds 9 = .ok (.iaload, 1) := by decide +kernel
theorem dX11_finds_10 : decode cX11_finds 10 = .ok (.iconst 1, 1) := by decide +kernel
theorem dX11_finds_11 : decode cX11_finds 11 = .ok (.iadd, 1) := by decide +kernel
theorem dX11_finds_12 : decode cX11_finds 12 = .ok (.iastore, 1) := by decide +kernel
theorem dX11_finds_13 : decode cX11_finds 13 = .ok (.iload_n 1, 1) := by decide +kernel
theorem dX11_finds_14 : decode cX11_finds 14 = .ok (.ireturn, 1) := by decide +kernel
theorem dX11_saves_0 : decode cX11_saves 0 = .ok (.iconst 0, 1) := by decide +kernel
theorem dX11_saves_1 : decode cX11_saves 1 = .ok (.istore_n 1, 1) := by decide +kernel
theorem dX11_saves_2 : decode cX11_saves 2 = .ok (.iload_n 1, 1) := by decide +kernel
theorem dX11_saves_3 : decode cX11_saves 3 = .ok (.bipush 51, 2) := by decide +kernel
theorem dX11_saves_5 : decode cX11_saves 5 = .ok (.if_icmp .ge 21, 3) := by decide +kernel
theorem dX11_saves_8 : decode cX11_saves 8 = .ok (.aload_n 0, 1) := by decide +kernel
theorem dX11_saves_9 : decode cX11_saves 9 = .ok (.getfield 16, 3) := by decide +kernel
theorem dX11_saves_12 : decode cX11_saves 12 = .ok (.iload_n 1, 1) := by decide +kernel
theorem dX11_saves_13 : decode cX11_saves 13 = .ok (.aload_n 0, 1) := by decide +kernel
theorem dX11_saves_14 : decode cX11_saves 14 = .ok (.getfield 7, 3) := by decide +kernel
theorem dX11_saves_17 : decode cX11_saves 17 = .ok (.iload_n 1, 1) := by decide +kernel
theorem dX11_saves_18 : decode cX11_saves 18 = .ok (.iaload, 1) := by decide +kernel
theorem dX11_saves_19 : decode cX11_saves 19 = .ok (.iastore, 1) := by decide +kernel
theorem dX11_saves_20 : decode cX11_saves 20 = .ok (.iinc 1 1, 3) := by decide +kernel
theorem dX11_saves_23 : decode cX11_saves 23 = .ok (.goto (-21), 3) := by decide +kernel
theorem dX11_saves_26 : decode cX11_saves 26 = .ok (.return_, 1) := by decide +kernel
theorem dX11_putsBack_0 : decode cX11_putsBack 0 = .ok (.iconst 0, 1) := by decide +kernel
theorem dX11_putsBack_1 : decode cX11_putsBack 1 = .ok (.istore_n 1, 1) := by decide +kernel
theorem dX11_putsBack_2 : decode cX11_putsBack 2 = .ok (.iload_n 1, 1) := by decide +kernel
theorem dX11_putsBack_3 : decode cX11_putsBack 3 = .ok (.bipush 51, 2) := by decide +kernel
theorem dX11_putsBack_5 : decode cX11_putsBack 5 = .ok (.if_icmp .ge 21, 3) := by decide +kernel
theorem dX11_putsBack_8 : decode cX11_putsBack 8 = .ok (.aload_n 0, 1) := by decide +kernel
theorem dX11_putsBack_9 : decode cX11_putsBack 9 = .ok (.getfield 7, 3) := by decide +kernel
theorem dX11_putsBack_12 : decode cX11_putsBack 12 = .ok (.iload_n 1, 1) := by decide +kernel
theorem dX11_putsBack_13 : decode cX11_putsBack 13 = .ok (.aload_n 0, 1) := by decide +kernel
theorem dX11_putsBack_14 : decode cX11_putsBack 14 = .ok (.getfield 16, 3) := by decide +kernel
theorem dX11_putsBack_17 : decode cX11_putsBack 17 = .ok (.iload_n 1, 1) := by decide +kernel
theorem dX11_putsBack_18 : decode cX11_putsBack 18 = .ok (.iaload, 1) := by decide +kernel
theorem dX11_putsBack_19 : decode cX11_putsBack 19 = .ok (.iastore, 1) := by decide +kernel
theorem dX11_putsBack_20 : decode cX11_putsBack 20 = .ok (.iinc 1 1, 3) := by decide +kernel
theorem dX11_putsBack_23 : decode cX11_putsBack 23 = .ok (.goto (-21), 3) := by decide +kernel
theorem dX11_putsBack_26 : decode cX11_putsBack 26 = .ok (.return_, 1) := by decide +kernel
theorem dX11_laysAside_0 : decode cX11_laysAside 0 = .ok (.iconst 0, 1) := by decide +kernel
theorem dX11_laysAside_1 : decode cX11_laysAside 1 = .ok (.istore_n 1, 1) := by decide +kernel
theorem dX11_laysAside_2 : decode cX11_laysAside 2 = .ok (.iload_n 1, 1) := by decide +kernel
theorem dX11_laysAside_3 : decode cX11_laysAside 3 = .ok (.bipush 51, 2) := by decide +kernel
theorem dX11_laysAside_5 : decode cX11_laysAside 5 = .ok (.if_icmp .ge 21, 3) := by decide +kernel
theorem dX11_laysAside_8 : decode cX11_laysAside 8 = .ok (.aload_n 0, 1) := by decide +kernel
theorem dX11_laysAside_9 : decode cX11_laysAside 9 = .ok (.getfield 19, 3) := by decide +kernel
theorem dX11_laysAside_12 : decode cX11_laysAside 12 = .ok (.iload_n 1, 1) := by decide +kernel
theorem dX11_laysAside_13 : decode cX11_laysAside 13 = .ok (.aload_n 0, 1) := by decide +kernel
theorem dX11_laysAside_14 : decode cX11_laysAside 14 = .ok (.getfield 7, 3) := by decide +kernel
theorem dX11_laysAside_17 : decode cX11_laysAside 17 = .ok (.iload_n 1, 1) := by decide +kernel
theorem dX11_laysAside_18 : decode cX11_laysAside 18 = .ok (.iaload, 1) := by decide +kernel
theorem dX11_laysAside_19 : decode cX11_laysAside 19 = .ok (.iastore, 1) := by decide +kernel
theorem dX11_laysAside_20 : decode cX11_laysAside 20 = .ok (.iinc 1 1, 3) := by decide +kernel
theorem dX11_laysAside_23 : decode cX11_laysAside 23 = .ok (.goto (-21), 3) := by decide +kernel
theorem dX11_laysAside_26 : decode cX11_laysAside 26 = .ok (.return_, 1) := by decide +kernel
theorem dX11_takesBack_0 : decode cX11_takesBack 0 = .ok (.iconst 0, 1) := by decide +kernel
theorem dX11_takesBack_1 : decode cX11_takesBack 1 = .ok (.istore_n 2, 1) := by decide +kernel
theorem dX11_takesBack_2 : decode cX11_takesBack 2 = .ok (.iload_n 2, 1) := by decide +kernel
theorem dX11_takesBack_3 : decode cX11_takesBack 3 = .ok (.bipush 51, 2) := by decide +kernel
theorem dX11_takesBack_5 : decode cX11_takesBack 5 = .ok (.if_icmp .ge 21, 3) := by decide +kernel
theorem dX11_takesBack_8 : decode cX11_takesBack 8 = .ok (.aload_n 0, 1) := by decide +kernel
theorem dX11_takesBack_9 : decode cX11_takesBack 9 = .ok (.getfield 7, 3) := by decide +kernel
theorem dX11_takesBack_12 : decode cX11_takesBack 12 = .ok (.iload_n 2, 1) := by decide +kernel
theorem dX11_takesBack_13 : decode cX11_takesBack 13 = .ok (.aload_n 0, 1) := by decide +kernel
theorem dX11_takesBack_14 : decode cX11_takesBack 14 = .ok (.getfield 19, 3) := by decide +kernel
theorem dX11_takesBack_17 : decode cX11_takesBack 17 = .ok (.iload_n 2, 1) := by decide +kernel
theorem dX11_takesBack_18 : decode cX11_takesBack 18 = .ok (.iaload, 1) := by decide +kernel
theorem dX11_takesBack_19 : decode cX11_takesBack 19 = .ok (.iastore, 1) := by decide +kernel
theorem dX11_takesBack_20 : decode cX11_takesBack 20 = .ok (.iinc 2 1, 3) := by decide +kernel
theorem dX11_takesBack_23 : decode cX11_takesBack 23 = .ok (.goto (-21), 3) := by decide +kernel
theorem dX11_takesBack_26 : decode cX11_takesBack 26 = .ok (.iload_n 1, 1) := by decide +kernel
theorem dX11_takesBack_27 : decode cX11_takesBack 27 = .ok (.ireturn, 1) := by decide +kernel
theorem dX11_becomes_0 : decode cX11_becomes 0 = .ok (.aload_n 0, 1) := by decide +kernel
theorem dX11_becomes_1 : decode cX11_becomes 1 = .ok (.getfield 7, 3) := by decide +kernel
theorem dX11_becomes_4 : decode cX11_becomes 4 = .ok (.iload_n 1, 1) := by decide +kernel
theorem dX11_becomes_5 : decode cX11_becomes 5 = .ok (.iaload, 1) := by decide +kernel
theorem dX11_becomes_6 : decode cX11_becomes 6 = .ok (.istore_n 3, 1) := by decide +kernel
theorem dX11_becomes_7 : decode cX11_becomes 7 = .ok (.aload_n 0, 1) := by decide +kernel
theorem dX11_becomes_8 : decode cX11_becomes 8 = .ok (.getfield 7, 3) := by decide +kernel
theorem dX11_becomes_11 : decode cX11_becomes 11 = .ok (.iload_n 1, 1) := by decide +kernel
theorem dX11_becomes_12 : decode cX11_becomes 12 = .ok (.iload_n 2, 1) := by decide +kernel
theorem dX11_becomes_13 : decode cX11_becomes 13 = .ok (.iastore, 1) := by decide +kernel
theorem dX11_becomes_14 : decode cX11_becomes 14 = .ok (.iload_n 3, 1) := by decide +kernel
theorem dX11_becomes_15 : decode cX11_becomes 15 = .ok (.ireturn, 1) := by decide +kernel
theorem dX11_spot_0 : decode cX11_spot 0 = .ok (.bipush 11, 2) := by decide +kernel
theorem dX11_spot_2 : decode cX11_spot 2 = .ok (.iconst 5, 1) := by decide +kernel
theorem dX11_spot_3 : decode cX11_spot 3 = .ok (.iload_n 0, 1) := by decide +kernel
theorem dX11_spot_4 : decode cX11_spot 4 = .ok (.imul, 1) := by decide +kernel
theorem dX11_spot_5 : decode cX11_spot 5 = .ok (.iadd, 1) := by decide +kernel
theorem dX11_spot_6 : decode cX11_spot 6 = .ok (.iload_n 1, 1) := by decide +kernel
theorem dX11_spot_7 : decode cX11_spot 7 = .ok (.iadd, 1) := by decide +kernel
theorem dX11_spot_8 : decode cX11_spot 8 = .ok (.ireturn, 1) := by decide +kernel
theorem dX11_its_0 : decode cX11_its 0 = .ok (.aload_n 0, 1) := by decide +kernel
theorem dX11_its_1 : decode cX11_its 1 = .ok (.getfield 7, 3) := by decide +kernel
theorem dX11_its_4 : decode cX11_its 4 = .ok (.iload_n 1, 1) := by decide +kernel
theorem dX11_its_5 : decode cX11_its 5 = .ok (.iload_n 2, 1) := by decide +kernel
theorem dX11_its_6 : decode cX11_its 6 = .ok (.invokestatic 45, 3) := by decide +kernel
theorem dX11_its_9 : decode cX11_its 9 = .ok (.iaload, 1) := by decide +kernel
theorem dX11_its_10 : decode cX11_its 10 = .ok (.ireturn, 1) := by decide +kernel
theorem dX11_isPerson_0 : decode cX11_isPerson 0 = .ok (.iload_n 1, 1) := by decide +kernel
theorem dX11_isPerson_1 : decode cX11_isPerson 1 = .ok (.i2l, 1) := by decide +kernel
theorem dX11_isPerson_2 : decode cX11_isPerson 2 = .ok (.lconst 0, 1) := by decide +kernel
theorem dX11_isPerson_3 : decode cX11_isPerson 3 = .ok (.aload_n 0, 1) := by decide +kernel
theorem dX11_isPerson_4 : decode cX11_isPerson 4 = .ok (.getfield 7, 3) := by decide +kernel
theorem dX11_isPerson_7 : decode cX11_isPerson 7 = .ok (.iconst 1, 1) := by decide +kernel
theorem dX11_isPerson_8 : decode cX11_isPerson 8 = .ok (.iaload, 1) := by decide +kernel
theorem dX11_isPerson_9 : decode cX11_isPerson 9 = .ok (.iconst 1, 1) := by decide +kernel
theorem dX11_isPerson_10 : decode cX11_isPerson 10 = .ok (.isub, 1) := by decide +kernel
theorem dX11_isPerson_11 : decode cX11_isPerson 11 = .ok (.i2l, 1) := by decide +kernel
theorem dX11_isPerson_12 : decode cX11_isPerson 12 = .ok (.invokestatic 49, 3) := by decide +kernel
theorem dX11_isPerson_15 : decode cX11_isPerson 15 = .ok (.ireturn, 1) := by decide +kernel
theorem dX11_isSpot_0 : decode cX11_isSpot 0 = .ok (.iload_n 0, 1) := by decide +kernel
theorem dX11_isSpot_1 : decode cX11_isSpot 1 = .ok (.i2l, 1) := by decide +kernel
theorem dX11_isSpot_2 : decode cX11_isSpot 2 = .ok (.lconst 0, 1) := by decide +kernel
theorem dX11_isSpot_3 : decode cX11_isSpot 3 = .ok (.ldc2_w 53, 3) := by decide +kernel
theorem dX11_isSpot_6 : decode cX11_isSpot 6 = .ok (.invokestatic 49, 3) := by decide +kernel
theorem dX11_isSpot_9 : decode cX11_isSpot 9 = .ok (.ireturn, 1) := by decide +kernel
theorem dX11_isQuarter_0 : decode cX11_isQuarter 0 = .ok (.iload_n 0, 1) := by decide +kernel
theorem dX11_isQuarter_1 : decode cX11_isQuarter 1 = .ok (.i2l, 1) := by decide +kernel
theorem dX11_isQuarter_2 : decode cX11_isQuarter 2 = .ok (.lconst 0, 1) := by decide +kernel
theorem dX11_isQuarter_3 : decode cX11_isQuarter 3 = .ok (.ldc2_w 55, 3) := by decide +kernel
theorem dX11_isQuarter_6 : decode cX11_isQuarter 6 = .ok (.invokestatic 49, 3) := by decide +kernel
theorem dX11_isQuarter_9 : decode cX11_isQuarter 9 = .ok (.ireturn, 1) := by decide +kernel
theorem dX11_isBell_0 : decode cX11_isBell 0 = .ok (.iload_n 0, 1) := by decide +kernel
theorem dX11_isBell_1 : decode cX11_isBell 1 = .ok (.i2l, 1) := by decide +kernel
theorem dX11_isBell_2 : decode cX11_isBell 2 = .ok (.lconst 0, 1) := by decide +kernel
theorem dX11_isBell_3 : decode cX11_isBell 3 = .ok (.ldc2_w 57, 3) := by decide +kernel
theorem dX11_isBell_6 : decode cX11_isBell 6 = .ok (.invokestatic 49, 3) := by decide +kernel
theorem dX11_isBell_9 : decode cX11_isBell 9 = .ok (.ireturn, 1) := by decide +kernel
theorem dX11_isKind_0 : decode cX11_isKind 0 = .ok (.iload_n 0, 1) := by decide +kernel
theorem dX11_isKind_1 : decode cX11_isKind 1 = .ok (.i2l, 1) := by decide +kernel
theorem dX11_isKind_2 : decode cX11_isKind 2 = .ok (.lconst 0, 1) := by decide +kernel
theorem dX11_isKind_3 : decode cX11_isKind 3 = .ok (.ldc2_w 55, 3) := by decide +kernel
theorem dX11_isKind_6 : decode cX11_isKind 6 = .ok (.invokestatic 49, 3) := by decide +kernel
theorem dX11_isKind_9 : decode cX11_isKind 9 = .ok (.ireturn, 1) := by decide +kernel
theorem dX11_together_0 : decode cX11_together 0 = .ok (.iconst 0, 1) := by decide +kernel
theorem dX11_together_1 : decode cX11_together 1 = .ok (.istore_n 2, 1) := by decide +kernel
theorem dX11_together_2 : decode cX11_together 2 = .ok (.iconst 0, 1) := by decide +kernel
theorem dX11_together_3 : decode cX11_together 3 = .ok (.istore_n 3, 1) := by decide +kernel
theorem dX11_together_4 : decode cX11_together 4 = .ok (.iload_n 3, 1) := by decide +kernel
theorem dX11_together_5 : decode cX11_together 5 = .ok (.aload_n 0, 1) := by decide +kernel
theorem dX11_together_6 : decode cX11_together 6 = .ok (.getfield 7, 3) := by decide +kernel
theorem dX11_together_9 : decode cX11_together 9 = .ok (.iconst 1, 1) := by decide +kernel
theorem dX11_together_10 : decode cX11_together 10 = .ok (.iaload, 1) := by decide +kernel
theorem dX11_together_11 : decode cX11_together 11 = .ok (.if_icmp .ge 18, 3) := by decide +kernel
theorem dX11_together_14 : decode cX11_together 14 = .ok (.iload_n 2, 1) := by decide +kernel
theorem dX11_together_15 : decode cX11_together 15 = .ok (.aload_n 0, 1) := by decide +kernel
theorem dX11_together_16 : decode cX11_together 16 = .ok (.iload_n 3, 1) := by decide +kernel
theorem dX11_together_17 : decode cX11_together 17 = .ok (.iload_n 1, 1) := by decide +kernel
theorem dX11_together_18 : decode cX11_together 18 = .ok (.invokevirtual 59, 3) := by decide +kernel
theorem dX11_together_21 : decode cX11_together 21 = .ok (.iadd, 1) := by decide +kernel
theorem dX11_together_22 : decode cX11_together 22 = .ok (.istore_n 2, 1) := by decide +kernel
theorem dX11_together_23 : decode cX11_together 23 = .ok (.iinc 3 1, 3) := by decide +kernel
theorem dX11_together_26 : decode cX11_together 26 = .ok (.goto (-22), 3) := by decide +kernel
theorem dX11_together_29 : decode cX11_together 29 = .ok (.iload_n 2, 1) := by decide +kernel
theorem dX11_together_30 : decode cX11_together 30 = .ok (.ireturn, 1) := by decide +kernel
theorem dX11_harmonyNow_0 : decode cX11_harmonyNow 0 = .ok (.aload_n 0, 1) := by decide +kernel
theorem dX11_harmonyNow_1 : decode cX11_harmonyNow 1 = .ok (.iconst 3, 1) := by decide +kernel
theorem dX11_harmonyNow_2 : decode cX11_harmonyNow 2 = .ok (.invokevirtual 62, 3) := by decide +kernel
theorem dX11_harmonyNow_5 : decode cX11_harmonyNow 5 = .ok (.aload_n 0, 1) := by decide +kernel
theorem dX11_harmonyNow_6 : decode cX11_harmonyNow 6 = .ok (.iconst 4, 1) := by decide +kernel
theorem dX11_harmonyNow_7 : decode cX11_harmonyNow 7 = .ok (.invokevirtual 62, 3) := by decide +kernel
theorem dX11_harmonyNow_10 : decode cX11_harmonyNow 10 = .ok (.isub, 1) := by decide +kernel
theorem dX11_harmonyNow_11 : decode cX11_harmonyNow 11 = .ok (.ireturn, 1) := by decide +kernel
theorem dX11_score_0 : decode cX11_score 0 = .ok (.iload_n 1, 1) := by decide +kernel
theorem dX11_score_1 : decode cX11_score 1 = .ok (.invokestatic 66, 3) := by decide +kernel
theorem dX11_score_4 : decode cX11_score 4 = .ok (.ifCond .eq 21, 3) := by decide +kernel
theorem dX11_score_7 : decode cX11_score 7 = .ok (.iload_n 2, 1) := by decide +kernel
theorem dX11_score_8 : decode cX11_score 8 = .ok (.invokestatic 70, 3) := by decide +kernel
theorem dX11_score_11 : decode cX11_score 11 = .ok (.ifCond .eq 14, 3) := by decide +kernel
theorem dX11_score_14 : decode cX11_score 14 = .ok (.aload_n 0, 1) := by decide +kernel
theorem dX11_score_15 : decode cX11_score 15 = .ok (.iconst 2, 1) := by decide +kernel
theorem dX11_score_16 : decode cX11_score 16 = .ok (.iload_n 1, 1) := by decide +kernel
theorem dX11_score_17 : decode cX11_score 17 = .ok (.iadd, 1) := by decide +kernel
theorem dX11_score_18 : decode cX11_score 18 = .ok (.iload_n 2, 1) := by decide +kernel
theorem dX11_score_19 : decode cX11_score 19 = .ok (.invokevirtual 73, 3) := by decide +kernel
theorem dX11_score_22 : decode cX11_score 22 = .ok (.goto 9, 3) := by decide +kernel
theorem dX11_score_25 : decode cX11_score 25 = .ok (.aload_n 0, 1) := by decide +kernel
theorem dX11_score_26 : decode cX11_score 26 = .ok (.ldc 44, 2) := by decide +kernel
theorem dX11_score_28 : decode cX11_score 28 = .ok (.invokevirtual 76, 3) := by decide +kernel
theorem dX11_score_31 : decode cX11_score 31 = .ok (.ireturn, 1) := by decide +kernel
theorem dX11_bell_0 : decode cX11_bell 0 = .ok (.iload_n 1, 1) := by decide +kernel
theorem dX11_bell_1 : decode cX11_bell 1 = .ok (.invokestatic 79, 3) := by decide +kernel
theorem dX11_bell_4 : decode cX11_bell 4 = .ok (.ifCond .eq 27, 3) := by decide +kernel
theorem dX11_bell_7 : decode cX11_bell 7 = .ok (.iload_n 2, 1) := by decide +kernel
theorem dX11_bell_8 : decode cX11_bell 8 = .ok (.i2l, 1) := by decide +kernel
theorem dX11_bell_9 : decode cX11_bell 9 = .ok (.lconst 0, 1) := by decide +kernel
theorem dX11_bell_10 : decode cX11_bell 10 = .ok (.ldc2_w 82, 3) := by decide +kernel
theorem dX11_bell_13 : decode cX11_bell 13 = .ok (.invokestatic 49, 3) := by decide +kernel
theorem dX11_bell_16 : decode cX11_bell 16 = .ok (.ifCond .eq 15, 3) := by decide +kernel
theorem dX11_bell_19 : decode cX11_bell 19 = .ok (.aload_n 0, 1) := by decide +kernel
theorem dX11_bell_20 : decode cX11_bell 20 = .ok (.bipush 8, 2) := by decide +kernel
theorem dX11_bell_22 : decode cX11_bell 22 = .ok (.iload_n 1, 1) := by decide +kernel
theorem dX11_bell_23 : decode cX11_bell 23 = .ok (.iadd, 1) := by decide +kernel
theorem dX11_bell_24 : decode cX11_bell 24 = .ok (.iload_n 2, 1) := by decide +kernel
theorem dX11_bell_25 : decode cX11_bell 25 = .ok (.invokevirtual 73, 3) := by decide +kernel
theorem dX11_bell_28 : decode cX11_bell 28 = .ok (.goto 9, 3) := by decide +kernel
theorem dX11_bell_31 : decode cX11_bell 31 = .ok (.aload_n 0, 1) := by decide +kernel
theorem dX11_bell_32 : decode cX11_bell 32 = .ok (.ldc 44, 2) := by decide +kernel
theorem dX11_bell_34 : decode cX11_bell 34 = .ok (.invokevirtual 76, 3) := by decide +kernel
theorem dX11_bell_37 : decode cX11_bell 37 = .ok (.ireturn, 1) := by decide +kernel
theorem dX11_quarter_0 : decode cX11_quarter 0 = .ok (.aload_n 0, 1) := by decide +kernel
theorem dX11_quarter_1 : decode cX11_quarter 1 = .ok (.getfield 7, 3) := by decide +kernel
theorem dX11_quarter_4 : decode cX11_quarter 4 = .ok (.iconst 0, 1) := by decide +kernel
theorem dX11_quarter_5 : decode cX11_quarter 5 = .ok (.iaload, 1) := by decide +kernel
theorem dX11_quarter_6 : decode cX11_quarter 6 = .ok (.bipush 8, 2) := by decide +kernel
theorem dX11_quarter_8 : decode cX11_quarter 8 = .ok (.idiv, 1) := by decide +kernel
theorem dX11_quarter_9 : decode cX11_quarter 9 = .ok (.bipush 6, 2) := by decide +kernel
theorem dX11_quarter_11 : decode cX11_quarter 11 = .ok (.irem, 1) := by decide +kernel
theorem dX11_quarter_12 : decode cX11_quarter 12 = .ok (.ireturn, 1) := by decide +kernel
theorem dX11_ringing_0 : decode cX11_ringing 0 = .ok (.iconst (-1), 1) := by decide +kernel
theorem dX11_ringing_1 : decode cX11_ringing 1 = .ok (.istore_n 1, 1) := by decide +kernel
theorem dX11_ringing_2 : decode cX11_ringing 2 = .ok (.iconst 0, 1) := by decide +kernel
theorem dX11_ringing_3 : decode cX11_ringing 3 = .ok (.istore_n 2, 1) := by decide +kernel
theorem dX11_ringing_4 : decode cX11_ringing 4 = .ok (.iload_n 2, 1) := by decide +kernel
theorem dX11_ringing_5 : decode cX11_ringing 5 = .ok (.iconst 3, 1) := by decide +kernel
theorem dX11_ringing_6 : decode cX11_ringing 6 = .ok (.if_icmp .ge 36, 3) := by decide +kernel
theorem dX11_ringing_9 : decode cX11_ringing 9 = .ok (.aload_n 0, 1) := by decide +kernel
theorem dX11_ringing_10 : decode cX11_ringing 10 = .ok (.getfield 7, 3) := by decide +kernel
theorem dX11_ringing_13 : decode cX11_ringing 13 = .ok (.iconst 0, 1) := by decide +kernel
theorem dX11_ringing_14 : decode cX11_ringing 14 = .ok (.iaload, 1) := by decide +kernel
theorem dX11_ringing_15 : decode cX11_ringing 15 = .ok (.bipush 48, 2) := by decide +kernel
theorem dX11_ringing_17 : decode cX11_ringing 17 = .ok (.irem, 1) := by decide +kernel
theorem dX11_ringing_18 : decode cX11_ringing 18 = .ok (.aload_n 0, 1) := by decide +kernel
theorem dX11_ringing_19 : decode cX11_ringing 19 = .ok (.getfield 7, 3) := by decide +kernel
theorem dX11_ringing_22 : decode cX11_ringing 22 = .ok (.bipush 8, 2) := by decide +kernel
theorem dX11_ringing_24 : decode cX11_ringing 24 = .ok (.iload_n 2, 1) := by decide +kernel
theorem dX11_ringing_25 : decode cX11_ringing 25 = .ok (.iadd, 1) := by decide +kernel
theorem dX11_ringing_26 : decode cX11_ringing 26 = .ok (.iaload, 1) := by decide +kernel
theorem dX11_ringing_27 : decode cX11_ringing 27 = .ok (.if_icmp .ne 7, 3) := by decide +kernel
theorem dX11_ringing_30 : decode cX11_ringing 30 = .ok (.iload_n 2, 1) := by decide +kernel
theorem dX11_ringing_31 : decode cX11_ringing 31 = .ok (.goto 4, 3) := by decide +kernel
theorem dX11_ringing_34 : decode cX11_ringing 34 = .ok (.iload_n 1, 1) := by decide +kernel
theorem dX11_ringing_35 : decode cX11_ringing 35 = .ok (.istore_n 1, 1) := by decide +kernel
theorem dX11_ringing_36 : decode cX11_ringing 36 = .ok (.iinc 2 1, 3) := by decide +kernel
theorem dX11_ringing_39 : decode cX11_ringing 39 = .ok (.goto (-35), 3) := by decide +kernel
theorem dX11_ringing_42 : decode cX11_ringing 42 = .ok (.iload_n 1, 1) := by decide +kernel
theorem dX11_ringing_43 : decode cX11_ringing 43 = .ok (.ireturn, 1) := by decide +kernel
theorem dX11_dueOnes_0 : decode cX11_dueOnes 0 = .ok (.iconst 0, 1) := by decide +kernel
theorem dX11_dueOnes_1 : decode cX11_dueOnes 1 = .ok (.istore_n 1, 1) := by decide +kernel
theorem dX11_dueOnes_2 : decode cX11_dueOnes 2 = .ok (.iconst 0, 1) := by decide +kernel
theorem dX11_dueOnes_3 : decode cX11_dueOnes 3 = .ok (.istore_n 2, 1) := by decide +kernel
theorem dX11_dueOnes_4 : decode cX11_dueOnes 4 = .ok (.iload_n 2, 1) := by decide +kernel
theorem dX11_dueOnes_5 : decode cX11_dueOnes 5 = .ok (.aload_n 0, 1) := by decide +kernel
theorem dX11_dueOnes_6 : decode cX11_dueOnes 6 = .ok (.getfield 7, 3) := by decide +kernel
theorem dX11_dueOnes_9 : decode cX11_dueOnes 9 = .ok (.iconst 1, 1) := by decide +kernel
theorem dX11_dueOnes_10 : decode cX11_dueOnes 10 = .ok (.iaload, 1) := by decide +kernel
theorem dX11_dueOnes_11 : decode cX11_dueOnes 11 = .ok (.if_icmp .ge 33, 3) := by decide +kernel
theorem dX11_dueOnes_14 : decode cX11_dueOnes 14 = .ok (.iload_n 1, 1) := by decide +kernel
theorem dX11_dueOnes_15 : decode cX11_dueOnes 15 = .ok (.aload_n 0, 1) := by decide +kernel
theorem dX11_dueOnes_16 : decode cX11_dueOnes 16 = .ok (.iload_n 2, 1) := by decide +kernel
theorem dX11_dueOnes_17 : decode cX11_dueOnes 17 = .ok (.iconst 1, 1) := by decide +kernel
theorem dX11_dueOnes_18 : decode cX11_dueOnes 18 = .ok (.invokevirtual 59, 3) := by decide +kernel
theorem dX11_dueOnes_21 : decode cX11_dueOnes 21 = .ok (.aload_n 0, 1) := by decide +kernel
theorem dX11_dueOnes_22 : decode cX11_dueOnes 22 = .ok (.iload_n 2, 1) := by decide +kernel
theorem dX11_dueOnes_23 : decode cX11_dueOnes 23 = .ok (.invokevirtual 84, 3) := by decide +kernel
theorem dX11_dueOnes_26 : decode cX11_dueOnes 26 = .ok (.if_icmp .ne 9, 3) := by decide +kernel
theorem dX11_dueOnes_29 : decode cX11_dueOnes 29 = .ok (.iconst 1, 1) := by decide +kernel
theorem dX11_dueOnes_30 : decode cX11_dueOnes 30 = .ok (.iload_n 2, 1) := by decide +kernel
theorem dX11_dueOnes_31 : decode cX11_dueOnes 31 = .ok (.ishl, 1) := by decide +kernel
theorem dX11_dueOnes_32 : decode cX11_dueOnes 32 = .ok (.goto 4, 3) := by decide +kernel
theorem dX11_dueOnes_35 : decode cX11_dueOnes 35 = .ok (.iconst 0, 1) := by decide +kernel
theorem dX11_dueOnes_36 : decode cX11_dueOnes 36 = .ok (.ior, 1) := by decide +kernel
theorem dX11_dueOnes_37 : decode cX11_dueOnes 37 = .ok (.istore_n 1, 1) := by decide +kernel
theorem dX11_dueOnes_38 : decode cX11_dueOnes 38 = .ok (.iinc 2 1, 3) := by decide +kernel
theorem dX11_dueOnes_41 : decode cX11_dueOnes 41 = .ok (.goto (-37), 3) := by decide +kernel
theorem dX11_dueOnes_44 : decode cX11_dueOnes 44 = .ok (.iload_n 1, 1) := by decide +kernel
theorem dX11_dueOnes_45 : decode cX11_dueOnes 45 = .ok (.ireturn, 1) := by decide +kernel
theorem dX11_now_0 : decode cX11_now 0 = .ok (.iload_n 1, 1) := by decide +kernel
theorem dX11_now_1 : decode cX11_now 1 = .ok (.tableswitch 81 0 5 #[39, 46, 51, 63, 68, 73], 39) := by decide +kernel
theorem dX11_now_40 : decode cX11_now 40 = .ok (.aload_n 0, 1) := by decide +kernel
theorem dX11_now_41 : decode cX11_now 41 = .ok (.getfield 7, 3) := by decide +kernel
theorem dX11_now_44 : decode cX11_now 44 = .ok (.iconst 0, 1) := by decide +kernel
theorem dX11_now_45 : decode cX11_now 45 = .ok (.iaload, 1) := by decide +kernel
theorem dX11_now_46 : decode cX11_now 46 = .ok (.ireturn, 1) := by decide +kernel
theorem dX11_now_47 : decode cX11_now 47 = .ok (.aload_n 0, 1) := by decide +kernel
theorem dX11_now_48 : decode cX11_now 48 = .ok (.invokevirtual 87, 3) := by decide +kernel
theorem dX11_now_51 : decode cX11_now 51 = .ok (.ireturn, 1) := by decide +kernel
theorem dX11_now_52 : decode cX11_now 52 = .ok (.aload_n 0, 1) := by decide +kernel
theorem dX11_now_53 : decode cX11_now 53 = .ok (.getfield 7, 3) := by decide +kernel
theorem dX11_now_56 : decode cX11_now 56 = .ok (.iconst 2, 1) := by decide +kernel
theorem dX11_now_57 : decode cX11_now 57 = .ok (.aload_n 0, 1) := by decide +kernel
theorem dX11_now_58 : decode cX11_now 58 = .ok (.invokevirtual 87, 3) := by decide +kernel
theorem dX11_now_61 : decode cX11_now 61 = .ok (.iadd, 1) := by decide +kernel
theorem dX11_now_62 : decode cX11_now 62 = .ok (.iaload, 1) := by decide +kernel
theorem dX11_now_63 : decode cX11_now 63 = .ok (.ireturn, 1) := by decide +kernel
theorem dX11_now_64 : decode cX11_now 64 = .ok (.aload_n 0, 1) := by decide +kernel
theorem dX11_now_65 : decode cX11_now 65 = .ok (.invokevirtual 91, 3) := by decide +kernel
theorem dX11_now_68 : decode cX11_now 68 = .ok (.ireturn, 1) := by decide +kernel
theorem dX11_now_69 : decode cX11_now 69 = .ok (.aload_n 0, 1) := by decide +kernel
theorem dX11_now_70 : decode cX11_now 70 = .ok (.invokevirtual 94, 3) := by decide +kernel
theorem dX11_now_73 : decode cX11_now 73 = .ok (.ireturn, 1) := by decide +kernel
theorem dX11_now_74 : decode cX11_now 74 = .ok (.ldc 97, 2) := by decide +kernel
theorem dX11_now_76 : decode cX11_now 76 = .ok (.aload_n 0, 1) := by decide +kernel
theorem dX11_now_77 : decode cX11_now 77 = .ok (.invokevirtual 98, 3) := by decide +kernel
theorem dX11_now_80 : decode cX11_now 80 = .ok (.iadd, 1) := by decide +kernel
theorem dX11_now_81 : decode cX11_now 81 = .ok (.ireturn, 1) := by decide +kernel
theorem dX11_now_82 : decode cX11_now 82 = .ok (.aload_n 0, 1) := by decide +kernel
theorem dX11_now_83 : decode cX11_now 83 = .ok (.ldc 44, 2) := by decide +kernel
theorem dX11_now_85 : decode cX11_now 85 = .ok (.invokevirtual 76, 3) := by decide +kernel
theorem dX11_now_88 : decode cX11_now 88 = .ok (.ireturn, 1) := by decide +kernel
theorem dX11_whoAt_0 : decode cX11_whoAt 0 = .ok (.iconst 0, 1) := by decide +kernel
theorem dX11_whoAt_1 : decode cX11_whoAt 1 = .ok (.istore_n 2, 1) := by decide +kernel
theorem dX11_whoAt_2 : decode cX11_whoAt 2 = .ok (.iconst 0, 1) := by decide +kernel
theorem dX11_whoAt_3 : decode cX11_whoAt 3 = .ok (.istore_n 3, 1) := by decide +kernel
theorem dX11_whoAt_4 : decode cX11_whoAt 4 = .ok (.iload_n 3, 1) := by decide +kernel
theorem dX11_whoAt_5 : decode cX11_whoAt 5 = .ok (.aload_n 0, 1) := by decide +kernel
theorem dX11_whoAt_6 : decode cX11_whoAt 6 = .ok (.getfield 7, 3) := by decide +kernel
theorem dX11_whoAt_9 : decode cX11_whoAt 9 = .ok (.iconst 1, 1) := by decide +kernel
theorem dX11_whoAt_10 : decode cX11_whoAt 10 = .ok (.iaload, 1) := by decide +kernel
theorem dX11_whoAt_11 : decode cX11_whoAt 11 = .ok (.if_icmp .ge 29, 3) := by decide +kernel
theorem dX11_whoAt_14 : decode cX11_whoAt 14 = .ok (.iload_n 2, 1) := by decide +kernel
theorem dX11_whoAt_15 : decode cX11_whoAt 15 = .ok (.aload_n 0, 1) := by decide +kernel
theorem dX11_whoAt_16 : decode cX11_whoAt 16 = .ok (.iload_n 3, 1) := by decide +kernel
theorem dX11_whoAt_17 : decode cX11_whoAt 17 = .ok (.iconst 1, 1) := by decide +kernel
theorem dX11_whoAt_18 : decode cX11_whoAt 18 = .ok (.invokevirtual 59, 3) := by decide +kernel
theorem dX11_whoAt_21 : decode cX11_whoAt 21 = .ok (.iload_n 1, 1) := by decide +kernel
theorem dX11_whoAt_22 : decode cX11_whoAt 22 = .ok (.if_icmp .ne 9, 3) := by decide +kernel
theorem dX11_whoAt_25 : decode cX11_whoAt 25 = .ok (.iconst 1, 1) := by decide +kernel
theorem dX11_whoAt_26 : decode cX11_whoAt 26 = .ok (.iload_n 3, 1) := by decide +kernel
theorem dX11_whoAt_27 : decode cX11_whoAt 27 = .ok (.ishl, 1) := by decide +kernel
theorem dX11_whoAt_28 : decode cX11_whoAt 28 = .ok (.goto 4, 3) := by decide +kernel
theorem dX11_whoAt_31 : decode cX11_whoAt 31 = .ok (.iconst 0, 1) := by decide +kernel
theorem dX11_whoAt_32 : decode cX11_whoAt 32 = .ok (.ior, 1) := by decide +kernel
theorem dX11_whoAt_33 : decode cX11_whoAt 33 = .ok (.istore_n 2, 1) := by decide +kernel
theorem dX11_whoAt_34 : decode cX11_whoAt 34 = .ok (.iinc 3 1, 3) := by decide +kernel
theorem dX11_whoAt_37 : decode cX11_whoAt 37 = .ok (.goto (-33), 3) := by decide +kernel
theorem dX11_whoAt_40 : decode cX11_whoAt 40 = .ok (.iload_n 2, 1) := by decide +kernel
theorem dX11_whoAt_41 : decode cX11_whoAt 41 = .ok (.ireturn, 1) := by decide +kernel
theorem dX11_who_0 : decode cX11_who 0 = .ok (.iload_n 1, 1) := by decide +kernel
theorem dX11_who_1 : decode cX11_who 1 = .ok (.invokestatic 70, 3) := by decide +kernel
theorem dX11_who_4 : decode cX11_who 4 = .ok (.ifCond .eq 11, 3) := by decide +kernel
theorem dX11_who_7 : decode cX11_who 7 = .ok (.aload_n 0, 1) := by decide +kernel
theorem dX11_who_8 : decode cX11_who 8 = .ok (.iload_n 1, 1) := by decide +kernel
theorem dX11_who_9 : decode cX11_who 9 = .ok (.invokevirtual 101, 3) := by decide +kernel
theorem dX11_who_12 : decode cX11_who 12 = .ok (.goto 9, 3) := by decide +kernel
theorem dX11_who_15 : decode cX11_who 15 = .ok (.aload_n 0, 1) := by decide +kernel
theorem dX11_who_16 : decode cX11_who 16 = .ok (.ldc 44, 2) := by decide +kernel
theorem dX11_who_18 : decode cX11_who 18 = .ok (.invokevirtual 76, 3) := by decide +kernel
theorem dX11_who_21 : decode cX11_who 21 = .ok (.ireturn, 1) := by decide +kernel
theorem dX11_isHearing_0 : decode cX11_isHearing 0 = .ok (.aload_n 0, 1) := by decide +kernel
theorem dX11_isHearing_1 : decode cX11_isHearing 1 = .ok (.invokevirtual 91, 3) := by decide +kernel
theorem dX11_isHearing_4 : decode cX11_isHearing 4 = .ok (.istore_n 2, 1) := by decide +kernel
theorem dX11_isHearing_5 : decode cX11_isHearing 5 = .ok (.aload_n 0, 1) := by decide +kernel
theorem dX11_isHearing_6 : decode cX11_isHearing 6 = .ok (.iload_n 1, 1) := by decide +kernel
theorem dX11_isHearing_7 : decode cX11_isHearing 7 = .ok (.iconst 3, 1) := by decide +kernel
theorem dX11_isHearing_8 : decode cX11_isHearing 8 = .ok (.invokevirtual 59, 3) := by decide +kernel
theorem dX11_isHearing_11 : decode cX11_isHearing 11 = .ok (.bipush 10, 2) := by decide +kernel
theorem dX11_isHearing_13 : decode cX11_isHearing 13 = .ok (.if_icmp .ge 7, 3) := by decide +kernel
theorem dX11_isHearing_16 : decode cX11_isHearing 16 = .ok (.iconst 1, 1) := by decide +kernel
theorem dX11_isHearing_17 : decode cX11_isHearing 17 = .ok (.goto 4, 3) := by decide +kernel
theorem dX11_isHearing_20 : decode cX11_isHearing 20 = .ok (.iconst 0, 1) := by decide +kernel
theorem dX11_isHearing_21 : decode cX11_isHearing 21 = .ok (.istore_n 3, 1) := by decide +kernel
theorem dX11_isHearing_22 : decode cX11_isHearing 22 = .ok (.iload_n 2, 1) := by decide +kernel
theorem dX11_isHearing_23 : decode cX11_isHearing 23 = .ok (.iconst (-1), 1) := by decide +kernel
theorem dX11_isHearing_24 : decode cX11_isHearing 24 = .ok (.if_icmp .ne 5, 3) := by decide +kernel
theorem dX11_isHearing_27 : decode cX11_isHearing 27 = .ok (.iconst 0, 1) := by decide +kernel
theorem dX11_isHearing_28 : decode cX11_isHearing 28 = .ok (.ireturn, 1) := by decide +kernel
theorem dX11_isHearing_29 : decode cX11_isHearing 29 = .ok (.aload_n 0, 1) := by decide +kernel
theorem dX11_isHearing_30 : decode cX11_isHearing 30 = .ok (.iload_n 1, 1) := by decide +kernel
theorem dX11_isHearing_31 : decode cX11_isHearing 31 = .ok (.iconst 0, 1) := by decide +kernel
theorem dX11_isHearing_32 : decode cX11_isHearing 32 = .ok (.invokevirtual 59, 3) := by decide +kernel
theorem dX11_isHearing_35 : decode cX11_isHearing 35 = .ok (.tableswitch 48 2 5 #[29, 31, 31, 33], 29) := by decide +kernel
theorem dX11_isHearing_64 : decode cX11_isHearing 64 = .ok (.iconst 1, 1) := by decide +kernel
theorem dX11_isHearing_65 : decode cX11_isHearing 65 = .ok (.ireturn, 1) := by decide +kernel
theorem dX11_isHearing_66 : decode cX11_isHearing 66 = .ok (.iconst 0, 1) := by decide +kernel
theorem dX11_isHearing_67 : decode cX11_isHearing 67 = .ok (.ireturn, 1) := by decide +kernel
theorem dX11_isHearing_68 : decode cX11_isHearing 68 = .ok (.iload_n 3, 1) := by decide +kernel
theorem dX11_isHearing_69 : decode cX11_isHearing 69 = .ok (.ifCond .eq 12, 3) := by decide +kernel
theorem dX11_isHearing_72 : decode cX11_isHearing 72 = .ok (.iload_n 2, 1) := by decide +kernel
theorem dX11_isHearing_73 : decode cX11_isHearing 73 = .ok (.iconst 2, 1) := by decide +kernel
theorem dX11_isHearing_74 : decode cX11_isHearing 74 = .ok (.if_icmp .eq 7, 3) := by decide +kernel
theorem dX11_isHearing_77 : decode cX11_isHearing 77 = .ok (.iconst 1, 1) := by decide +kernel
theorem dX11_isHearing_78 : decode cX11_isHearing 78 = .ok (.goto 4, 3) := by decide +kernel
theorem dX11_isHearing_81 : decode cX11_isHearing 81 = .ok (.iconst 0, 1) := by decide +kernel
theorem dX11_isHearing_82 : decode cX11_isHearing 82 = .ok (.ireturn, 1) := by decide +kernel
theorem dX11_isHearing_83 : decode cX11_isHearing 83 = .ok (.iload_n 3, 1) := by decide +kernel
theorem dX11_isHearing_84 : decode cX11_isHearing 84 = .ok (.ireturn, 1) := by decide +kernel
theorem dX11_writtenFor_0 : decode cX11_writtenFor 0 = .ok (.aload_n 0, 1) := by decide +kernel
theorem dX11_writtenFor_1 : decode cX11_writtenFor 1 = .ok (.invokevirtual 87, 3) := by decide +kernel
theorem dX11_writtenFor_4 : decode cX11_writtenFor 4 = .ok (.istore_n 2, 1) := by decide +kernel
theorem dX11_writtenFor_5 : decode cX11_writtenFor 5 = .ok (.aload_n 0, 1) := by decide +kernel
theorem dX11_writtenFor_6 : decode cX11_writtenFor 6 = .ok (.getfield 7, 3) := by decide +kernel
theorem dX11_writtenFor_9 : decode cX11_writtenFor 9 = .ok (.iconst 2, 1) := by decide +kernel
theorem dX11_writtenFor_10 : decode cX11_writtenFor 10 = .ok (.iload_n 2, 1) := by decide +kernel
theorem dX11_writtenFor_11 : decode cX11_writtenFor 11 = .ok (.iadd, 1) := by decide +kernel
theorem dX11_writtenFor_12 : decode cX11_writtenFor 12 = .ok (.iaload, 1) := by decide +kernel
theorem dX11_writtenFor_13 : decode cX11_writtenFor 13 = .ok (.istore_n 3, 1) := by decide +kernel
theorem dX11_writtenFor_14 : decode cX11_writtenFor 14 = .ok (.bipush 11, 2) := by decide +kernel
theorem dX11_writtenFor_16 : decode cX11_writtenFor 16 = .ok (.iload_n 3, 1) := by decide +kernel
theorem dX11_writtenFor_17 : decode cX11_writtenFor 17 = .ok (.isub, 1) := by decide +kernel
theorem dX11_writtenFor_18 : decode cX11_writtenFor 18 = .ok (.istore 4, 2) := by decide +kernel
theorem dX11_writtenFor_20 : decode cX11_writtenFor 20 = .ok (.iload_n 2, 1) := by decide +kernel
theorem dX11_writtenFor_21 : decode cX11_writtenFor 21 = .ok (.iconst 2, 1) := by decide +kernel
theorem dX11_writtenFor_22 : decode cX11_writtenFor 22 = .ok (.irem, 1) := by decide +kernel
theorem dX11_writtenFor_23 : decode cX11_writtenFor 23 = .ok (.iconst 1, 1) := by decide +kernel
theorem dX11_writtenFor_24 : decode cX11_writtenFor 24 = .ok (.if_icmp .ne 8, 3) := by decide +kernel
theorem dX11_writtenFor_27 : decode cX11_writtenFor 27 = .ok (.bipush 11, 2) := by decide +kernel
theorem dX11_writtenFor_29 : decode cX11_writtenFor 29 = .ok (.goto 4, 3) := by decide +kernel
theorem dX11_writtenFor_32 : decode cX11_writtenFor 32 = .ok (.iload_n 3, 1) := by decide +kernel
theorem dX11_writtenFor_33 : decode cX11_writtenFor 33 = .ok (.istore 5, 2) := by decide +kernel
theorem dX11_writtenFor_35 : decode cX11_writtenFor 35 = .ok (.aload_n 0, 1) := by decide +kernel
theorem dX11_writtenFor_36 : decode cX11_writtenFor 36 = .ok (.iload_n 1, 1) := by decide +kernel
theorem dX11_writtenFor_37 : decode cX11_writtenFor 37 = .ok (.iconst 0, 1) := by decide +kernel
theorem dX11_writtenFor_38 : decode cX11_writtenFor 38 = .ok (.invokevirtual 59, 3) := by decide +kernel
theorem dX11_writtenFor_41 : decode cX11_writtenFor 41 = .ok (.tableswitch 88 1 5 #[35, 38, 41, 53, 74], 35) := by decide +kernel
theorem dX11_writtenFor_76 : decode cX11_writtenFor 76 = .ok (.iload 4, 2) := by decide +kernel
theorem dX11_writtenFor_78 : decode cX11_writtenFor 78 = .ok (.ireturn, 1) := by decide +kernel
theorem dX11_writtenFor_79 : decode cX11_writtenFor 79 = .ok (.iload 5, 2) := by decide +kernel
theorem dX11_writtenFor_81 : decode cX11_writtenFor 81 = .ok (.ireturn, 1) := by decide +kernel
theorem dX11_writtenFor_82 : decode cX11_writtenFor 82 = .ok (.aload_n 0, 1) := by decide +kernel
theorem dX11_writtenFor_83 : decode cX11_writtenFor 83 = .ok (.iload_n 1, 1) := by decide +kernel
theorem dX11_writtenFor_84 : decode cX11_writtenFor 84 = .ok (.iconst 1, 1) := by decide +kernel
theorem dX11_writtenFor_85 : decode cX11_writtenFor 85 = .ok (.invokevirtual 59, 3) := by decide +kernel
theorem dX11_writtenFor_88 : decode cX11_writtenFor 88 = .ok (.iconst 1, 1) := by decide +kernel
theorem dX11_writtenFor_89 : decode cX11_writtenFor 89 = .ok (.iadd, 1) := by decide +kernel
theorem dX11_writtenFor_90 : decode cX11_writtenFor 90 = .ok (.bipush 12, 2) := by decide +kernel
theorem dX11_writtenFor_92 : decode cX11_writtenFor 92 = .ok (.irem, 1) := by decide +kernel
theorem dX11_writtenFor_93 : decode cX11_writtenFor 93 = .ok (.ireturn, 1) := by decide +kernel
theorem dX11_writtenFor_94 : decode cX11_writtenFor 94 = .ok (.aload_n 0, 1) := by decide +kernel
theorem dX11_writtenFor_95 : decode cX11_writtenFor 95 = .ok (.getfield 7, 3) := by decide +kernel
theorem dX11_writtenFor_98 : decode cX11_writtenFor 98 = .ok (.iconst 0, 1) := by decide +kernel
theorem dX11_writtenFor_99 : decode cX11_writtenFor 99 = .ok (.iaload, 1) := by decide +kernel
theorem dX11_writtenFor_100 : decode cX11_writtenFor 100 = .ok (.bipush 8, 2) := by decide +kernel
theorem dX11_writtenFor_102 : decode cX11_writtenFor 102 = .ok (.irem, 1) := by decide +kernel
theorem dX11_writtenFor_103 : decode cX11_writtenFor 103 = .ok (.bipush 7, 2) := by decide +kernel
theorem dX11_writtenFor_105 : decode cX11_writtenFor 105 = .ok (.if_icmp .ne 7, 3) := by decide +kernel
theorem dX11_writtenFor_108 : decode cX11_writtenFor 108 = .ok (.iconst 5, 1) := by decide +kernel
theorem dX11_writtenFor_109 : decode cX11_writtenFor 109 = .ok (.goto 5, 3) := by decide +kernel
theorem dX11_writtenFor_112 : decode cX11_writtenFor 112 = .ok (.iload 5, 2) := by decide +kernel
theorem dX11_writtenFor_114 : decode cX11_writtenFor 114 = .ok (.ireturn, 1) := by decide +kernel
theorem dX11_writtenFor_115 : decode cX11_writtenFor 115 = .ok (.iload 4, 2) := by decide +kernel
theorem dX11_writtenFor_117 : decode cX11_writtenFor 117 = .ok (.ifCond .le 10, 3) := by decide +kernel
theorem dX11_writtenFor_120 : decode cX11_writtenFor 120 = .ok (.iload 4, 2) := by decide +kernel
theorem dX11_writtenFor_122 : decode cX11_writtenFor 122 = .ok (.iconst 1, 1) := by decide +kernel
theorem dX11_writtenFor_123 : decode cX11_writtenFor 123 = .ok (.isub, 1) := by decide +kernel
theorem dX11_writtenFor_124 : decode cX11_writtenFor 124 = .ok (.goto 4, 3) := by decide +kernel
theorem dX11_writtenFor_127 : decode cX11_writtenFor 127 = .ok (.iconst 0, 1) := by decide +kernel
theorem dX11_writtenFor_128 : decode cX11_writtenFor 128 = .ok (.ireturn, 1) := by decide +kernel
theorem dX11_writtenFor_129 : decode cX11_writtenFor 129 = .ok (.iload_n 3, 1) := by decide +kernel
theorem dX11_writtenFor_130 : decode cX11_writtenFor 130 = .ok (.ireturn, 1) := by decide +kernel
theorem dX11_dueOf_0 : decode cX11_dueOf 0 = .ok (.aload_n 0, 1) := by decide +kernel
theorem dX11_dueOf_1 : decode cX11_dueOf 1 = .ok (.iload_n 1, 1) := by decide +kernel
theorem dX11_dueOf_2 : decode cX11_dueOf 2 = .ok (.invokevirtual 104, 3) := by decide +kernel
theorem dX11_dueOf_5 : decode cX11_dueOf 5 = .ok (.ifCond .eq 7, 3) := by decide +kernel
theorem dX11_dueOf_8 : decode cX11_dueOf 8 = .ok (.iconst 0, 1) := by decide +kernel
theorem dX11_dueOf_9 : decode cX11_dueOf 9 = .ok (.goto 8, 3) := by decide +kernel
theorem dX11_dueOf_12 : decode cX11_dueOf 12 = .ok (.aload_n 0, 1) := by decide +kernel
theorem dX11_dueOf_13 : decode cX11_dueOf 13 = .ok (.iload_n 1, 1) := by decide +kernel
theorem dX11_dueOf_14 : decode cX11_dueOf 14 = .ok (.invokevirtual 107, 3) := by decide +kernel
theorem dX11_dueOf_17 : decode cX11_dueOf 17 = .ok (.ireturn, 1) := by decide +kernel
theorem dX11_signOf_0 : decode cX11_signOf 0 = .ok (.iload_n 0, 1) := by decide +kernel
theorem dX11_signOf_1 : decode cX11_signOf 1 = .ok (.ifCond .le 7, 3) := by decide +kernel
theorem dX11_signOf_4 : decode cX11_signOf 4 = .ok (.iconst 1, 1) := by decide +kernel
theorem dX11_signOf_5 : decode cX11_signOf 5 = .ok (.goto 12, 3) := by decide +kernel
theorem dX11_signOf_8 : decode cX11_signOf 8 = .ok (.iload_n 0, 1) := by decide +kernel
theorem dX11_signOf_9 : decode cX11_signOf 9 = .ok (.ifCond .ge 7, 3) := by decide +kernel
theorem dX11_signOf_12 : decode cX11_signOf 12 = .ok (.iconst (-1), 1) := by decide +kernel
theorem dX11_signOf_13 : decode cX11_signOf 13 = .ok (.goto 4, 3) := by decide +kernel
theorem dX11_signOf_16 : decode cX11_signOf 16 = .ok (.iconst 0, 1) := by decide +kernel
theorem dX11_signOf_17 : decode cX11_signOf 17 = .ok (.ireturn, 1) := by decide +kernel
theorem dX11_isBarred_0 : decode cX11_isBarred 0 = .ok (.aload_n 0, 1) := by decide +kernel
theorem dX11_isBarred_1 : decode cX11_isBarred 1 = .ok (.iload_n 1, 1) := by decide +kernel
theorem dX11_isBarred_2 : decode cX11_isBarred 2 = .ok (.iconst 1, 1) := by decide +kernel
theorem dX11_isBarred_3 : decode cX11_isBarred 3 = .ok (.invokevirtual 59, 3) := by decide +kernel
theorem dX11_isBarred_6 : decode cX11_isBarred 6 = .ok (.istore_n 2, 1) := by decide +kernel
theorem dX11_isBarred_7 : decode cX11_isBarred 7 = .ok (.iload_n 2, 1) := by decide +kernel
theorem dX11_isBarred_8 : decode cX11_isBarred 8 = .ok (.aload_n 0, 1) := by decide +kernel
theorem dX11_isBarred_9 : decode cX11_isBarred 9 = .ok (.iload_n 1, 1) := by decide +kernel
theorem dX11_isBarred_10 : decode cX11_isBarred 10 = .ok (.invokevirtual 84, 3) := by decide +kernel
theorem dX11_isBarred_13 : decode cX11_isBarred 13 = .ok (.iload_n 2, 1) := by decide +kernel
theorem dX11_isBarred_14 : decode cX11_isBarred 14 = .ok (.isub, 1) := by decide +kernel
theorem dX11_isBarred_15 : decode cX11_isBarred 15 = .ok (.invokestatic 110, 3) := by decide +kernel
theorem dX11_isBarred_18 : decode cX11_isBarred 18 = .ok (.iadd, 1) := by decide +kernel
theorem dX11_isBarred_19 : decode cX11_isBarred 19 = .ok (.istore_n 3, 1) := by decide +kernel
theorem dX11_isBarred_20 : decode cX11_isBarred 20 = .ok (.iload_n 3, 1) := by decide +kernel
theorem dX11_isBarred_21 : decode cX11_isBarred 21 = .ok (.iload_n 2, 1) := by decide +kernel
theorem dX11_isBarred_22 : decode cX11_isBarred 22 = .ok (.if_icmp .eq 15, 3) := by decide +kernel
theorem dX11_isBarred_25 : decode cX11_isBarred 25 = .ok (.aload_n 0, 1) := by decide +kernel
theorem dX11_isBarred_26 : decode cX11_isBarred 26 = .ok (.iload_n 3, 1) := by decide +kernel
theorem dX11_isBarred_27 : decode cX11_isBarred 27 = .ok (.invokevirtual 101, 3) := by decide +kernel
theorem dX11_isBarred_30 : decode cX11_isBarred 30 = .ok (.ifCond .eq 7, 3) := by decide +kernel
theorem dX11_isBarred_33 : decode cX11_isBarred 33 = .ok (.iconst 1, 1) := by decide +kernel
theorem dX11_isBarred_34 : decode cX11_isBarred 34 = .ok (.goto 4, 3) := by decide +kernel
theorem dX11_isBarred_37 : decode cX11_isBarred 37 = .ok (.iconst 0, 1) := by decide +kernel
theorem dX11_isBarred_38 : decode cX11_isBarred 38 = .ok (.ireturn, 1) := by decide +kernel
theorem dX11_walksOf_0 : decode cX11_walksOf 0 = .ok (.aload_n 0, 1) := by decide +kernel
theorem dX11_walksOf_1 : decode cX11_walksOf 1 = .ok (.iload_n 1, 1) := by decide +kernel
theorem dX11_walksOf_2 : decode cX11_walksOf 2 = .ok (.iconst 2, 1) := by decide +kernel
theorem dX11_walksOf_3 : decode cX11_walksOf 3 = .ok (.invokevirtual 59, 3) := by decide +kernel
theorem dX11_walksOf_6 : decode cX11_walksOf 6 = .ok (.istore_n 2, 1) := by decide +kernel
theorem dX11_walksOf_7 : decode cX11_walksOf 7 = .ok (.aload_n 0, 1) := by decide +kernel
theorem dX11_walksOf_8 : decode cX11_walksOf 8 = .ok (.iload_n 1, 1) := by decide +kernel
theorem dX11_walksOf_9 : decode cX11_walksOf 9 = .ok (.iconst 0, 1) := by decide +kernel
theorem dX11_walksOf_10 : decode cX11_walksOf 10 = .ok (.invokevirtual 59, 3) := by decide +kernel
theorem dX11_walksOf_13 : decode cX11_walksOf 13 = .ok (.tableswitch 59 1 5 #[35, 49, 51, 55, 35], 35) := by decide +kernel
theorem dX11_walksOf_48 : decode cX11_walksOf 48 = .ok (.aload_n 0, 1) := by decide +kernel
theorem dX11_walksOf_49 : decode cX11_walksOf 49 = .ok (.iload_n 1, 1) := by decide +kernel
theorem dX11_walksOf_50 : decode cX11_walksOf 50 = .ok (.invokevirtual 113, 3) := by decide +kernel
theorem dX11_walksOf_53 : decode cX11_walksOf 53 = .ok (.ifCond .eq 7, 3) := by decide +kernel
theorem dX11_walksOf_56 : decode cX11_walksOf 56 = .ok (.iconst 0, 1) := by decide +kernel
theorem dX11_walksOf_57 : decode cX11_walksOf 57 = .ok (.goto 4, 3) := by decide +kernel
theorem dX11_walksOf_60 : decode cX11_walksOf 60 = .ok (.iload_n 2, 1) := by decide +kernel
theorem dX11_walksOf_61 : decode cX11_walksOf 61 = .ok (.ireturn, 1) := by decide +kernel
theorem dX11_walksOf_62 : decode cX11_walksOf 62 = .ok (.iconst 1, 1) := by decide +kernel
theorem dX11_walksOf_63 : decode cX11_walksOf 63 = .ok (.ireturn, 1) := by decide +kernel
theorem dX11_walksOf_64 : decode cX11_walksOf 64 = .ok (.iconst 2, 1) := by decide +kernel
theorem dX11_walksOf_65 : decode cX11_walksOf 65 = .ok (.iload_n 2, 1) := by decide +kernel
theorem dX11_walksOf_66 : decode cX11_walksOf 66 = .ok (.imul, 1) := by decide +kernel
theorem dX11_walksOf_67 : decode cX11_walksOf 67 = .ok (.ireturn, 1) := by decide +kernel
theorem dX11_walksOf_68 : decode cX11_walksOf 68 = .ok (.iconst 1, 1) := by decide +kernel
theorem dX11_walksOf_69 : decode cX11_walksOf 69 = .ok (.iload_n 2, 1) := by decide +kernel
theorem dX11_walksOf_70 : decode cX11_walksOf 70 = .ok (.iadd, 1) := by decide +kernel
theorem dX11_walksOf_71 : decode cX11_walksOf 71 = .ok (.ireturn, 1) := by decide +kernel
theorem dX11_walksOf_72 : decode cX11_walksOf 72 = .ok (.iload_n 2, 1) := by decide +kernel
theorem dX11_walksOf_73 : decode cX11_walksOf 73 = .ok (.ireturn, 1) := by decide +kernel
theorem dX11_spoilsOf_0 : decode cX11_spoilsOf 0 = .ok (.aload_n 0, 1) := by decide +kernel
theorem dX11_spoilsOf_1 : decode cX11_spoilsOf 1 = .ok (.iload_n 1, 1) := by decide +kernel
theorem dX11_spoilsOf_2 : decode cX11_spoilsOf 2 = .ok (.iconst 0, 1) := by decide +kernel
theorem dX11_spoilsOf_3 : decode cX11_spoilsOf 3 = .ok (.invokevirtual 59, 3) := by decide +kernel
theorem dX11_spoilsOf_6 : decode cX11_spoilsOf 6 = .ok (.tableswitch 44 1 5 #[34, 36, 38, 40, 42], 34) := by decide +kernel
theorem dX11_spoilsOf_40 : decode cX11_spoilsOf 40 = .ok (.iconst 2, 1) := by decide +kernel
theorem dX11_spoilsOf_41 : decode cX11_spoilsOf 41 = .ok (.ireturn, 1) := by decide +kernel
theorem dX11_spoilsOf_42 : decode cX11_spoilsOf 42 = .ok (.iconst 0, 1) := by decide +kernel
theorem dX11_spoilsOf_43 : decode cX11_spoilsOf 43 = .ok (.ireturn, 1) := by decide +kernel
theorem dX11_spoilsOf_44 : decode cX11_spoilsOf 44 = .ok (.iconst 5, 1) := by decide +kernel
theorem dX11_spoilsOf_45 : decode cX11_spoilsOf 45 = .ok (.ireturn, 1) := by decide +kernel
theorem dX11_spoilsOf_46 : decode cX11_spoilsOf 46 = .ok (.iconst 3, 1) := by decide +kernel
theorem dX11_spoilsOf_47 : decode cX11_spoilsOf 47 = .ok (.ireturn, 1) := by decide +kernel
theorem dX11_spoilsOf_48 : decode cX11_spoilsOf 48 = .ok (.iconst 4, 1) := by decide +kernel
theorem dX11_spoilsOf_49 : decode cX11_spoilsOf 49 = .ok (.ireturn, 1) := by decide +kernel
theorem dX11_spoilsOf_50 : decode cX11_spoilsOf 50 = .ok (.iconst 1, 1) := by decide +kernel
theorem dX11_spoilsOf_51 : decode cX11_spoilsOf 51 = .ok (.ireturn, 1) := by decide +kernel
theorem dX11_adds_0 : decode cX11_adds 0 = .ok (.aload_n 0, 1) := by decide +kernel
theorem dX11_adds_1 : decode cX11_adds 1 = .ok (.getfield 7, 3) := by decide +kernel
theorem dX11_adds_4 : decode cX11_adds 4 = .ok (.iconst 1, 1) := by decide +kernel
theorem dX11_adds_5 : decode cX11_adds 5 = .ok (.iaload, 1) := by decide +kernel
theorem dX11_adds_6 : decode cX11_adds 6 = .ok (.istore_n 3, 1) := by decide +kernel
theorem dX11_adds_7 : decode cX11_adds 7 = .ok (.aload_n 0, 1) := by decide +kernel
theorem dX11_adds_8 : decode cX11_adds 8 = .ok (.getfield 7, 3) := by decide +kernel
theorem dX11_adds_11 : decode cX11_adds 11 = .ok (.iconst 1, 1) := by decide +kernel
theorem dX11_adds_12 : decode cX11_adds 12 = .ok (.dup2, 1) := by decide +kernel
theorem dX11_adds_13 : decode cX11_adds 13 = .ok (.iaload, 1) := by decide +kernel
theorem dX11_adds_14 : decode cX11_adds 14 = .ok (.iconst 1, 1) := by decide +kernel
theorem dX11_adds_15 : decode cX11_adds 15 = .ok (.iadd, 1) := by decide +kernel
theorem dX11_adds_16 : decode cX11_adds 16 = .ok (.iastore, 1) := by decide +kernel
theorem dX11_adds_17 : decode cX11_adds 17 = .ok (.aload_n 0, 1) := by decide +kernel
theorem dX11_adds_18 : decode cX11_adds 18 = .ok (.getfield 7, 3) := by decide +kernel
theorem dX11_adds_21 : decode cX11_adds 21 = .ok (.iload_n 3, 1) := by decide +kernel
theorem dX11_adds_22 : decode cX11_adds 22 = .ok (.iconst 0, 1) := by decide +kernel
theorem dX11_adds_23 : decode cX11_adds 23 = .ok (.invokestatic 45, 3) := by decide +kernel
theorem dX11_adds_26 : decode cX11_adds 26 = .ok (.iload_n 1, 1) := by decide +kernel
theorem dX11_adds_27 : decode cX11_adds 27 = .ok (.iastore, 1) := by decide +kernel
theorem dX11_adds_28 : decode cX11_adds 28 = .ok (.aload_n 0, 1) := by decide +kernel
theorem dX11_adds_29 : decode cX11_adds 29 = .ok (.getfield 7, 3) := by decide +kernel
theorem dX11_adds_32 : decode cX11_adds 32 = .ok (.iload_n 3, 1) := by decide +kernel
theorem dX11_adds_33 : decode cX11_adds 33 = .ok (.iconst 1, 1) := by decide +kernel
theorem dX11_adds_34 : decode cX11_adds 34 = .ok (.invokestatic 45, 3) := by decide +kernel
theorem dX11_adds_37 : decode cX11_adds 37 = .ok (.iload_n 2, 1) := by decide +kernel
theorem dX11_adds_38 : decode cX11_adds 38 = .ok (.iastore, 1) := by decide +kernel
theorem dX11_adds_39 : decode cX11_adds 39 = .ok (.aload_n 0, 1) := by decide +kernel
theorem dX11_adds_40 : decode cX11_adds 40 = .ok (.getfield 7, 3) := by decide +kernel
theorem dX11_adds_43 : decode cX11_adds 43 = .ok (.iload_n 3, 1) := by decide +kernel
theorem dX11_adds_44 : decode cX11_adds 44 = .ok (.iconst 2, 1) := by decide +kernel
theorem dX11_adds_45 : decode cX11_adds 45 = .ok (.invokestatic 45, 3) := by decide +kernel
theorem dX11_adds_48 : decode cX11_adds 48 = .ok (.iconst 1, 1) := by decide +kernel
theorem dX11_adds_49 : decode cX11_adds 49 = .ok (.iastore, 1) := by decide +kernel
theorem dX11_adds_50 : decode cX11_adds 50 = .ok (.aload_n 0, 1) := by decide +kernel
theorem dX11_adds_51 : decode cX11_adds 51 = .ok (.getfield 7, 3) := by decide +kernel
theorem dX11_adds_54 : decode cX11_adds 54 = .ok (.iload_n 3, 1) := by decide +kernel
theorem dX11_adds_55 : decode cX11_adds 55 = .ok (.iconst 3, 1) := by decide +kernel
theorem dX11_adds_56 : decode cX11_adds 56 = .ok (.invokestatic 45, 3) := by decide +kernel
theorem dX11_adds_59 : decode cX11_adds 59 = .ok (.iconst 0, 1) := by decide +kernel
theorem dX11_adds_60 : decode cX11_adds 60 = .ok (.iastore, 1) := by decide +kernel
theorem dX11_adds_61 : decode cX11_adds 61 = .ok (.aload_n 0, 1) := by decide +kernel
theorem dX11_adds_62 : decode cX11_adds 62 = .ok (.getfield 7, 3) := by decide +kernel
theorem dX11_adds_65 : decode cX11_adds 65 = .ok (.iload_n 3, 1) := by decide +kernel
theorem dX11_adds_66 : decode cX11_adds 66 = .ok (.iconst 4, 1) := by decide +kernel
theorem dX11_adds_67 : decode cX11_adds 67 = .ok (.invokestatic 45, 3) := by decide +kernel
theorem dX11_adds_70 : decode cX11_adds 70 = .ok (.iconst 0, 1) := by decide +kernel
theorem dX11_adds_71 : decode cX11_adds 71 = .ok (.iastore, 1) := by decide +kernel
theorem dX11_adds_72 : decode cX11_adds 72 = .ok (.iload_n 3, 1) := by decide +kernel
theorem dX11_adds_73 : decode cX11_adds 73 = .ok (.ireturn, 1) := by decide +kernel
theorem dX11_person_0 : decode cX11_person 0 = .ok (.iload_n 1, 1) := by decide +kernel
theorem dX11_person_1 : decode cX11_person 1 = .ok (.invokestatic 116, 3) := by decide +kernel
theorem dX11_person_4 : decode cX11_person 4 = .ok (.ifCond .eq 10, 3) := by decide +kernel
theorem dX11_person_7 : decode cX11_person 7 = .ok (.iload_n 2, 1) := by decide +kernel
theorem dX11_person_8 : decode cX11_person 8 = .ok (.invokestatic 70, 3) := by decide +kernel
theorem dX11_person_11 : decode cX11_person 11 = .ok (.ifCond .ne 10, 3) := by decide +kernel
theorem dX11_person_14 : decode cX11_person 14 = .ok (.aload_n 0, 1) := by decide +kernel
theorem dX11_person_15 : decode cX11_person 15 = .ok (.ldc 44, 2) := by decide +kernel
theorem dX11_person_17 : decode cX11_person 17 = .ok (.invokevirtual 76, 3) := by decide +kernel
theorem dX11_person_20 : decode cX11_person 20 = .ok (.ireturn, 1) := by decide +kernel
theorem dX11_person_21 : decode cX11_person 21 = .ok (.aload_n 0, 1) := by decide +kernel
theorem dX11_person_22 : decode cX11_person 22 = .ok (.getfield 7, 3) := by decide +kernel
theorem dX11_person_25 : decode cX11_person 25 = .ok (.iconst 1, 1) := by decide +kernel
theorem dX11_person_26 : decode cX11_person 26 = .ok (.iaload, 1) := by decide +kernel
theorem dX11_person_27 : decode cX11_person 27 = .ok (.bipush 8, 2) := by decide +kernel
theorem dX11_person_29 : decode cX11_person 29 = .ok (.if_icmp .ne 12, 3) := by decide +kernel
theorem dX11_person_32 : decode cX11_person 32 = .ok (.aload_n 0, 1) := by decide +kernel
theorem dX11_person_33 : decode cX11_person 33 = .ok (.ldc 119, 2) := by decide +kernel
theorem dX11_person_35 : decode cX11_person 35 = .ok (.invokevirtual 76, 3) := by decide +kernel
theorem dX11_person_38 : decode cX11_person 38 = .ok (.goto 9, 3) := by decide +kernel
theorem dX11_person_41 : decode cX11_person 41 = .ok (.aload_n 0, 1) := by decide +kernel
theorem dX11_person_42 : decode cX11_person 42 = .ok (.iload_n 1, 1) := by decide +kernel
theorem dX11_person_43 : decode cX11_person 43 = .ok (.iload_n 2, 1) := by decide +kernel
theorem dX11_person_44 : decode cX11_person 44 = .ok (.invokevirtual 120, 3) := by decide +kernel
theorem dX11_person_47 : decode cX11_person 47 = .ok (.ireturn, 1) := by decide +kernel
theorem dX11_of_0 : decode cX11_of 0 = .ok (.aload_n 0, 1) := by decide +kernel
theorem dX11_of_1 : decode cX11_of 1 = .ok (.iload_n 1, 1) := by decide +kernel
theorem dX11_of_2 : decode cX11_of 2 = .ok (.invokevirtual 123, 3) := by decide +kernel
theorem dX11_of_5 : decode cX11_of 5 = .ok (.ifCond .eq 15, 3) := by decide +kernel
theorem dX11_of_8 : decode cX11_of 8 = .ok (.iload_n 2, 1) := by decide +kernel
theorem dX11_of_9 : decode cX11_of 9 = .ok (.i2l, 1) := by decide +kernel
theorem dX11_of_10 : decode cX11_of 10 = .ok (.lconst 0, 1) := by decide +kernel
theorem dX11_of_11 : decode cX11_of 11 = .ok (.ldc2_w 126, 3) := by decide +kernel
theorem dX11_of_14 : decode cX11_of 14 = .ok (.invokestatic 49, 3) := by decide +kernel
theorem dX11_of_17 : decode cX11_of 17 = .ok (.ifCond .ne 10, 3) := by decide +kernel
theorem dX11_of_20 : decode cX11_of 20 = .ok (.aload_n 0, 1) := by decide +kernel
theorem dX11_of_21 : decode cX11_of 21 = .ok (.ldc 44, 2) := by decide +kernel
theorem dX11_of_23 : decode cX11_of 23 = .ok (.invokevirtual 76, 3) := by decide +kernel
theorem dX11_of_26 : decode cX11_of 26 = .ok (.ireturn, 1) := by decide +kernel
theorem dX11_of_27 : decode cX11_of 27 = .ok (.iload_n 2, 1) := by decide +kernel
theorem dX11_of_28 : decode cX11_of 28 = .ok (.iconst 4, 1) := by decide +kernel
theorem dX11_of_29 : decode cX11_of 29 = .ok (.if_icmp .gt 10, 3) := by decide +kernel
theorem dX11_of_32 : decode cX11_of 32 = .ok (.aload_n 0, 1) := by decide +kernel
theorem dX11_of_33 : decode cX11_of 33 = .ok (.iload_n 1, 1) := by decide +kernel
theorem dX11_of_34 : decode cX11_of 34 = .ok (.iload_n 2, 1) := by decide +kernel
theorem dX11_of_35 : decode cX11_of 35 = .ok (.invokevirtual 59, 3) := by decide +kernel
theorem dX11_of_38 : decode cX11_of 38 = .ok (.ireturn, 1) := by decide +kernel
theorem dX11_of_39 : decode cX11_of 39 = .ok (.iload_n 2, 1) := by decide +kernel
theorem dX11_of_40 : decode cX11_of 40 = .ok (.iconst 5, 1) := by decide +kernel
theorem dX11_of_41 : decode cX11_of 41 = .ok (.if_icmp .ne 11, 3) := by decide +kernel
theorem dX11_of_44 : decode cX11_of 44 = .ok (.aload_n 0, 1) := by decide +kernel
theorem dX11_of_45 : decode cX11_of 45 = .ok (.iload_n 1, 1) := by decide +kernel
theorem dX11_of_46 : decode cX11_of 46 = .ok (.invokevirtual 84, 3) := by decide +kernel
theorem dX11_of_49 : decode cX11_of 49 = .ok (.goto 44, 3) := by decide +kernel
theorem dX11_of_52 : decode cX11_of 52 = .ok (.iload_n 2, 1) := by decide +kernel
theorem dX11_of_53 : decode cX11_of 53 = .ok (.bipush 6, 2) := by decide +kernel
theorem dX11_of_55 : decode cX11_of 55 = .ok (.if_icmp .ne 19, 3) := by decide +kernel
theorem dX11_of_58 : decode cX11_of 58 = .ok (.aload_n 0, 1) := by decide +kernel
theorem dX11_of_59 : decode cX11_of 59 = .ok (.iload_n 1, 1) := by decide +kernel
theorem dX11_of_60 : decode cX11_of 60 = .ok (.invokevirtual 104, 3) := by decide +kernel
theorem dX11_of_63 : decode cX11_of 63 = .ok (.ifCond .eq 7, 3) := by decide +kernel
theorem dX11_of_66 : decode cX11_of 66 = .ok (.iconst 1, 1) := by decide +kernel
theorem dX11_of_67 : decode cX11_of 67 = .ok (.goto 26, 3) := by decide +kernel
theorem dX11_of_70 : decode cX11_of 70 = .ok (.iconst 0, 1) := by decide +kernel
theorem dX11_of_71 : decode cX11_of 71 = .ok (.goto 22, 3) := by decide +kernel
theorem dX11_of_74 : decode cX11_of 74 = .ok (.iload_n 2, 1) := by decide +kernel
theorem dX11_of_75 : decode cX11_of 75 = .ok (.bipush 7, 2) := by decide +kernel
theorem dX11_of_77 : decode cX11_of 77 = .ok (.if_icmp .ne 11, 3) := by decide +kernel
theorem dX11_of_80 : decode cX11_of 80 = .ok (.aload_n 0, 1) := by decide +kernel
theorem dX11_of_81 : decode cX11_of 81 = .ok (.iload_n 1, 1) := by decide +kernel
theorem dX11_of_82 : decode cX11_of 82 = .ok (.invokevirtual 128, 3) := by decide +kernel
theorem dX11_of_85 : decode cX11_of 85 = .ok (.goto 8, 3) := by decide +kernel
theorem dX11_of_88 : decode cX11_of 88 = .ok (.aload_n 0, 1) := by decide +kernel
theorem dX11_of_89 : decode cX11_of 89 = .ok (.iload_n 1, 1) := by decide +kernel
theorem dX11_of_90 : decode cX11_of 90 = .ok (.invokevirtual 131, 3) := by decide +kernel
theorem dX11_of_93 : decode cX11_of 93 = .ok (.ireturn, 1) := by decide +kernel
theorem dX11_set_0 : decode cX11_set 0 = .ok (.iload_n 2, 1) := by decide +kernel
theorem dX11_set_1 : decode cX11_set 1 = .ok (.i2l, 1) := by decide +kernel
theorem dX11_set_2 : decode cX11_set 2 = .ok (.lconst 1, 1) := by decide +kernel
theorem dX11_set_3 : decode cX11_set 3 = .ok (.ldc2_w 134, 3) := by decide +kernel
theorem dX11_set_6 : decode cX11_set 6 = .ok (.invokestatic 49, 3) := by decide +kernel
theorem dX11_set_9 : decode cX11_set 9 = .ok (.ifCond .eq 50, 3) := by decide +kernel
theorem dX11_set_12 : decode cX11_set 12 = .ok (.iload_n 3, 1) := by decide +kernel
theorem dX11_set_13 : decode cX11_set 13 = .ok (.i2l, 1) := by decide +kernel
theorem dX11_set_14 : decode cX11_set 14 = .ok (.iload_n 2, 1) := by decide +kernel
theorem dX11_set_15 : decode cX11_set 15 = .ok (.iconst 2, 1) := by decide +kernel
theorem dX11_set_16 : decode cX11_set 16 = .ok (.if_icmp .ne 7, 3) := by decide +kernel
theorem dX11_set_19 : decode cX11_set 19 = .ok (.lconst 1, 1) := by decide +kernel
theorem dX11_set_20 : decode cX11_set 20 = .ok (.goto 4, 3) := by decide +kernel
theorem dX11_set_23 : decode cX11_set 23 = .ok (.lconst 0, 1) := by decide +kernel
theorem dX11_set_24 : decode cX11_set 24 = .ok (.iload_n 2, 1) := by decide +kernel
theorem dX11_set_25 : decode cX11_set 25 = .ok (.iconst 1, 1) := by decide +kernel
theorem dX11_set_26 : decode cX11_set 26 = .ok (.if_icmp .ne 9, 3) := by decide +kernel
theorem dX11_set_29 : decode cX11_set 29 = .ok (.ldc2_w 53, 3) := by decide +kernel
theorem dX11_set_32 : decode cX11_set 32 = .ok (.goto 17, 3) := by decide +kernel
theorem dX11_set_35 : decode cX11_set 35 = .ok (.iload_n 2, 1) := by decide +kernel
theorem dX11_set_36 : decode cX11_set 36 = .ok (.iconst 2, 1) := by decide +kernel
theorem dX11_set_37 : decode cX11_set 37 = .ok (.if_icmp .ne 9, 3) := by decide +kernel
theorem dX11_set_40 : decode cX11_set 40 = .ok (.ldc2_w 134, 3) := by decide +kernel
theorem dX11_set_43 : decode cX11_set 43 = .ok (.goto 6, 3) := by decide +kernel
theorem dX11_set_46 : decode cX11_set 46 = .ok (.ldc2_w 136, 3) := by decide +kernel
theorem dX11_set_49 : decode cX11_set 49 = .ok (.invokestatic 49, 3) := by decide +kernel
theorem dX11_set_52 : decode cX11_set 52 = .ok (.ifCond .eq 7, 3) := by decide +kernel
theorem dX11_set_55 : decode cX11_set 55 = .ok (.iconst 1, 1) := by decide +kernel
theorem dX11_set_56 : decode cX11_set 56 = .ok (.goto 4, 3) := by decide +kernel
theorem dX11_set_59 : decode cX11_set 59 = .ok (.iconst 0, 1) := by decide +kernel
theorem dX11_set_60 : decode cX11_set 60 = .ok (.istore 4, 2) := by decide +kernel
theorem dX11_set_62 : decode cX11_set 62 = .ok (.aload_n 0, 1) := by decide +kernel
theorem dX11_set_63 : decode cX11_set 63 = .ok (.iload_n 1, 1) := by decide +kernel
theorem dX11_set_64 : decode cX11_set 64 = .ok (.invokevirtual 123, 3) := by decide +kernel
theorem dX11_set_67 : decode cX11_set 67 = .ok (.ifCond .eq 21, 3) := by decide +kernel
theorem dX11_set_70 : decode cX11_set 70 = .ok (.iload 4, 2) := by decide +kernel
theorem dX11_set_72 : decode cX11_set 72 = .ok (.ifCond .eq 16, 3) := by decide +kernel
theorem dX11_set_75 : decode cX11_set 75 = .ok (.aload_n 0, 1) := by decide +kernel
theorem dX11_set_76 : decode cX11_set 76 = .ok (.iload_n 1, 1) := by decide +kernel
theorem dX11_set_77 : decode cX11_set 77 = .ok (.iload_n 2, 1) := by decide +kernel
theorem dX11_set_78 : decode cX11_set 78 = .ok (.invokestatic 45, 3) := by decide +kernel
theorem dX11_set_81 : decode cX11_set 81 = .ok (.iload_n 3, 1) := by decide +kernel
theorem dX11_set_82 : decode cX11_set 82 = .ok (.invokevirtual 73, 3) := by decide +kernel
theorem dX11_set_85 : decode cX11_set 85 = .ok (.goto 9, 3) := by decide +kernel
theorem dX11_set_88 : decode cX11_set 88 = .ok (.aload_n 0, 1) := by decide +kernel
theorem dX11_set_89 : decode cX11_set 89 = .ok (.ldc 44, 2) := by decide +kernel
theorem dX11_set_91 : decode cX11_set 91 = .ok (.invokevirtual 76, 3) := by decide +kernel
theorem dX11_set_94 : decode cX11_set 94 = .ok (.ireturn, 1) := by decide +kernel
theorem dX11_turn_0 : decode cX11_turn 0 = .ok (.aload_n 0, 1) := by decide +kernel
theorem dX11_turn_1 : decode cX11_turn 1 = .ok (.iload_n 1, 1) := by decide +kernel
theorem dX11_turn_2 : decode cX11_turn 2 = .ok (.invokevirtual 123, 3) := by decide +kernel
theorem dX11_turn_5 : decode cX11_turn 5 = .ok (.ifCond .eq 23, 3) := by decide +kernel
theorem dX11_turn_8 : decode cX11_turn 8 = .ok (.iload_n 2, 1) := by decide +kernel
theorem dX11_turn_9 : decode cX11_turn 9 = .ok (.invokestatic 116, 3) := by decide +kernel
theorem dX11_turn_12 : decode cX11_turn 12 = .ok (.ifCond .eq 16, 3) := by decide +kernel
theorem dX11_turn_15 : decode cX11_turn 15 = .ok (.aload_n 0, 1) := by decide +kernel
theorem dX11_turn_16 : decode cX11_turn 16 = .ok (.iload_n 1, 1) := by decide +kernel
theorem dX11_turn_17 : decode cX11_turn 17 = .ok (.iconst 0, 1) := by decide +kernel
theorem dX11_turn_18 : decode cX11_turn 18 = .ok (.invokestatic 45, 3) := by decide +kernel
theorem dX11_turn_21 : decode cX11_turn 21 = .ok (.iload_n 2, 1) := by decide +kernel
theorem dX11_turn_22 : decode cX11_turn 22 = .ok (.invokevirtual 73, 3) := by decide +kernel
theorem dX11_turn_25 : decode cX11_turn 25 = .ok (.goto 9, 3) := by decide +kernel
theorem dX11_turn_28 : decode cX11_turn 28 = .ok (.aload_n 0, 1) := by decide +kernel
theorem dX11_turn_29 : decode cX11_turn 29 = .ok (.ldc 44, 2) := by decide +kernel
theorem dX11_turn_31 : decode cX11_turn 31 = .ok (.invokevirtual 76, 3) := by decide +kernel
theorem dX11_turn_34 : decode cX11_turn 34 = .ok (.ireturn, 1) := by decide +kernel
theorem dX11_isUnder_0 : decode cX11_isUnder 0 = .ok (.iload_n 1, 1) := by decide +kernel
theorem dX11_isUnder_1 : decode cX11_isUnder 1 = .ok (.ifCond .eq 28, 3) := by decide +kernel
theorem dX11_isUnder_4 : decode cX11_isUnder 4 = .ok (.iload_n 0, 1) := by decide +kernel
theorem dX11_isUnder_5 : decode cX11_isUnder 5 = .ok (.iload_n 1, 1) := by decide +kernel
theorem dX11_isUnder_6 : decode cX11_isUnder 6 = .ok (.if_icmp .eq 23, 3) := by decide +kernel
theorem dX11_isUnder_9 : decode cX11_isUnder 9 = .ok (.iload_n 0, 1) := by decide +kernel
theorem dX11_isUnder_10 : decode cX11_isUnder 10 = .ok (.iconst 4, 1) := by decide +kernel
theorem dX11_isUnder_11 : decode cX11_isUnder 11 = .ok (.if_icmp .ne 8, 3) := by decide +kernel
theorem dX11_isUnder_14 : decode cX11_isUnder 14 = .ok (.iload_n 1, 1) := by decide +kernel
theorem dX11_isUnder_15 : decode cX11_isUnder 15 = .ok (.iconst 2, 1) := by decide +kernel
theorem dX11_isUnder_16 : decode cX11_isUnder 16 = .ok (.if_icmp .eq 13, 3) := by decide +kernel
theorem dX11_isUnder_19 : decode cX11_isUnder 19 = .ok (.iload_n 0, 1) := by decide +kernel
theorem dX11_isUnder_20 : decode cX11_isUnder 20 = .ok (.iconst 5, 1) := by decide +kernel
theorem dX11_isUnder_21 : decode cX11_isUnder 21 = .ok (.if_icmp .ne 12, 3) := by decide +kernel
theorem dX11_isUnder_24 : decode cX11_isUnder 24 = .ok (.iload_n 1, 1) := by decide +kernel
theorem dX11_isUnder_25 : decode cX11_isUnder 25 = .ok (.iconst 1, 1) := by decide +kernel
theorem dX11_isUnder_26 : decode cX11_isUnder 26 = .ok (.if_icmp .ne 7, 3) := by decide +kernel
theorem dX11_isUnder_29 : decode cX11_isUnder 29 = .ok (.iconst 1, 1) := by decide +kernel
theorem dX11_isUnder_30 : decode cX11_isUnder 30 = .ok (.goto 4, 3) := by decide +kernel
theorem dX11_isUnder_33 : decode cX11_isUnder 33 = .ok (.iconst 0, 1) := by decide +kernel
theorem dX11_isUnder_34 : decode cX11_isUnder 34 = .ok (.ireturn, 1) := by decide +kernel
theorem dX11_as_0 : decode cX11_as 0 = .ok (.aload_n 0, 1) := by decide +kernel
theorem dX11_as_1 : decode cX11_as 1 = .ok (.iload_n 1, 1) := by decide +kernel
theorem dX11_as_2 : decode cX11_as 2 = .ok (.invokevirtual 123, 3) := by decide +kernel
theorem dX11_as_5 : decode cX11_as 5 = .ok (.ifCond .eq 10, 3) := by decide +kernel
theorem dX11_as_8 : decode cX11_as 8 = .ok (.iload_n 2, 1) := by decide +kernel
theorem dX11_as_9 : decode cX11_as 9 = .ok (.invokestatic 116, 3) := by decide +kernel
theorem dX11_as_12 : decode cX11_as 12 = .ok (.ifCond .ne 10, 3) := by decide +kernel
theorem dX11_as_15 : decode cX11_as 15 = .ok (.aload_n 0, 1) := by decide +kernel
theorem dX11_as_16 : decode cX11_as 16 = .ok (.ldc 44, 2) := by decide +kernel
theorem dX11_as_18 : decode cX11_as 18 = .ok (.invokevirtual 76, 3) := by decide +kernel
theorem dX11_as_21 : decode cX11_as 21 = .ok (.ireturn, 1) := by decide +kernel
theorem dX11_as_22 : decode cX11_as 22 = .ok (.aload_n 0, 1) := by decide +kernel
theorem dX11_as_23 : decode cX11_as 23 = .ok (.iload_n 1, 1) := by decide +kernel
theorem dX11_as_24 : decode cX11_as 24 = .ok (.iconst 0, 1) := by decide +kernel
theorem dX11_as_25 : decode cX11_as 25 = .ok (.invokevirtual 59, 3) := by decide +kernel
theorem dX11_as_28 : decode cX11_as 28 = .ok (.iload_n 2, 1) := by decide +kernel
theorem dX11_as_29 : decode cX11_as 29 = .ok (.invokestatic 138, 3) := by decide +kernel
theorem dX11_as_32 : decode cX11_as 32 = .ok (.ifCond .eq 12, 3) := by decide +kernel
theorem dX11_as_35 : decode cX11_as 35 = .ok (.aload_n 0, 1) := by decide +kernel
theorem dX11_as_36 : decode cX11_as 36 = .ok (.iload_n 1, 1) := by decide +kernel
theorem dX11_as_37 : decode cX11_as 37 = .ok (.iconst 3, 1) := by decide +kernel
theorem dX11_as_38 : decode cX11_as 38 = .ok (.invokevirtual 59, 3) := by decide +kernel
theorem dX11_as_41 : decode cX11_as 41 = .ok (.goto 9, 3) := by decide +kernel
theorem dX11_as_44 : decode cX11_as 44 = .ok (.aload_n 0, 1) := by decide +kernel
theorem dX11_as_45 : decode cX11_as 45 = .ok (.ldc 142, 2) := by decide +kernel
theorem dX11_as_47 : decode cX11_as 47 = .ok (.invokevirtual 76, 3) := by decide +kernel
theorem dX11_as_50 : decode cX11_as 50 = .ok (.ireturn, 1) := by decide +kernel
theorem dX11_walks_0 : decode cX11_walks 0 = .ok (.aload_n 0, 1) := by decide +kernel
theorem dX11_walks_1 : decode cX11_walks 1 = .ok (.getfield 25, 3) := by decide +kernel
theorem dX11_walks_4 : decode cX11_walks 4 = .ok (.iload_n 1, 1) := by decide +kernel
theorem dX11_walks_5 : decode cX11_walks 5 = .ok (.aload_n 0, 1) := by decide +kernel
theorem dX11_walks_6 : decode cX11_walks 6 = .ok (.iload_n 1, 1) := by decide +kernel
theorem dX11_walks_7 : decode cX11_walks 7 = .ok (.invokevirtual 84, 3) := by decide +kernel
theorem dX11_walks_10 : decode cX11_walks 10 = .ok (.iastore, 1) := by decide +kernel
theorem dX11_walks_11 : decode cX11_walks 11 = .ok (.aload_n 0, 1) := by decide +kernel
theorem dX11_walks_12 : decode cX11_walks 12 = .ok (.iload_n 1, 1) := by decide +kernel
theorem dX11_walks_13 : decode cX11_walks 13 = .ok (.iconst 1, 1) := by decide +kernel
theorem dX11_walks_14 : decode cX11_walks 14 = .ok (.invokevirtual 59, 3) := by decide +kernel
theorem dX11_walks_17 : decode cX11_walks 17 = .ok (.istore_n 2, 1) := by decide +kernel
theorem dX11_walks_18 : decode cX11_walks 18 = .ok (.aload_n 0, 1) := by decide +kernel
theorem dX11_walks_19 : decode cX11_walks 19 = .ok (.getfield 25, 3) := by decide +kernel
theorem dX11_walks_22 : decode cX11_walks 22 = .ok (.iload_n 1, 1) := by decide +kernel
theorem dX11_walks_23 : decode cX11_walks 23 = .ok (.iaload, 1) := by decide +kernel
theorem dX11_walks_24 : decode cX11_walks 24 = .ok (.iload_n 2, 1) := by decide +kernel
theorem dX11_walks_25 : decode cX11_walks 25 = .ok (.if_icmp .le 14, 3) := by decide +kernel
theorem dX11_walks_28 : decode cX11_walks 28 = .ok (.aload_n 0, 1) := by decide +kernel
theorem dX11_walks_29 : decode cX11_walks 29 = .ok (.getfield 25, 3) := by decide +kernel
theorem dX11_walks_32 : decode cX11_walks 32 = .ok (.iload_n 1, 1) := by decide +kernel
theorem dX11_walks_33 : decode cX11_walks 33 = .ok (.iaload, 1) := by decide +kernel
theorem dX11_walks_34 : decode cX11_walks 34 = .ok (.iload_n 2, 1) := by decide +kernel
theorem dX11_walks_35 : decode cX11_walks 35 = .ok (.isub, 1) := by decide +kernel
theorem dX11_walks_36 : decode cX11_walks 36 = .ok (.goto 11, 3) := by decide +kernel
theorem dX11_walks_39 : decode cX11_walks 39 = .ok (.iload_n 2, 1) := by decide +kernel
theorem dX11_walks_40 : decode cX11_walks 40 = .ok (.aload_n 0, 1) := by decide +kernel
theorem dX11_walks_41 : decode cX11_walks 41 = .ok (.getfield 25, 3) := by decide +kernel
theorem dX11_walks_44 : decode cX11_walks 44 = .ok (.iload_n 1, 1) := by decide +kernel
theorem dX11_walks_45 : decode cX11_walks 45 = .ok (.iaload, 1) := by decide +kernel
theorem dX11_walks_46 : decode cX11_walks 46 = .ok (.isub, 1) := by decide +kernel
theorem dX11_walks_47 : decode cX11_walks 47 = .ok (.istore_n 3, 1) := by decide +kernel
theorem dX11_walks_48 : decode cX11_walks 48 = .ok (.aload_n 0, 1) := by decide +kernel
theorem dX11_walks_49 : decode cX11_walks 49 = .ok (.iload_n 1, 1) := by decide +kernel
theorem dX11_walks_50 : decode cX11_walks 50 = .ok (.invokevirtual 128, 3) := by decide +kernel
theorem dX11_walks_53 : decode cX11_walks 53 = .ok (.istore 4, 2) := by decide +kernel
theorem dX11_walks_55 : decode cX11_walks 55 = .ok (.iload 4, 2) := by decide +kernel
theorem dX11_walks_57 : decode cX11_walks 57 = .ok (.iload_n 3, 1) := by decide +kernel
theorem dX11_walks_58 : decode cX11_walks 58 = .ok (.if_icmp .ge 8, 3) := by decide +kernel
theorem dX11_walks_61 : decode cX11_walks 61 = .ok (.iload 4, 2) := by decide +kernel
theorem dX11_walks_63 : decode cX11_walks 63 = .ok (.goto 4, 3) := by decide +kernel
theorem dX11_walks_66 : decode cX11_walks 66 = .ok (.iload_n 3, 1) := by decide +kernel
theorem dX11_walks_67 : decode cX11_walks 67 = .ok (.istore 5, 2) := by decide +kernel
theorem dX11_walks_69 : decode cX11_walks 69 = .ok (.aload_n 0, 1) := by decide +kernel
theorem dX11_walks_70 : decode cX11_walks 70 = .ok (.getfield 7, 3) := by decide +kernel
theorem dX11_walks_73 : decode cX11_walks 73 = .ok (.iload_n 1, 1) := by decide +kernel
theorem dX11_walks_74 : decode cX11_walks 74 = .ok (.iconst 1, 1) := by decide +kernel
theorem dX11_walks_75 : decode cX11_walks 75 = .ok (.invokestatic 45, 3) := by decide +kernel
theorem dX11_walks_78 : decode cX11_walks 78 = .ok (.iload_n 2, 1) := by decide +kernel
theorem dX11_walks_79 : decode cX11_walks 79 = .ok (.iload 5, 2) := by decide +kernel
theorem dX11_walks_81 : decode cX11_walks 81 = .ok (.aload_n 0, 1) := by decide +kernel
theorem dX11_walks_82 : decode cX11_walks 82 = .ok (.getfield 25, 3) := by decide +kernel
theorem dX11_walks_85 : decode cX11_walks 85 = .ok (.iload_n 1, 1) := by decide +kernel
theorem dX11_walks_86 : decode cX11_walks 86 = .ok (.iaload, 1) := by decide +kernel
theorem dX11_walks_87 : decode cX11_walks 87 = .ok (.iload_n 2, 1) := by decide +kernel
theorem dX11_walks_88 : decode cX11_walks 88 = .ok (.isub, 1) := by decide +kernel
theorem dX11_walks_89 : decode cX11_walks 89 = .ok (.invokestatic 110, 3) := by decide +kernel
theorem dX11_walks_92 : decode cX11_walks 92 = .ok (.imul, 1) := by decide +kernel
theorem dX11_walks_93 : decode cX11_walks 93 = .ok (.iadd, 1) := by decide +kernel
theorem dX11_walks_94 : decode cX11_walks 94 = .ok (.iastore, 1) := by decide +kernel
theorem dX11_walks_95 : decode cX11_walks 95 = .ok (.return_, 1) := by decide +kernel
theorem dX11_minute_0 : decode cX11_minute 0 = .ok (.iconst 0, 1) := by decide +kernel
theorem dX11_minute_1 : decode cX11_minute 1 = .ok (.istore_n 1, 1) := by decide +kernel
theorem dX11_minute_2 : decode cX11_minute 2 = .ok (.iload_n 1, 1) := by decide +kernel
theorem dX11_minute_3 : decode cX11_minute 3 = .ok (.aload_n 0, 1) := by decide +kernel
theorem dX11_minute_4 : decode cX11_minute 4 = .ok (.getfield 7, 3) := by decide +kernel
theorem dX11_minute_7 : decode cX11_minute 7 = .ok (.iconst 1, 1) := by decide +kernel
theorem dX11_minute_8 : decode cX11_minute 8 = .ok (.iaload, 1) := by decide +kernel
theorem dX11_minute_9 : decode cX11_minute 9 = .ok (.if_icmp .ge 14, 3) := by decide +kernel
theorem dX11_minute_12 : decode cX11_minute 12 = .ok (.aload_n 0, 1) := by decide +kernel
theorem dX11_minute_13 : decode cX11_minute 13 = .ok (.iload_n 1, 1) := by decide +kernel
theorem dX11_minute_14 : decode cX11_minute 14 = .ok (.invokevirtual 143, 3) := by decide +kernel
theorem dX11_minute_17 : decode cX11_minute 17 = .ok (.iinc 1 1, 3) := by decide +kernel
theorem dX11_minute_20 : decode cX11_minute 20 = .ok (.goto (-18), 3) := by decide +kernel
theorem dX11_minute_23 : decode cX11_minute 23 = .ok (.aload_n 0, 1) := by decide +kernel
theorem dX11_minute_24 : decode cX11_minute 24 = .ok (.iconst 0, 1) := by decide +kernel
theorem dX11_minute_25 : decode cX11_minute 25 = .ok (.putfield 147, 3) := by decide +kernel
theorem dX11_minute_28 : decode cX11_minute 28 = .ok (.iconst 0, 1) := by decide +kernel
theorem dX11_minute_29 : decode cX11_minute 29 = .ok (.istore_n 1, 1) := by decide +kernel
theorem dX11_minute_30 : decode cX11_minute 30 = .ok (.iload_n 1, 1) := by decide +kernel
theorem dX11_minute_31 : decode cX11_minute 31 = .ok (.aload_n 0, 1) := by decide +kernel
theorem dX11_minute_32 : decode cX11_minute 32 = .ok (.getfield 7, 3) := by decide +kernel
theorem dX11_minute_35 : decode cX11_minute 35 = .ok (.iconst 1, 1) := by decide +kernel
theorem dX11_minute_36 : decode cX11_minute 36 = .ok (.iaload, 1) := by decide +kernel
theorem dX11_minute_37 : decode cX11_minute 37 = .ok (.if_icmp .ge 108, 3) := by decide +kernel
theorem dX11_minute_40 : decode cX11_minute 40 = .ok (.aload_n 0, 1) := by decide +kernel
theorem dX11_minute_41 : decode cX11_minute 41 = .ok (.iload_n 1, 1) := by decide +kernel
theorem dX11_minute_42 : decode cX11_minute 42 = .ok (.iconst 1, 1) := by decide +kernel
theorem dX11_minute_43 : decode cX11_minute 43 = .ok (.invokevirtual 59, 3) := by decide +kernel
theorem dX11_minute_46 : decode cX11_minute 46 = .ok (.aload_n 0, 1) := by decide +kernel
theorem dX11_minute_47 : decode cX11_minute 47 = .ok (.getfield 25, 3) := by decide +kernel
theorem dX11_minute_50 : decode cX11_minute 50 = .ok (.iload_n 1, 1) := by decide +kernel
theorem dX11_minute_51 : decode cX11_minute 51 = .ok (.iaload, 1) := by decide +kernel
theorem dX11_minute_52 : decode cX11_minute 52 = .ok (.if_icmp .ne 7, 3) := by decide +kernel
theorem dX11_minute_55 : decode cX11_minute 55 = .ok (.iconst 1, 1) := by decide +kernel
theorem dX11_minute_56 : decode cX11_minute 56 = .ok (.goto 4, 3) := by decide +kernel
theorem dX11_minute_59 : decode cX11_minute 59 = .ok (.iconst 0, 1) := by decide +kernel
theorem dX11_minute_60 : decode cX11_minute 60 = .ok (.istore_n 2, 1) := by decide +kernel
theorem dX11_minute_61 : decode cX11_minute 61 = .ok (.iload_n 1, 1) := by decide +kernel
theorem dX11_minute_62 : decode cX11_minute 62 = .ok (.iload_n 2, 1) := by decide +kernel
theorem dX11_minute_63 : decode cX11_minute 63 = .ok (.ifCond .eq 7, 3) := by decide +kernel
theorem dX11_minute_66 : decode cX11_minute 66 = .ok (.iconst 3, 1) := by decide +kernel
theorem dX11_minute_67 : decode cX11_minute 67 = .ok (.goto 4, 3) := by decide +kernel
theorem dX11_minute_70 : decode cX11_minute 70 = .ok (.iconst 4, 1) := by decide +kernel
theorem dX11_minute_71 : decode cX11_minute 71 = .ok (.invokestatic 45, 3) := by decide +kernel
theorem dX11_minute_74 : decode cX11_minute 74 = .ok (.istore_n 3, 1) := by decide +kernel
theorem dX11_minute_75 : decode cX11_minute 75 = .ok (.aload_n 0, 1) := by decide +kernel
theorem dX11_minute_76 : decode cX11_minute 76 = .ok (.getfield 7, 3) := by decide +kernel
theorem dX11_minute_79 : decode cX11_minute 79 = .ok (.iload_n 3, 1) := by decide +kernel
theorem dX11_minute_80 : decode cX11_minute 80 = .ok (.iaload, 1) := by decide +kernel
theorem dX11_minute_81 : decode cX11_minute 81 = .ok (.iload_n 2, 1) := by decide +kernel
theorem dX11_minute_82 : decode cX11_minute 82 = .ok (.ifCond .eq 7, 3) := by decide +kernel
theorem dX11_minute_85 : decode cX11_minute 85 = .ok (.iconst 1, 1) := by decide +kernel
theorem dX11_minute_86 : decode cX11_minute 86 = .ok (.goto 8, 3) := by decide +kernel
theorem dX11_minute_89 : decode cX11_minute 89 = .ok (.aload_n 0, 1) := by decide +kernel
theorem dX11_minute_90 : decode cX11_minute 90 = .ok (.iload_n 1, 1) := by decide +kernel
theorem dX11_minute_91 : decode cX11_minute 91 = .ok (.invokevirtual 131, 3) := by decide +kernel
theorem dX11_minute_94 : decode cX11_minute 94 = .ok (.iadd, 1) := by decide +kernel
theorem dX11_minute_95 : decode cX11_minute 95 = .ok (.istore 4, 2) := by decide +kernel
theorem dX11_minute_97 : decode cX11_minute 97 = .ok (.aload_n 0, 1) := by decide +kernel
theorem dX11_minute_98 : decode cX11_minute 98 = .ok (.getfield 7, 3) := by decide +kernel
theorem dX11_minute_101 : decode cX11_minute 101 = .ok (.iload_n 3, 1) := by decide +kernel
theorem dX11_minute_102 : decode cX11_minute 102 = .ok (.iload 4, 2) := by decide +kernel
theorem dX11_minute_104 : decode cX11_minute 104 = .ok (.sipush 9999, 3) := by decide +kernel
theorem dX11_minute_107 : decode cX11_minute 107 = .ok (.if_icmp .le 9, 3) := by decide +kernel
theorem dX11_minute_110 : decode cX11_minute 110 = .ok (.sipush 9999, 3) := by decide +kernel
theorem dX11_minute_113 : decode cX11_minute 113 = .ok (.goto 5, 3) := by decide +kernel
theorem dX11_minute_116 : decode cX11_minute 116 = .ok (.iload 4, 2) := by decide +kernel
theorem dX11_minute_118 : decode cX11_minute 118 = .ok (.iastore, 1) := by decide +kernel
theorem dX11_minute_119 : decode cX11_minute 119 = .ok (.aload_n 0, 1) := by decide +kernel
theorem dX11_minute_120 : decode cX11_minute 120 = .ok (.dup, 1) := by decide +kernel
theorem dX11_minute_121 : decode cX11_minute 121 = .ok (.getfield 147, 3) := by decide +kernel
theorem dX11_minute_124 : decode cX11_minute 124 = .ok (.iload_n 2, 1) := by decide +kernel
theorem dX11_minute_125 : decode cX11_minute 125 = .ok (.ifCond .eq 9, 3) := by decide +kernel
theorem dX11_minute_128 : decode cX11_minute 128 = .ok (.iconst 1, 1) := by decide +kernel
theorem dX11_minute_129 : decode cX11_minute 129 = .ok (.iload_n 1, 1) := by decide +kernel
theorem dX11_minute_130 : decode cX11_minute 130 = .ok (.ishl, 1) := by decide +kernel
theorem dX11_minute_131 : decode cX11_minute 131 = .ok (.goto 4, 3) := by decide +kernel
theorem dX11_minute_134 : decode cX11_minute 134 = .ok (.iconst 0, 1) := by decide +kernel
theorem dX11_minute_135 : decode cX11_minute 135 = .ok (.ior, 1) := by decide +kernel
theorem dX11_minute_136 : decode cX11_minute 136 = .ok (.putfield 147, 3) := by decide +kernel
theorem dX11_minute_139 : decode cX11_minute 139 = .ok (.iinc 1 1, 3) := by decide +kernel
theorem dX11_minute_142 : decode cX11_minute 142 = .ok (.goto (-112), 3) := by decide +kernel
theorem dX11_minute_145 : decode cX11_minute 145 = .ok (.aload_n 0, 1) := by decide +kernel
theorem dX11_minute_146 : decode cX11_minute 146 = .ok (.getfield 7, 3) := by decide +kernel
theorem dX11_minute_149 : decode cX11_minute 149 = .ok (.iconst 0, 1) := by decide +kernel
theorem dX11_minute_150 : decode cX11_minute 150 = .ok (.dup2, 1) := by decide +kernel
theorem dX11_minute_151 : decode cX11_minute 151 = .ok (.iaload, 1) := by decide +kernel
theorem dX11_minute_152 : decode cX11_minute 152 = .ok (.iconst 1, 1) := by decide +kernel
theorem dX11_minute_153 : decode cX11_minute 153 = .ok (.iadd, 1) := by decide +kernel
theorem dX11_minute_154 : decode cX11_minute 154 = .ok (.iastore, 1) := by decide +kernel
theorem dX11_minute_155 : decode cX11_minute 155 = .ok (.return_, 1) := by decide +kernel
theorem dX11_minutesGo_0 : decode cX11_minutesGo 0 = .ok (.iconst 0, 1) := by decide +kernel
theorem dX11_minutesGo_1 : decode cX11_minutesGo 1 = .ok (.istore_n 2, 1) := by decide +kernel
theorem dX11_minutesGo_2 : decode cX11_minutesGo 2 = .ok (.iload_n 2, 1) := by decide +kernel
theorem dX11_minutesGo_3 : decode cX11_minutesGo 3 = .ok (.iload_n 1, 1) := by decide +kernel
theorem dX11_minutesGo_4 : decode cX11_minutesGo 4 = .ok (.if_icmp .ge 13, 3) := by decide +kernel
theorem dX11_minutesGo_7 : decode cX11_minutesGo 7 = .ok (.aload_n 0, 1) := by decide +kernel
theorem dX11_minutesGo_8 : decode cX11_minutesGo 8 = .ok (.invokevirtual 151, 3) := by decide +kernel
theorem dX11_minutesGo_11 : decode cX11_minutesGo 11 = .ok (.iinc 2 1, 3) := by decide +kernel
theorem dX11_minutesGo_14 : decode cX11_minutesGo 14 = .ok (.goto (-12), 3) := by decide +kernel
theorem dX11_minutesGo_17 : decode cX11_minutesGo 17 = .ok (.return_, 1) := by decide +kernel
theorem dX11_minutes_0 : decode cX11_minutes 0 = .ok (.iload_n 1, 1) := by decide +kernel
theorem dX11_minutes_1 : decode cX11_minutes 1 = .ok (.i2l, 1) := by decide +kernel
theorem dX11_minutes_2 : decode cX11_minutes 2 = .ok (.lconst 1, 1) := by decide +kernel
theorem dX11_minutes_3 : decode cX11_minutes 3 = .ok (.ldc2_w 154, 3) := by decide +kernel
theorem dX11_minutes_6 : decode cX11_minutes 6 = .ok (.invokestatic 49, 3) := by decide +kernel
theorem dX11_minutes_9 : decode cX11_minutes 9 = .ok (.ifCond .ne 10, 3) := by decide +kernel
theorem dX11_minutes_12 : decode cX11_minutes 12 = .ok (.aload_n 0, 1) := by decide +kernel
theorem dX11_minutes_13 : decode cX11_minutes 13 = .ok (.ldc 44, 2) := by decide +kernel
theorem dX11_minutes_15 : decode cX11_minutes 15 = .ok (.invokevirtual 76, 3) := by decide +kernel
theorem dX11_minutes_18 : decode cX11_minutes 18 = .ok (.ireturn, 1) := by decide +kernel
theorem dX11_minutes_19 : decode cX11_minutes 19 = .ok (.aload_n 0, 1) := by decide +kernel
theorem dX11_minutes_20 : decode cX11_minutes 20 = .ok (.getfield 7, 3) := by decide +kernel
theorem dX11_minutes_23 : decode cX11_minutes 23 = .ok (.iconst 0, 1) := by decide +kernel
theorem dX11_minutes_24 : decode cX11_minutes 24 = .ok (.iaload, 1) := by decide +kernel
theorem dX11_minutes_25 : decode cX11_minutes 25 = .ok (.iload_n 1, 1) := by decide +kernel
theorem dX11_minutes_26 : decode cX11_minutes 26 = .ok (.iadd, 1) := by decide +kernel
theorem dX11_minutes_27 : decode cX11_minutes 27 = .ok (.ldc 156, 2) := by decide +kernel
theorem dX11_minutes_29 : decode cX11_minutes 29 = .ok (.if_icmp .le 10, 3) := by decide +kernel
theorem dX11_minutes_32 : decode cX11_minutes 32 = .ok (.aload_n 0, 1) := by decide +kernel
theorem dX11_minutes_33 : decode cX11_minutes 33 = .ok (.ldc 157, 2) := by decide +kernel
theorem dX11_minutes_35 : decode cX11_minutes 35 = .ok (.invokevirtual 76, 3) := by decide +kernel
theorem dX11_minutes_38 : decode cX11_minutes 38 = .ok (.ireturn, 1) := by decide +kernel
theorem dX11_minutes_39 : decode cX11_minutes 39 = .ok (.aload_n 0, 1) := by decide +kernel
theorem dX11_minutes_40 : decode cX11_minutes 40 = .ok (.iload_n 1, 1) := by decide +kernel
theorem dX11_minutes_41 : decode cX11_minutes 41 = .ok (.invokevirtual 158, 3) := by decide +kernel
theorem dX11_minutes_44 : decode cX11_minutes 44 = .ok (.aload_n 0, 1) := by decide +kernel
theorem dX11_minutes_45 : decode cX11_minutes 45 = .ok (.getfield 147, 3) := by decide +kernel
theorem dX11_minutes_48 : decode cX11_minutes 48 = .ok (.ireturn, 1) := by decide +kernel
theorem dX11_isAhead_0 : decode cX11_isAhead 0 = .ok (.iload_n 0, 1) := by decide +kernel
theorem dX11_isAhead_1 : decode cX11_isAhead 1 = .ok (.i2l, 1) := by decide +kernel
theorem dX11_isAhead_2 : decode cX11_isAhead 2 = .ok (.lconst 0, 1) := by decide +kernel
theorem dX11_isAhead_3 : decode cX11_isAhead 3 = .ok (.ldc2_w 161, 3) := by decide +kernel
theorem dX11_isAhead_6 : decode cX11_isAhead 6 = .ok (.invokestatic 49, 3) := by decide +kernel
theorem dX11_isAhead_9 : decode cX11_isAhead 9 = .ok (.ireturn, 1) := by decide +kernel
theorem dX11_behind_0 : decode cX11_behind 0 = .ok (.aload_n 0, 1) := by decide +kernel
theorem dX11_behind_1 : decode cX11_behind 1 = .ok (.invokevirtual 163, 3) := by decide +kernel
theorem dX11_behind_4 : decode cX11_behind 4 = .ok (.aload_n 0, 1) := by decide +kernel
theorem dX11_behind_5 : decode cX11_behind 5 = .ok (.iload_n 2, 1) := by decide +kernel
theorem dX11_behind_6 : decode cX11_behind 6 = .ok (.invokevirtual 158, 3) := by decide +kernel
theorem dX11_behind_9 : decode cX11_behind 9 = .ok (.aload_n 0, 1) := by decide +kernel
theorem dX11_behind_10 : decode cX11_behind 10 = .ok (.iload_n 1, 1) := by decide +kernel
theorem dX11_behind_11 : decode cX11_behind 11 = .ok (.iconst (-1), 1) := by decide +kernel
theorem dX11_behind_12 : decode cX11_behind 12 = .ok (.if_icmp .ne 10, 3) := by decide +kernel
theorem dX11_behind_15 : decode cX11_behind 15 = .ok (.aload_n 0, 1) := by decide +kernel
theorem dX11_behind_16 : decode cX11_behind 16 = .ok (.invokevirtual 98, 3) := by decide +kernel
theorem dX11_behind_19 : decode cX11_behind 19 = .ok (.goto 9, 3) := by decide +kernel
theorem dX11_behind_22 : decode cX11_behind 22 = .ok (.aload_n 0, 1) := by decide +kernel
theorem dX11_behind_23 : decode cX11_behind 23 = .ok (.getfield 7, 3) := by decide +kernel
theorem dX11_behind_26 : decode cX11_behind 26 = .ok (.iload_n 1, 1) := by decide +kernel
theorem dX11_behind_27 : decode cX11_behind 27 = .ok (.iaload, 1) := by decide +kernel
theorem dX11_behind_28 : decode cX11_behind 28 = .ok (.invokevirtual 166, 3) := by decide +kernel
theorem dX11_behind_31 : decode cX11_behind 31 = .ok (.ireturn, 1) := by decide +kernel
theorem dX11_on_0 : decode cX11_on 0 = .ok (.aload_n 0, 1) := by decide +kernel
theorem dX11_on_1 : decode cX11_on 1 = .ok (.iload_n 1, 1) := by decide +kernel
theorem dX11_on_2 : decode cX11_on 2 = .ok (.invokevirtual 123, 3) := by decide +kernel
theorem dX11_on_5 : decode cX11_on 5 = .ok (.ifCond .eq 22, 3) := by decide +kernel
theorem dX11_on_8 : decode cX11_on 8 = .ok (.iload_n 2, 1) := by decide +kernel
theorem dX11_on_9 : decode cX11_on 9 = .ok (.invokestatic 169, 3) := by decide +kernel
theorem dX11_on_12 : decode cX11_on 12 = .ok (.ifCond .eq 15, 3) := by decide +kernel
theorem dX11_on_15 : decode cX11_on 15 = .ok (.iload_n 3, 1) := by decide +kernel
theorem dX11_on_16 : decode cX11_on 16 = .ok (.i2l, 1) := by decide +kernel
theorem dX11_on_17 : decode cX11_on 17 = .ok (.lconst 0, 1) := by decide +kernel
theorem dX11_on_18 : decode cX11_on 18 = .ok (.ldc2_w 57, 3) := by decide +kernel
theorem dX11_on_21 : decode cX11_on 21 = .ok (.invokestatic 49, 3) := by decide +kernel
theorem dX11_on_24 : decode cX11_on 24 = .ok (.ifCond .ne 10, 3) := by decide +kernel
theorem dX11_on_27 : decode cX11_on 27 = .ok (.aload_n 0, 1) := by decide +kernel
theorem dX11_on_28 : decode cX11_on 28 = .ok (.ldc 44, 2) := by decide +kernel
theorem dX11_on_30 : decode cX11_on 30 = .ok (.invokevirtual 76, 3) := by decide +kernel
theorem dX11_on_33 : decode cX11_on 33 = .ok (.ireturn, 1) := by decide +kernel
theorem dX11_on_34 : decode cX11_on 34 = .ok (.aload_n 0, 1) := by decide +kernel
theorem dX11_on_35 : decode cX11_on 35 = .ok (.iload_n 1, 1) := by decide +kernel
theorem dX11_on_36 : decode cX11_on 36 = .ok (.iload_n 3, 1) := by decide +kernel
theorem dX11_on_37 : decode cX11_on 37 = .ok (.ifCond .ne 7, 3) := by decide +kernel
theorem dX11_on_40 : decode cX11_on 40 = .ok (.iconst 1, 1) := by decide +kernel
theorem dX11_on_41 : decode cX11_on 41 = .ok (.goto 13, 3) := by decide +kernel
theorem dX11_on_44 : decode cX11_on 44 = .ok (.iload_n 3, 1) := by decide +kernel
theorem dX11_on_45 : decode cX11_on 45 = .ok (.iconst 1, 1) := by decide +kernel
theorem dX11_on_46 : decode cX11_on 46 = .ok (.if_icmp .ne 7, 3) := by decide +kernel
theorem dX11_on_49 : decode cX11_on 49 = .ok (.iconst 3, 1) := by decide +kernel
theorem dX11_on_50 : decode cX11_on 50 = .ok (.goto 4, 3) := by decide +kernel
theorem dX11_on_53 : decode cX11_on 53 = .ok (.iconst 4, 1) := by decide +kernel
theorem dX11_on_54 : decode cX11_on 54 = .ok (.invokestatic 45, 3) := by decide +kernel
theorem dX11_on_57 : decode cX11_on 57 = .ok (.iload_n 2, 1) := by decide +kernel
theorem dX11_on_58 : decode cX11_on 58 = .ok (.invokevirtual 172, 3) := by decide +kernel
theorem dX11_on_61 : decode cX11_on 61 = .ok (.ireturn, 1) := by decide +kernel
theorem dX11_harmony_0 : decode cX11_harmony 0 = .ok (.iload_n 1, 1) := by decide +kernel
theorem dX11_harmony_1 : decode cX11_harmony 1 = .ok (.invokestatic 169, 3) := by decide +kernel
theorem dX11_harmony_4 : decode cX11_harmony 4 = .ok (.ifCond .eq 12, 3) := by decide +kernel
theorem dX11_harmony_7 : decode cX11_harmony 7 = .ok (.aload_n 0, 1) := by decide +kernel
theorem dX11_harmony_8 : decode cX11_harmony 8 = .ok (.iconst (-1), 1) := by decide +kernel
theorem dX11_harmony_9 : decode cX11_harmony 9 = .ok (.iload_n 1, 1) := by decide +kernel
theorem dX11_harmony_10 : decode cX11_harmony 10 = .ok (.invokevirtual 172, 3) := by decide +kernel
theorem dX11_harmony_13 : decode cX11_harmony 13 = .ok (.goto 9, 3) := by decide +kernel
theorem dX11_harmony_16 : decode cX11_harmony 16 = .ok (.aload_n 0, 1) := by decide +kernel
theorem dX11_harmony_17 : decode cX11_harmony 17 = .ok (.ldc 44, 2) := by decide +kernel
theorem dX11_harmony_19 : decode cX11_harmony 19 = .ok (.invokevirtual 76, 3) := by decide +kernel
theorem dX11_harmony_22 : decode cX11_harmony 22 = .ok (.ireturn, 1) := by decide +kernel
theorem dX11_toldAt_0 : decode cX11_toldAt 0 = .ok (.aload_n 0, 1) := by decide +kernel
theorem dX11_toldAt_1 : decode cX11_toldAt 1 = .ok (.iload_n 1, 1) := by decide +kernel
theorem dX11_toldAt_2 : decode cX11_toldAt 2 = .ok (.invokevirtual 166, 3) := by decide +kernel
theorem dX11_toldAt_5 : decode cX11_toldAt 5 = .ok (.istore_n 2, 1) := by decide +kernel
theorem dX11_toldAt_6 : decode cX11_toldAt 6 = .ok (.iload_n 2, 1) := by decide +kernel
theorem dX11_toldAt_7 : decode cX11_toldAt 7 = .ok (.sipush 300, 3) := by decide +kernel
theorem dX11_toldAt_10 : decode cX11_toldAt 10 = .ok (.if_icmp .le 12, 3) := by decide +kernel
theorem dX11_toldAt_13 : decode cX11_toldAt 13 = .ok (.aload_n 0, 1) := by decide +kernel
theorem dX11_toldAt_14 : decode cX11_toldAt 14 = .ok (.ldc 175, 2) := by decide +kernel
theorem dX11_toldAt_16 : decode cX11_toldAt 16 = .ok (.invokevirtual 76, 3) := by decide +kernel
theorem dX11_toldAt_19 : decode cX11_toldAt 19 = .ok (.goto 4, 3) := by decide +kernel
theorem dX11_toldAt_22 : decode cX11_toldAt 22 = .ok (.iload_n 2, 1) := by decide +kernel
theorem dX11_toldAt_23 : decode cX11_toldAt 23 = .ok (.ireturn, 1) := by decide +kernel
theorem dX11_comes_0 : decode cX11_comes 0 = .ok (.aload_n 0, 1) := by decide +kernel
theorem dX11_comes_1 : decode cX11_comes 1 = .ok (.iload_n 1, 1) := by decide +kernel
theorem dX11_comes_2 : decode cX11_comes 2 = .ok (.invokevirtual 123, 3) := by decide +kernel
theorem dX11_comes_5 : decode cX11_comes 5 = .ok (.ifCond .eq 10, 3) := by decide +kernel
theorem dX11_comes_8 : decode cX11_comes 8 = .ok (.iload_n 2, 1) := by decide +kernel
theorem dX11_comes_9 : decode cX11_comes 9 = .ok (.invokestatic 70, 3) := by decide +kernel
theorem dX11_comes_12 : decode cX11_comes 12 = .ok (.ifCond .ne 10, 3) := by decide +kernel
theorem dX11_comes_15 : decode cX11_comes 15 = .ok (.aload_n 0, 1) := by decide +kernel
theorem dX11_comes_16 : decode cX11_comes 16 = .ok (.ldc 44, 2) := by decide +kernel
theorem dX11_comes_18 : decode cX11_comes 18 = .ok (.invokevirtual 76, 3) := by decide +kernel
theorem dX11_comes_21 : decode cX11_comes 21 = .ok (.ireturn, 1) := by decide +kernel
theorem dX11_comes_22 : decode cX11_comes 22 = .ok (.aload_n 0, 1) := by decide +kernel
theorem dX11_comes_23 : decode cX11_comes 23 = .ok (.invokevirtual 163, 3) := by decide +kernel
theorem dX11_comes_26 : decode cX11_comes 26 = .ok (.iconst 0, 1) := by decide +kernel
theorem dX11_comes_27 : decode cX11_comes 27 = .ok (.istore_n 3, 1) := by decide +kernel
theorem dX11_comes_28 : decode cX11_comes 28 = .ok (.iload_n 3, 1) := by decide +kernel
theorem dX11_comes_29 : decode cX11_comes 29 = .ok (.sipush 300, 3) := by decide +kernel
theorem dX11_comes_32 : decode cX11_comes 32 = .ok (.if_icmp .gt 23, 3) := by decide +kernel
theorem dX11_comes_35 : decode cX11_comes 35 = .ok (.aload_n 0, 1) := by decide +kernel
theorem dX11_comes_36 : decode cX11_comes 36 = .ok (.iload_n 1, 1) := by decide +kernel
theorem dX11_comes_37 : decode cX11_comes 37 = .ok (.iconst 1, 1) := by decide +kernel
theorem dX11_comes_38 : decode cX11_comes 38 = .ok (.invokevirtual 59, 3) := by decide +kernel
theorem dX11_comes_41 : decode cX11_comes 41 = .ok (.iload_n 2, 1) := by decide +kernel
theorem dX11_comes_42 : decode cX11_comes 42 = .ok (.if_icmp .eq 13, 3) := by decide +kernel
theorem dX11_comes_45 : decode cX11_comes 45 = .ok (.aload_n 0, 1) := by decide +kernel
theorem dX11_comes_46 : decode cX11_comes 46 = .ok (.invokevirtual 151, 3) := by decide +kernel
theorem dX11_comes_49 : decode cX11_comes 49 = .ok (.iinc 3 1, 3) := by decide +kernel
theorem dX11_comes_52 : decode cX11_comes 52 = .ok (.goto (-24), 3) := by decide +kernel
theorem dX11_comes_55 : decode cX11_comes 55 = .ok (.aload_n 0, 1) := by decide +kernel
theorem dX11_comes_56 : decode cX11_comes 56 = .ok (.iload_n 3, 1) := by decide +kernel
theorem dX11_comes_57 : decode cX11_comes 57 = .ok (.invokevirtual 176, 3) := by decide +kernel
theorem dX11_comes_60 : decode cX11_comes 60 = .ok (.ireturn, 1) := by decide +kernel
theorem dX11_plays_0 : decode cX11_plays 0 = .ok (.aload_n 0, 1) := by decide +kernel
theorem dX11_plays_1 : decode cX11_plays 1 = .ok (.iload_n 1, 1) := by decide +kernel
theorem dX11_plays_2 : decode cX11_plays 2 = .ok (.invokevirtual 123, 3) := by decide +kernel
theorem dX11_plays_5 : decode cX11_plays 5 = .ok (.ifCond .ne 10, 3) := by decide +kernel
theorem dX11_plays_8 : decode cX11_plays 8 = .ok (.aload_n 0, 1) := by decide +kernel
theorem dX11_plays_9 : decode cX11_plays 9 = .ok (.ldc 44, 2) := by decide +kernel
theorem dX11_plays_11 : decode cX11_plays 11 = .ok (.invokevirtual 76, 3) := by decide +kernel
theorem dX11_plays_14 : decode cX11_plays 14 = .ok (.ireturn, 1) := by decide +kernel
theorem dX11_plays_15 : decode cX11_plays 15 = .ok (.aload_n 0, 1) := by decide +kernel
theorem dX11_plays_16 : decode cX11_plays 16 = .ok (.invokevirtual 163, 3) := by decide +kernel
theorem dX11_plays_19 : decode cX11_plays 19 = .ok (.aload_n 0, 1) := by decide +kernel
theorem dX11_plays_20 : decode cX11_plays 20 = .ok (.iload_n 1, 1) := by decide +kernel
theorem dX11_plays_21 : decode cX11_plays 21 = .ok (.iconst 3, 1) := by decide +kernel
theorem dX11_plays_22 : decode cX11_plays 22 = .ok (.invokevirtual 59, 3) := by decide +kernel
theorem dX11_plays_25 : decode cX11_plays 25 = .ok (.istore_n 2, 1) := by decide +kernel
theorem dX11_plays_26 : decode cX11_plays 26 = .ok (.iconst 0, 1) := by decide +kernel
theorem dX11_plays_27 : decode cX11_plays 27 = .ok (.istore_n 3, 1) := by decide +kernel
theorem dX11_plays_28 : decode cX11_plays 28 = .ok (.iload_n 3, 1) := by decide +kernel
theorem dX11_plays_29 : decode cX11_plays 29 = .ok (.sipush 300, 3) := by decide +kernel
theorem dX11_plays_32 : decode cX11_plays 32 = .ok (.if_icmp .gt 23, 3) := by decide +kernel
theorem dX11_plays_35 : decode cX11_plays 35 = .ok (.aload_n 0, 1) := by decide +kernel
theorem dX11_plays_36 : decode cX11_plays 36 = .ok (.iload_n 1, 1) := by decide +kernel
theorem dX11_plays_37 : decode cX11_plays 37 = .ok (.iconst 3, 1) := by decide +kernel
theorem dX11_plays_38 : decode cX11_plays 38 = .ok (.invokevirtual 59, 3) := by decide +kernel
theorem dX11_plays_41 : decode cX11_plays 41 = .ok (.iload_n 2, 1) := by decide +kernel
theorem dX11_plays_42 : decode cX11_plays 42 = .ok (.if_icmp .ne 13, 3) := by decide +kernel
theorem dX11_plays_45 : decode cX11_plays 45 = .ok (.aload_n 0, 1) := by decide +kernel
theorem dX11_plays_46 : decode cX11_plays 46 = .ok (.invokevirtual 151, 3) := by decide +kernel
theorem dX11_plays_49 : decode cX11_plays 49 = .ok (.iinc 3 1, 3) := by decide +kernel
theorem dX11_plays_52 : decode cX11_plays 52 = .ok (.goto (-24), 3) := by decide +kernel
theorem dX11_plays_55 : decode cX11_plays 55 = .ok (.aload_n 0, 1) := by decide +kernel
theorem dX11_plays_56 : decode cX11_plays 56 = .ok (.iload_n 3, 1) := by decide +kernel
theorem dX11_plays_57 : decode cX11_plays 57 = .ok (.invokevirtual 176, 3) := by decide +kernel
theorem dX11_plays_60 : decode cX11_plays 60 = .ok (.ireturn, 1) := by decide +kernel
theorem dX11_meet_0 : decode cX11_meet 0 = .ok (.aload_n 0, 1) := by decide +kernel
theorem dX11_meet_1 : decode cX11_meet 1 = .ok (.iload_n 1, 1) := by decide +kernel
theorem dX11_meet_2 : decode cX11_meet 2 = .ok (.invokevirtual 123, 3) := by decide +kernel
theorem dX11_meet_5 : decode cX11_meet 5 = .ok (.ifCond .eq 16, 3) := by decide +kernel
theorem dX11_meet_8 : decode cX11_meet 8 = .ok (.aload_n 0, 1) := by decide +kernel
theorem dX11_meet_9 : decode cX11_meet 9 = .ok (.iload_n 2, 1) := by decide +kernel
theorem dX11_meet_10 : decode cX11_meet 10 = .ok (.invokevirtual 123, 3) := by decide +kernel
theorem dX11_meet_13 : decode cX11_meet 13 = .ok (.ifCond .eq 8, 3) := by decide +kernel
theorem dX11_meet_16 : decode cX11_meet 16 = .ok (.iload_n 1, 1) := by decide +kernel
theorem dX11_meet_17 : decode cX11_meet 17 = .ok (.iload_n 2, 1) := by decide +kernel
theorem dX11_meet_18 : decode cX11_meet 18 = .ok (.if_icmp .ne 10, 3) := by decide +kernel
theorem dX11_meet_21 : decode cX11_meet 21 = .ok (.aload_n 0, 1) := by decide +kernel
theorem dX11_meet_22 : decode cX11_meet 22 = .ok (.ldc 44, 2) := by decide +kernel
theorem dX11_meet_24 : decode cX11_meet 24 = .ok (.invokevirtual 76, 3) := by decide +kernel
theorem dX11_meet_27 : decode cX11_meet 27 = .ok (.ireturn, 1) := by decide +kernel
theorem dX11_meet_28 : decode cX11_meet 28 = .ok (.aload_n 0, 1) := by decide +kernel
theorem dX11_meet_29 : decode cX11_meet 29 = .ok (.invokevirtual 163, 3) := by decide +kernel
theorem dX11_meet_32 : decode cX11_meet 32 = .ok (.iconst 0, 1) := by decide +kernel
theorem dX11_meet_33 : decode cX11_meet 33 = .ok (.istore_n 3, 1) := by decide +kernel
theorem dX11_meet_34 : decode cX11_meet 34 = .ok (.iload_n 3, 1) := by decide +kernel
theorem dX11_meet_35 : decode cX11_meet 35 = .ok (.sipush 300, 3) := by decide +kernel
theorem dX11_meet_38 : decode cX11_meet 38 = .ok (.if_icmp .gt 28, 3) := by decide +kernel
theorem dX11_meet_41 : decode cX11_meet 41 = .ok (.aload_n 0, 1) := by decide +kernel
theorem dX11_meet_42 : decode cX11_meet 42 = .ok (.iload_n 1, 1) := by decide +kernel
theorem dX11_meet_43 : decode cX11_meet 43 = .ok (.iconst 1, 1) := by decide +kernel
theorem dX11_meet_44 : decode cX11_meet 44 = .ok (.invokevirtual 59, 3) := by decide +kernel
theorem dX11_meet_47 : decode cX11_meet 47 = .ok (.aload_n 0, 1) := by decide +kernel
theorem dX11_meet_48 : decode cX11_meet 48 = .ok (.iload_n 2, 1) := by decide +kernel
theorem dX11_meet_49 : decode cX11_meet 49 = .ok (.iconst 1, 1) := by decide +kernel
theorem dX11_meet_50 : decode cX11_meet 50 = .ok (.invokevirtual 59, 3) := by decide +kernel
theorem dX11_meet_53 : decode cX11_meet 53 = .ok (.if_icmp .eq 13, 3) := by decide +kernel
theorem dX11_meet_56 : decode cX11_meet 56 = .ok (.aload_n 0, 1) := by decide +kernel
theorem dX11_meet_57 : decode cX11_meet 57 = .ok (.invokevirtual 151, 3) := by decide +kernel
theorem dX11_meet_60 : decode cX11_meet 60 = .ok (.iinc 3 1, 3) := by decide +kernel
theorem dX11_meet_63 : decode cX11_meet 63 = .ok (.goto (-29), 3) := by decide +kernel
theorem dX11_meet_66 : decode cX11_meet 66 = .ok (.aload_n 0, 1) := by decide +kernel
theorem dX11_meet_67 : decode cX11_meet 67 = .ok (.iload_n 3, 1) := by decide +kernel
theorem dX11_meet_68 : decode cX11_meet 68 = .ok (.invokevirtual 176, 3) := by decide +kernel
theorem dX11_meet_71 : decode cX11_meet 71 = .ok (.ireturn, 1) := by decide +kernel
theorem dX11_isSoon_0 : decode cX11_isSoon 0 = .ok (.iload_n 0, 1) := by decide +kernel
theorem dX11_isSoon_1 : decode cX11_isSoon 1 = .ok (.i2l, 1) := by decide +kernel
theorem dX11_isSoon_2 : decode cX11_isSoon 2 = .ok (.lconst 1, 1) := by decide +kernel
theorem dX11_isSoon_3 : decode cX11_isSoon 3 = .ok (.ldc2_w 179, 3) := by decide +kernel
theorem dX11_isSoon_6 : decode cX11_isSoon 6 = .ok (.invokestatic 49, 3) := by decide +kernel
theorem dX11_isSoon_9 : decode cX11_isSoon 9 = .ok (.ireturn, 1) := by decide +kernel
theorem dX11_mostBy_0 : decode cX11_mostBy 0 = .ok (.aload_n 0, 1) := by decide +kernel
theorem dX11_mostBy_1 : decode cX11_mostBy 1 = .ok (.getfield 7, 3) := by decide +kernel
theorem dX11_mostBy_4 : decode cX11_mostBy 4 = .ok (.iload_n 1, 1) := by decide +kernel
theorem dX11_mostBy_5 : decode cX11_mostBy 5 = .ok (.iaload, 1) := by decide +kernel
theorem dX11_mostBy_6 : decode cX11_mostBy 6 = .ok (.istore 6, 2) := by decide +kernel
theorem dX11_mostBy_8 : decode cX11_mostBy 8 = .ok (.iconst 0, 1) := by decide +kernel
theorem dX11_mostBy_9 : decode cX11_mostBy 9 = .ok (.istore 7, 2) := by decide +kernel
theorem dX11_mostBy_11 : decode cX11_mostBy 11 = .ok (.ldc 181, 2) := by decide +kernel
theorem dX11_mostBy_13 : decode cX11_mostBy 13 = .ok (.istore 8, 2) := by decide +kernel
theorem dX11_mostBy_15 : decode cX11_mostBy 15 = .ok (.iconst 0, 1) := by decide +kernel
theorem dX11_mostBy_16 : decode cX11_mostBy 16 = .ok (.istore 9, 2) := by decide +kernel
theorem dX11_mostBy_18 : decode cX11_mostBy 18 = .ok (.iload 9, 2) := by decide +kernel
theorem dX11_mostBy_20 : decode cX11_mostBy 20 = .ok (.iload_n 2, 1) := by decide +kernel
theorem dX11_mostBy_21 : decode cX11_mostBy 21 = .ok (.if_icmp .gt 61, 3) := by decide +kernel
theorem dX11_mostBy_24 : decode cX11_mostBy 24 = .ok (.aload_n 0, 1) := by decide +kernel
theorem dX11_mostBy_25 : decode cX11_mostBy 25 = .ok (.getfield 7, 3) := by decide +kernel
theorem dX11_mostBy_28 : decode cX11_mostBy 28 = .ok (.iload_n 1, 1) := by decide +kernel
theorem dX11_mostBy_29 : decode cX11_mostBy 29 = .ok (.iload 9, 2) := by decide +kernel
theorem dX11_mostBy_31 : decode cX11_mostBy 31 = .ok (.iastore, 1) := by decide +kernel
theorem dX11_mostBy_32 : decode cX11_mostBy 32 = .ok (.iload 4, 2) := by decide +kernel
theorem dX11_mostBy_34 : decode cX11_mostBy 34 = .ok (.aload_n 0, 1) := by decide +kernel
theorem dX11_mostBy_35 : decode cX11_mostBy 35 = .ok (.iload_n 3, 1) := by decide +kernel
theorem dX11_mostBy_36 : decode cX11_mostBy 36 = .ok (.iload 5, 2) := by decide +kernel
theorem dX11_mostBy_38 : decode cX11_mostBy 38 = .ok (.invokevirtual 172, 3) := by decide +kernel
theorem dX11_mostBy_41 : decode cX11_mostBy 41 = .ok (.imul, 1) := by decide +kernel
theorem dX11_mostBy_42 : decode cX11_mostBy 42 = .ok (.istore 10, 2) := by decide +kernel
theorem dX11_mostBy_44 : decode cX11_mostBy 44 = .ok (.iload 10, 2) := by decide +kernel
theorem dX11_mostBy_46 : decode cX11_mostBy 46 = .ok (.iload 8, 2) := by decide +kernel
theorem dX11_mostBy_48 : decode cX11_mostBy 48 = .ok (.if_icmp .le 8, 3) := by decide +kernel
theorem dX11_mostBy_51 : decode cX11_mostBy 51 = .ok (.iload 9, 2) := by decide +kernel
theorem dX11_mostBy_53 : decode cX11_mostBy 53 = .ok (.goto 5, 3) := by decide +kernel
theorem dX11_mostBy_56 : decode cX11_mostBy 56 = .ok (.iload 7, 2) := by decide +kernel
theorem dX11_mostBy_58 : decode cX11_mostBy 58 = .ok (.istore 7, 2) := by decide +kernel
theorem dX11_mostBy_60 : decode cX11_mostBy 60 = .ok (.iload 10, 2) := by decide +kernel
theorem dX11_mostBy_62 : decode cX11_mostBy 62 = .ok (.iload 8, 2) := by decide +kernel
theorem dX11_mostBy_64 : decode cX11_mostBy 64 = .ok (.if_icmp .le 8, 3) := by decide +kernel
theorem dX11_mostBy_67 : decode cX11_mostBy 67 = .ok (.iload 10, 2) := by decide +kernel
theorem dX11_mostBy_69 : decode cX11_mostBy 69 = .ok (.goto 5, 3) := by decide +kernel
theorem dX11_mostBy_72 : decode cX11_mostBy 72 = .ok (.iload 8, 2) := by decide +kernel
theorem dX11_mostBy_74 : decode cX11_mostBy 74 = .ok (.istore 8, 2) := by decide +kernel
theorem dX11_mostBy_76 : decode cX11_mostBy 76 = .ok (.iinc 9 1, 3) := by decide +kernel
theorem dX11_mostBy_79 : decode cX11_mostBy 79 = .ok (.goto (-61), 3) := by decide +kernel
theorem dX11_mostBy_82 : decode cX11_mostBy 82 = .ok (.aload_n 0, 1) := by decide +kernel
theorem dX11_mostBy_83 : decode cX11_mostBy 83 = .ok (.getfield 7, 3) := by decide +kernel
theorem dX11_mostBy_86 : decode cX11_mostBy 86 = .ok (.iload_n 1, 1) := by decide +kernel
theorem dX11_mostBy_87 : decode cX11_mostBy 87 = .ok (.iload 6, 2) := by decide +kernel
theorem dX11_mostBy_89 : decode cX11_mostBy 89 = .ok (.iastore, 1) := by decide +kernel
theorem dX11_mostBy_90 : decode cX11_mostBy 90 = .ok (.iload 7, 2) := by decide +kernel
theorem dX11_mostBy_92 : decode cX11_mostBy 92 = .ok (.ireturn, 1) := by decide +kernel
theorem dX11_begin_0 : decode cX11_begin 0 = .ok (.aload_n 0, 1) := by decide +kernel
theorem dX11_begin_1 : decode cX11_begin 1 = .ok (.iload_n 1, 1) := by decide +kernel
theorem dX11_begin_2 : decode cX11_begin 2 = .ok (.invokevirtual 123, 3) := by decide +kernel
theorem dX11_begin_5 : decode cX11_begin 5 = .ok (.ifCond .eq 31, 3) := by decide +kernel
theorem dX11_begin_8 : decode cX11_begin 8 = .ok (.iload_n 2, 1) := by decide +kernel
theorem dX11_begin_9 : decode cX11_begin 9 = .ok (.invokestatic 182, 3) := by decide +kernel
theorem dX11_begin_12 : decode cX11_begin 12 = .ok (.ifCond .eq 24, 3) := by decide +kernel
theorem dX11_begin_15 : decode cX11_begin 15 = .ok (.aload_n 0, 1) := by decide +kernel
theorem dX11_begin_16 : decode cX11_begin 16 = .ok (.iload_n 1, 1) := by decide +kernel
theorem dX11_begin_17 : decode cX11_begin 17 = .ok (.iconst 1, 1) := by decide +kernel
theorem dX11_begin_18 : decode cX11_begin 18 = .ok (.invokestatic 45, 3) := by decide +kernel
theorem dX11_begin_21 : decode cX11_begin 21 = .ok (.bipush 11, 2) := by decide +kernel
theorem dX11_begin_23 : decode cX11_begin 23 = .ok (.iload_n 1, 1) := by decide +kernel
theorem dX11_begin_24 : decode cX11_begin 24 = .ok (.iconst 3, 1) := by decide +kernel
theorem dX11_begin_25 : decode cX11_begin 25 = .ok (.invokestatic 45, 3) := by decide +kernel
theorem dX11_begin_28 : decode cX11_begin 28 = .ok (.iconst 1, 1) := by decide +kernel
theorem dX11_begin_29 : decode cX11_begin 29 = .ok (.iload_n 2, 1) := by decide +kernel
theorem dX11_begin_30 : decode cX11_begin 30 = .ok (.invokevirtual 185, 3) := by decide +kernel
theorem dX11_begin_33 : decode cX11_begin 33 = .ok (.goto 9, 3) := by decide +kernel
theorem dX11_begin_36 : decode cX11_begin 36 = .ok (.aload_n 0, 1) := by decide +kernel
theorem dX11_begin_37 : decode cX11_begin 37 = .ok (.ldc 44, 2) := by decide +kernel
theorem dX11_begin_39 : decode cX11_begin 39 = .ok (.invokevirtual 76, 3) := by decide +kernel
theorem dX11_begin_42 : decode cX11_begin 42 = .ok (.ireturn, 1) := by decide +kernel
theorem dX11_kind_0 : decode cX11_kind 0 = .ok (.aload_n 0, 1) := by decide +kernel
theorem dX11_kind_1 : decode cX11_kind 1 = .ok (.iload_n 1, 1) := by decide +kernel
theorem dX11_kind_2 : decode cX11_kind 2 = .ok (.invokevirtual 123, 3) := by decide +kernel
theorem dX11_kind_5 : decode cX11_kind 5 = .ok (.ifCond .eq 30, 3) := by decide +kernel
theorem dX11_kind_8 : decode cX11_kind 8 = .ok (.iload_n 2, 1) := by decide +kernel
theorem dX11_kind_9 : decode cX11_kind 9 = .ok (.invokestatic 182, 3) := by decide +kernel
theorem dX11_kind_12 : decode cX11_kind 12 = .ok (.ifCond .eq 23, 3) := by decide +kernel
theorem dX11_kind_15 : decode cX11_kind 15 = .ok (.aload_n 0, 1) := by decide +kernel
theorem dX11_kind_16 : decode cX11_kind 16 = .ok (.iload_n 1, 1) := by decide +kernel
theorem dX11_kind_17 : decode cX11_kind 17 = .ok (.iconst 0, 1) := by decide +kernel
theorem dX11_kind_18 : decode cX11_kind 18 = .ok (.invokestatic 45, 3) := by decide +kernel
theorem dX11_kind_21 : decode cX11_kind 21 = .ok (.iconst 5, 1) := by decide +kernel
theorem dX11_kind_22 : decode cX11_kind 22 = .ok (.iload_n 1, 1) := by decide +kernel
theorem dX11_kind_23 : decode cX11_kind 23 = .ok (.iconst 3, 1) := by decide +kernel
theorem dX11_kind_24 : decode cX11_kind 24 = .ok (.invokestatic 45, 3) := by decide +kernel
theorem dX11_kind_27 : decode cX11_kind 27 = .ok (.iconst 1, 1) := by decide +kernel
theorem dX11_kind_28 : decode cX11_kind 28 = .ok (.iload_n 2, 1) := by decide +kernel
theorem dX11_kind_29 : decode cX11_kind 29 = .ok (.invokevirtual 185, 3) := by decide +kernel
theorem dX11_kind_32 : decode cX11_kind 32 = .ok (.goto 9, 3) := by decide +kernel
theorem dX11_kind_35 : decode cX11_kind 35 = .ok (.aload_n 0, 1) := by decide +kernel
theorem dX11_kind_36 : decode cX11_kind 36 = .ok (.ldc 44, 2) := by decide +kernel
theorem dX11_kind_38 : decode cX11_kind 38 = .ok (.invokevirtual 76, 3) := by decide +kernel
theorem dX11_kind_41 : decode cX11_kind 41 = .ok (.ireturn, 1) := by decide +kernel
theorem dX11_quick_0 : decode cX11_quick 0 = .ok (.aload_n 0, 1) := by decide +kernel
theorem dX11_quick_1 : decode cX11_quick 1 = .ok (.iload_n 1, 1) := by decide +kernel
theorem dX11_quick_2 : decode cX11_quick 2 = .ok (.invokevirtual 123, 3) := by decide +kernel
theorem dX11_quick_5 : decode cX11_quick 5 = .ok (.ifCond .eq 22, 3) := by decide +kernel
theorem dX11_quick_8 : decode cX11_quick 8 = .ok (.iload_n 2, 1) := by decide +kernel
theorem dX11_quick_9 : decode cX11_quick 9 = .ok (.invokestatic 182, 3) := by decide +kernel
theorem dX11_quick_12 : decode cX11_quick 12 = .ok (.ifCond .eq 15, 3) := by decide +kernel
theorem dX11_quick_15 : decode cX11_quick 15 = .ok (.iload_n 3, 1) := by decide +kernel
theorem dX11_quick_16 : decode cX11_quick 16 = .ok (.i2l, 1) := by decide +kernel
theorem dX11_quick_17 : decode cX11_quick 17 = .ok (.lconst 0, 1) := by decide +kernel
theorem dX11_quick_18 : decode cX11_quick 18 = .ok (.ldc2_w 136, 3) := by decide +kernel
theorem dX11_quick_21 : decode cX11_quick 21 = .ok (.invokestatic 49, 3) := by decide +kernel
theorem dX11_quick_24 : decode cX11_quick 24 = .ok (.ifCond .ne 10, 3) := by decide +kernel
theorem dX11_quick_27 : decode cX11_quick 27 = .ok (.aload_n 0, 1) := by decide +kernel
theorem dX11_quick_28 : decode cX11_quick 28 = .ok (.ldc 44, 2) := by decide +kernel
theorem dX11_quick_30 : decode cX11_quick 30 = .ok (.invokevirtual 76, 3) := by decide +kernel
theorem dX11_quick_33 : decode cX11_quick 33 = .ok (.ireturn, 1) := by decide +kernel
theorem dX11_quick_34 : decode cX11_quick 34 = .ok (.iload_n 1, 1) := by decide +kernel
theorem dX11_quick_35 : decode cX11_quick 35 = .ok (.iconst 2, 1) := by decide +kernel
theorem dX11_quick_36 : decode cX11_quick 36 = .ok (.invokestatic 45, 3) := by decide +kernel
theorem dX11_quick_39 : decode cX11_quick 39 = .ok (.istore 4, 2) := by decide +kernel
theorem dX11_quick_41 : decode cX11_quick 41 = .ok (.aload_n 0, 1) := by decide +kernel
theorem dX11_quick_42 : decode cX11_quick 42 = .ok (.getfield 7, 3) := by decide +kernel
theorem dX11_quick_45 : decode cX11_quick 45 = .ok (.iload 4, 2) := by decide +kernel
theorem dX11_quick_47 : decode cX11_quick 47 = .ok (.iaload, 1) := by decide +kernel
theorem dX11_quick_48 : decode cX11_quick 48 = .ok (.istore 5, 2) := by decide +kernel
theorem dX11_quick_50 : decode cX11_quick 50 = .ok (.iconst 0, 1) := by decide +kernel
theorem dX11_quick_51 : decode cX11_quick 51 = .ok (.istore 6, 2) := by decide +kernel
theorem dX11_quick_53 : decode cX11_quick 53 = .ok (.iconst 1, 1) := by decide +kernel
theorem dX11_quick_54 : decode cX11_quick 54 = .ok (.istore 7, 2) := by decide +kernel
theorem dX11_quick_56 : decode cX11_quick 56 = .ok (.iload 7, 2) := by decide +kernel
theorem dX11_quick_58 : decode cX11_quick 58 = .ok (.iconst 4, 1) := by decide +kernel
theorem dX11_quick_59 : decode cX11_quick 59 = .ok (.if_icmp .gt 45, 3) := by decide +kernel
theorem dX11_quick_62 : decode cX11_quick 62 = .ok (.iload 6, 2) := by decide +kernel
theorem dX11_quick_64 : decode cX11_quick 64 = .ok (.ifCond .ne 40, 3) := by decide +kernel
theorem dX11_quick_67 : decode cX11_quick 67 = .ok (.aload_n 0, 1) := by decide +kernel
theorem dX11_quick_68 : decode cX11_quick 68 = .ok (.getfield 7, 3) := by decide +kernel
theorem dX11_quick_71 : decode cX11_quick 71 = .ok (.iload 4, 2) := by decide +kernel
theorem dX11_quick_73 : decode cX11_quick 73 = .ok (.iload 7, 2) := by decide +kernel
theorem dX11_quick_75 : decode cX11_quick 75 = .ok (.iastore, 1) := by decide +kernel
theorem dX11_quick_76 : decode cX11_quick 76 = .ok (.aload_n 0, 1) := by decide +kernel
theorem dX11_quick_77 : decode cX11_quick 77 = .ok (.iload_n 1, 1) := by decide +kernel
theorem dX11_quick_78 : decode cX11_quick 78 = .ok (.iconst 3, 1) := by decide +kernel
theorem dX11_quick_79 : decode cX11_quick 79 = .ok (.invokestatic 45, 3) := by decide +kernel
theorem dX11_quick_82 : decode cX11_quick 82 = .ok (.iload_n 2, 1) := by decide +kernel
theorem dX11_quick_83 : decode cX11_quick 83 = .ok (.invokevirtual 172, 3) := by decide +kernel
theorem dX11_quick_86 : decode cX11_quick 86 = .ok (.iload_n 3, 1) := by decide +kernel
theorem dX11_quick_87 : decode cX11_quick 87 = .ok (.if_icmp .lt 8, 3) := by decide +kernel
theorem dX11_quick_90 : decode cX11_quick 90 = .ok (.iload 7, 2) := by decide +kernel
theorem dX11_quick_92 : decode cX11_quick 92 = .ok (.goto 4, 3) := by decide +kernel
theorem dX11_quick_95 : decode cX11_quick 95 = .ok (.iconst 0, 1) := by decide +kernel
theorem dX11_quick_96 : decode cX11_quick 96 = .ok (.istore 6, 2) := by decide +kernel
theorem dX11_quick_98 : decode cX11_quick 98 = .ok (.iinc 7 1, 3) := by decide +kernel
theorem dX11_quick_101 : decode cX11_quick 101 = .ok (.goto (-45), 3) := by decide +kernel
theorem dX11_quick_104 : decode cX11_quick 104 = .ok (.aload_n 0, 1) := by decide +kernel
theorem dX11_quick_105 : decode cX11_quick 105 = .ok (.getfield 7, 3) := by decide +kernel
theorem dX11_quick_108 : decode cX11_quick 108 = .ok (.iload 4, 2) := by decide +kernel
theorem dX11_quick_110 : decode cX11_quick 110 = .ok (.iload 5, 2) := by decide +kernel
theorem dX11_quick_112 : decode cX11_quick 112 = .ok (.iastore, 1) := by decide +kernel
theorem dX11_quick_113 : decode cX11_quick 113 = .ok (.iload 6, 2) := by decide +kernel
theorem dX11_quick_115 : decode cX11_quick 115 = .ok (.ifCond .ne 12, 3) := by decide +kernel
theorem dX11_quick_118 : decode cX11_quick 118 = .ok (.aload_n 0, 1) := by decide +kernel
theorem dX11_quick_119 : decode cX11_quick 119 = .ok (.ldc 175, 2) := by decide +kernel
theorem dX11_quick_121 : decode cX11_quick 121 = .ok (.invokevirtual 76, 3) := by decide +kernel
theorem dX11_quick_124 : decode cX11_quick 124 = .ok (.goto 5, 3) := by decide +kernel
theorem dX11_quick_127 : decode cX11_quick 127 = .ok (.iload 6, 2) := by decide +kernel
theorem dX11_quick_129 : decode cX11_quick 129 = .ok (.ireturn, 1) := by decide +kernel
theorem dX11_compose_0 : decode cX11_compose 0 = .ok (.iload_n 1, 1) := by decide +kernel
theorem dX11_compose_1 : decode cX11_compose 1 = .ok (.invokestatic 66, 3) := by decide +kernel
theorem dX11_compose_4 : decode cX11_compose 4 = .ok (.ifCond .eq 25, 3) := by decide +kernel
theorem dX11_compose_7 : decode cX11_compose 7 = .ok (.iload_n 2, 1) := by decide +kernel
theorem dX11_compose_8 : decode cX11_compose 8 = .ok (.invokestatic 182, 3) := by decide +kernel
theorem dX11_compose_11 : decode cX11_compose 11 = .ok (.ifCond .eq 18, 3) := by decide +kernel
theorem dX11_compose_14 : decode cX11_compose 14 = .ok (.aload_n 0, 1) := by decide +kernel
theorem dX11_compose_15 : decode cX11_compose 15 = .ok (.iconst 2, 1) := by decide +kernel
theorem dX11_compose_16 : decode cX11_compose 16 = .ok (.iload_n 1, 1) := by decide +kernel
theorem dX11_compose_17 : decode cX11_compose 17 = .ok (.iadd, 1) := by decide +kernel
theorem dX11_compose_18 : decode cX11_compose 18 = .ok (.bipush 11, 2) := by decide +kernel
theorem dX11_compose_20 : decode cX11_compose 20 = .ok (.iconst (-1), 1) := by decide +kernel
theorem dX11_compose_21 : decode cX11_compose 21 = .ok (.iconst 1, 1) := by decide +kernel
theorem dX11_compose_22 : decode cX11_compose 22 = .ok (.iload_n 2, 1) := by decide +kernel
theorem dX11_compose_23 : decode cX11_compose 23 = .ok (.invokevirtual 185, 3) := by decide +kernel
theorem dX11_compose_26 : decode cX11_compose 26 = .ok (.goto 9, 3) := by decide +kernel
theorem dX11_compose_29 : decode cX11_compose 29 = .ok (.aload_n 0, 1) := by decide +kernel
theorem dX11_compose_30 : decode cX11_compose 30 = .ok (.ldc 44, 2) := by decide +kernel
theorem dX11_compose_32 : decode cX11_compose 32 = .ok (.invokevirtual 76, 3) := by decide +kernel
theorem dX11_compose_35 : decode cX11_compose 35 = .ok (.ireturn, 1) := by decide +kernel
theorem dX11_deceive_0 : decode cX11_deceive 0 = .ok (.iload_n 1, 1) := by decide +kernel
theorem dX11_deceive_1 : decode cX11_deceive 1 = .ok (.invokestatic 79, 3) := by decide +kernel
theorem dX11_deceive_4 : decode cX11_deceive 4 = .ok (.ifCond .eq 31, 3) := by decide +kernel
theorem dX11_deceive_7 : decode cX11_deceive 7 = .ok (.iload_n 2, 1) := by decide +kernel
theorem dX11_deceive_8 : decode cX11_deceive 8 = .ok (.i2l, 1) := by decide +kernel
theorem dX11_deceive_9 : decode cX11_deceive 9 = .ok (.lconst 1, 1) := by decide +kernel
theorem dX11_deceive_10 : decode cX11_deceive 10 = .ok (.ldc2_w 189, 3) := by decide +kernel
theorem dX11_deceive_13 : decode cX11_deceive 13 = .ok (.invokestatic 49, 3) := by decide +kernel
theorem dX11_deceive_16 : decode cX11_deceive 16 = .ok (.ifCond .eq 19, 3) := by decide +kernel
theorem dX11_deceive_19 : decode cX11_deceive 19 = .ok (.aload_n 0, 1) := by decide +kernel
theorem dX11_deceive_20 : decode cX11_deceive 20 = .ok (.bipush 8, 2) := by decide +kernel
theorem dX11_deceive_22 : decode cX11_deceive 22 = .ok (.iload_n 1, 1) := by decide +kernel
theorem dX11_deceive_23 : decode cX11_deceive 23 = .ok (.iadd, 1) := by decide +kernel
theorem dX11_deceive_24 : decode cX11_deceive 24 = .ok (.bipush 47, 2) := by decide +kernel
theorem dX11_deceive_26 : decode cX11_deceive 26 = .ok (.iconst (-1), 1) := by decide +kernel
theorem dX11_deceive_27 : decode cX11_deceive 27 = .ok (.iconst (-1), 1) := by decide +kernel
theorem dX11_deceive_28 : decode cX11_deceive 28 = .ok (.iload_n 2, 1) := by decide +kernel
theorem dX11_deceive_29 : decode cX11_deceive 29 = .ok (.invokevirtual 185, 3) := by decide +kernel
theorem dX11_deceive_32 : decode cX11_deceive 32 = .ok (.goto 9, 3) := by decide +kernel
theorem dX11_deceive_35 : decode cX11_deceive 35 = .ok (.aload_n 0, 1) := by decide +kernel
theorem dX11_deceive_36 : decode cX11_deceive 36 = .ok (.ldc 44, 2) := by decide +kernel
theorem dX11_deceive_38 : decode cX11_deceive 38 = .ok (.invokevirtual 76, 3) := by decide +kernel
theorem dX11_deceive_41 : decode cX11_deceive 41 = .ok (.ireturn, 1) := by decide +kernel
theorem dX11_worst_0 : decode cX11_worst 0 = .ok (.iload_n 1, 1) := by decide +kernel
theorem dX11_worst_1 : decode cX11_worst 1 = .ok (.invokestatic 169, 3) := by decide +kernel
theorem dX11_worst_4 : decode cX11_worst 4 = .ok (.ifCond .ne 10, 3) := by decide +kernel
theorem dX11_worst_7 : decode cX11_worst 7 = .ok (.aload_n 0, 1) := by decide +kernel
theorem dX11_worst_8 : decode cX11_worst 8 = .ok (.ldc 44, 2) := by decide +kernel
theorem dX11_worst_10 : decode cX11_worst 10 = .ok (.invokevirtual 76, 3) := by decide +kernel
theorem dX11_worst_13 : decode cX11_worst 13 = .ok (.ireturn, 1) := by decide +kernel
theorem dX11_worst_14 : decode cX11_worst 14 = .ok (.aload_n 0, 1) := by decide +kernel
theorem dX11_worst_15 : decode cX11_worst 15 = .ok (.getfield 7, 3) := by decide +kernel
theorem dX11_worst_18 : decode cX11_worst 18 = .ok (.iconst 1, 1) := by decide +kernel
theorem dX11_worst_19 : decode cX11_worst 19 = .ok (.iaload, 1) := by decide +kernel
theorem dX11_worst_20 : decode cX11_worst 20 = .ok (.ifCond .ne 10, 3) := by decide +kernel
theorem dX11_worst_23 : decode cX11_worst 23 = .ok (.aload_n 0, 1) := by decide +kernel
theorem dX11_worst_24 : decode cX11_worst 24 = .ok (.ldc 175, 2) := by decide +kernel
theorem dX11_worst_26 : decode cX11_worst 26 = .ok (.invokevirtual 76, 3) := by decide +kernel
theorem dX11_worst_29 : decode cX11_worst 29 = .ok (.ireturn, 1) := by decide +kernel
theorem dX11_worst_30 : decode cX11_worst 30 = .ok (.aload_n 0, 1) := by decide +kernel
theorem dX11_worst_31 : decode cX11_worst 31 = .ok (.invokevirtual 163, 3) := by decide +kernel
theorem dX11_worst_34 : decode cX11_worst 34 = .ok (.aload_n 0, 1) := by decide +kernel
theorem dX11_worst_35 : decode cX11_worst 35 = .ok (.iload_n 1, 1) := by decide +kernel
theorem dX11_worst_36 : decode cX11_worst 36 = .ok (.invokevirtual 158, 3) := by decide +kernel
theorem dX11_worst_39 : decode cX11_worst 39 = .ok (.iconst 0, 1) := by decide +kernel
theorem dX11_worst_40 : decode cX11_worst 40 = .ok (.istore_n 2, 1) := by decide +kernel
theorem dX11_worst_41 : decode cX11_worst 41 = .ok (.iconst 1, 1) := by decide +kernel
theorem dX11_worst_42 : decode cX11_worst 42 = .ok (.istore_n 3, 1) := by decide +kernel
theorem dX11_worst_43 : decode cX11_worst 43 = .ok (.iload_n 3, 1) := by decide +kernel
theorem dX11_worst_44 : decode cX11_worst 44 = .ok (.aload_n 0, 1) := by decide +kernel
theorem dX11_worst_45 : decode cX11_worst 45 = .ok (.getfield 7, 3) := by decide +kernel
theorem dX11_worst_48 : decode cX11_worst 48 = .ok (.iconst 1, 1) := by decide +kernel
theorem dX11_worst_49 : decode cX11_worst 49 = .ok (.iaload, 1) := by decide +kernel
theorem dX11_worst_50 : decode cX11_worst 50 = .ok (.if_icmp .ge 30, 3) := by decide +kernel
theorem dX11_worst_53 : decode cX11_worst 53 = .ok (.aload_n 0, 1) := by decide +kernel
theorem dX11_worst_54 : decode cX11_worst 54 = .ok (.iload_n 3, 1) := by decide +kernel
theorem dX11_worst_55 : decode cX11_worst 55 = .ok (.iconst 4, 1) := by decide +kernel
theorem dX11_worst_56 : decode cX11_worst 56 = .ok (.invokevirtual 59, 3) := by decide +kernel
theorem dX11_worst_59 : decode cX11_worst 59 = .ok (.aload_n 0, 1) := by decide +kernel
theorem dX11_worst_60 : decode cX11_worst 60 = .ok (.iload_n 2, 1) := by decide +kernel
theorem dX11_worst_61 : decode cX11_worst 61 = .ok (.iconst 4, 1) := by decide +kernel
theorem dX11_worst_62 : decode cX11_worst 62 = .ok (.invokevirtual 59, 3) := by decide +kernel
theorem dX11_worst_65 : decode cX11_worst 65 = .ok (.if_icmp .le 7, 3) := by decide +kernel
theorem dX11_worst_68 : decode cX11_worst 68 = .ok (.iload_n 3, 1) := by decide +kernel
theorem dX11_worst_69 : decode cX11_worst 69 = .ok (.goto 4, 3) := by decide +kernel
theorem dX11_worst_72 : decode cX11_worst 72 = .ok (.iload_n 2, 1) := by decide +kernel
theorem dX11_worst_73 : decode cX11_worst 73 = .ok (.istore_n 2, 1) := by decide +kernel
theorem dX11_worst_74 : decode cX11_worst 74 = .ok (.iinc 3 1, 3) := by decide +kernel
theorem dX11_worst_77 : decode cX11_worst 77 = .ok (.goto (-34), 3) := by decide +kernel
theorem dX11_worst_80 : decode cX11_worst 80 = .ok (.aload_n 0, 1) := by decide +kernel
theorem dX11_worst_81 : decode cX11_worst 81 = .ok (.iload_n 2, 1) := by decide +kernel
theorem dX11_worst_82 : decode cX11_worst 82 = .ok (.invokevirtual 166, 3) := by decide +kernel
theorem dX11_worst_85 : decode cX11_worst 85 = .ok (.ireturn, 1) := by decide +kernel
theorem dX11_feed_0 : decode cX11_feed 0 = .ok (.iload_n 2, 1) := by decide +kernel
theorem dX11_feed_1 : decode cX11_feed 1 = .ok (.i2l, 1) := by decide +kernel
theorem dX11_feed_2 : decode cX11_feed 2 = .ok (.lconst 1, 1) := by decide +kernel
theorem dX11_feed_3 : decode cX11_feed 3 = .ok (.ldc2_w 134, 3) := by decide +kernel
theorem dX11_feed_6 : decode cX11_feed 6 = .ok (.invokestatic 49, 3) := by decide +kernel
theorem dX11_feed_9 : decode cX11_feed 9 = .ok (.ifCond .ne 10, 3) := by decide +kernel
theorem dX11_feed_12 : decode cX11_feed 12 = .ok (.aload_n 0, 1) := by decide +kernel
theorem dX11_feed_13 : decode cX11_feed 13 = .ok (.ldc 44, 2) := by decide +kernel
theorem dX11_feed_15 : decode cX11_feed 15 = .ok (.invokevirtual 76, 3) := by decide +kernel
theorem dX11_feed_18 : decode cX11_feed 18 = .ok (.ireturn, 1) := by decide +kernel
theorem dX11_feed_19 : decode cX11_feed 19 = .ok (.aload_n 0, 1) := by decide +kernel
theorem dX11_feed_20 : decode cX11_feed 20 = .ok (.getfield 191, 3) := by decide +kernel
theorem dX11_feed_23 : decode cX11_feed 23 = .ok (.iload_n 2, 1) := by decide +kernel
theorem dX11_feed_24 : decode cX11_feed 24 = .ok (.iadd, 1) := by decide +kernel
theorem dX11_feed_25 : decode cX11_feed 25 = .ok (.bipush 120, 2) := by decide +kernel
theorem dX11_feed_27 : decode cX11_feed 27 = .ok (.if_icmp .le 10, 3) := by decide +kernel
theorem dX11_feed_30 : decode cX11_feed 30 = .ok (.aload_n 0, 1) := by decide +kernel
theorem dX11_feed_31 : decode cX11_feed 31 = .ok (.ldc 119, 2) := by decide +kernel
theorem dX11_feed_33 : decode cX11_feed 33 = .ok (.invokevirtual 76, 3) := by decide +kernel
theorem dX11_feed_36 : decode cX11_feed 36 = .ok (.ireturn, 1) := by decide +kernel
theorem dX11_feed_37 : decode cX11_feed 37 = .ok (.iload_n 2, 1) := by decide +kernel
theorem dX11_feed_38 : decode cX11_feed 38 = .ok (.iconst 1, 1) := by decide +kernel
theorem dX11_feed_39 : decode cX11_feed 39 = .ok (.isub, 1) := by decide +kernel
theorem dX11_feed_40 : decode cX11_feed 40 = .ok (.istore_n 3, 1) := by decide +kernel
theorem dX11_feed_41 : decode cX11_feed 41 = .ok (.iload_n 3, 1) := by decide +kernel
theorem dX11_feed_42 : decode cX11_feed 42 = .ok (.ifCond .lt 38, 3) := by decide +kernel
theorem dX11_feed_45 : decode cX11_feed 45 = .ok (.aload_n 0, 1) := by decide +kernel
theorem dX11_feed_46 : decode cX11_feed 46 = .ok (.getfield 28, 3) := by decide +kernel
theorem dX11_feed_49 : decode cX11_feed 49 = .ok (.aload_n 0, 1) := by decide +kernel
theorem dX11_feed_50 : decode cX11_feed 50 = .ok (.getfield 191, 3) := by decide +kernel
theorem dX11_feed_53 : decode cX11_feed 53 = .ok (.iload_n 1, 1) := by decide +kernel
theorem dX11_feed_54 : decode cX11_feed 54 = .ok (.bipush 8, 2) := by decide +kernel
theorem dX11_feed_56 : decode cX11_feed 56 = .ok (.iload_n 3, 1) := by decide +kernel
theorem dX11_feed_57 : decode cX11_feed 57 = .ok (.imul, 1) := by decide +kernel
theorem dX11_feed_58 : decode cX11_feed 58 = .ok (.ishr, 1) := by decide +kernel
theorem dX11_feed_59 : decode cX11_feed 59 = .ok (.sipush 255, 3) := by decide +kernel
theorem dX11_feed_62 : decode cX11_feed 62 = .ok (.iand, 1) := by decide +kernel
theorem dX11_feed_63 : decode cX11_feed 63 = .ok (.iastore, 1) := by decide +kernel
theorem dX11_feed_64 : decode cX11_feed 64 = .ok (.aload_n 0, 1) := by decide +kernel
theorem dX11_feed_65 : decode cX11_feed 65 = .ok (.dup, 1) := by decide +kernel
theorem dX11_feed_66 : decode cX11_feed 66 = .ok (.getfield 191, 3) := by decide +kernel
theorem dX11_feed_69 : decode cX11_feed 69 = .ok (.iconst 1, 1) := by decide +kernel
theorem dX11_feed_70 : decode cX11_feed 70 = .ok (.iadd, 1) := by decide +kernel
theorem dX11_feed_71 : decode cX11_feed 71 = .ok (.putfield 191, 3) := by decide +kernel
theorem dX11_feed_74 : decode cX11_feed 74 = .ok (.iinc 3 (-1), 3) := by decide +kernel
theorem dX11_feed_77 : decode cX11_feed 77 = .ok (.goto (-36), 3) := by decide +kernel
theorem dX11_feed_80 : decode cX11_feed 80 = .ok (.aload_n 0, 1) := by decide +kernel
theorem dX11_feed_81 : decode cX11_feed 81 = .ok (.getfield 191, 3) := by decide +kernel
theorem dX11_feed_84 : decode cX11_feed 84 = .ok (.ireturn, 1) := by decide +kernel
theorem dX11_wipe_0 : decode cX11_wipe 0 = .ok (.aload_n 0, 1) := by decide +kernel
theorem dX11_wipe_1 : decode cX11_wipe 1 = .ok (.getfield 191, 3) := by decide +kernel
theorem dX11_wipe_4 : decode cX11_wipe 4 = .ok (.istore_n 1, 1) := by decide +kernel
theorem dX11_wipe_5 : decode cX11_wipe 5 = .ok (.aload_n 0, 1) := by decide +kernel
theorem dX11_wipe_6 : decode cX11_wipe 6 = .ok (.iconst 0, 1) := by decide +kernel
theorem dX11_wipe_7 : decode cX11_wipe 7 = .ok (.putfield 191, 3) := by decide +kernel
theorem dX11_wipe_10 : decode cX11_wipe 10 = .ok (.iload_n 1, 1) := by decide +kernel
theorem dX11_wipe_11 : decode cX11_wipe 11 = .ok (.ireturn, 1) := by decide +kernel
theorem dX11_byteAt_0 : decode cX11_byteAt 0 = .ok (.iload_n 1, 1) := by decide +kernel
theorem dX11_byteAt_1 : decode cX11_byteAt 1 = .ok (.aload_n 0, 1) := by decide +kernel
theorem dX11_byteAt_2 : decode cX11_byteAt 2 = .ok (.getfield 191, 3) := by decide +kernel
theorem dX11_byteAt_5 : decode cX11_byteAt 5 = .ok (.if_icmp .ge 12, 3) := by decide +kernel
theorem dX11_byteAt_8 : decode cX11_byteAt 8 = .ok (.aload_n 0, 1) := by decide +kernel
theorem dX11_byteAt_9 : decode cX11_byteAt 9 = .ok (.getfield 28, 3) := by decide +kernel
theorem dX11_byteAt_12 : decode cX11_byteAt 12 = .ok (.iload_n 1, 1) := by decide +kernel
theorem dX11_byteAt_13 : decode cX11_byteAt 13 = .ok (.iaload, 1) := by decide +kernel
theorem dX11_byteAt_14 : decode cX11_byteAt 14 = .ok (.goto 4, 3) := by decide +kernel
theorem dX11_byteAt_17 : decode cX11_byteAt 17 = .ok (.iconst (-1), 1) := by decide +kernel
theorem dX11_byteAt_18 : decode cX11_byteAt 18 = .ok (.ireturn, 1) := by decide +kernel
theorem dX11_isLetter_0 : decode cX11_isLetter 0 = .ok (.iload_n 0, 1) := by decide +kernel
theorem dX11_isLetter_1 : decode cX11_isLetter 1 = .ok (.i2l, 1) := by decide +kernel
theorem dX11_isLetter_2 : decode cX11_isLetter 2 = .ok (.ldc2_w 194, 3) := by decide +kernel
theorem dX11_isLetter_5 : decode cX11_isLetter 5 = .ok (.ldc2_w 196, 3) := by decide +kernel
theorem dX11_isLetter_8 : decode cX11_isLetter 8 = .ok (.invokestatic 49, 3) := by decide +kernel
theorem dX11_isLetter_11 : decode cX11_isLetter 11 = .ok (.ireturn, 1) := by decide +kernel
theorem dX11_isDigit_0 : decode cX11_isDigit 0 = .ok (.iload_n 0, 1) := by decide +kernel
theorem dX11_isDigit_1 : decode cX11_isDigit 1 = .ok (.i2l, 1) := by decide +kernel
theorem dX11_isDigit_2 : decode cX11_isDigit 2 = .ok (.ldc2_w 198, 3) := by decide +kernel
theorem dX11_isDigit_5 : decode cX11_isDigit 5 = .ok (.ldc2_w 200, 3) := by decide +kernel
theorem dX11_isDigit_8 : decode cX11_isDigit 8 = .ok (.invokestatic 49, 3) := by decide +kernel
theorem dX11_isDigit_11 : decode cX11_isDigit 11 = .ok (.ireturn, 1) := by decide +kernel
theorem dX11_token_0 : decode cX11_token 0 = .ok (.aload_n 0, 1) := by decide +kernel
theorem dX11_token_1 : decode cX11_token 1 = .ok (.aload_n 0, 1) := by decide +kernel
theorem dX11_token_2 : decode cX11_token 2 = .ok (.getfield 202, 3) := by decide +kernel
theorem dX11_token_5 : decode cX11_token 5 = .ok (.putfield 205, 3) := by decide +kernel
theorem dX11_token_8 : decode cX11_token 8 = .ok (.aload_n 0, 1) := by decide +kernel
theorem dX11_token_9 : decode cX11_token 9 = .ok (.aload_n 0, 1) := by decide +kernel
theorem dX11_token_10 : decode cX11_token 10 = .ok (.getfield 205, 3) := by decide +kernel
theorem dX11_token_13 : decode cX11_token 13 = .ok (.invokevirtual 208, 3) := by decide +kernel
theorem dX11_token_16 : decode cX11_token 16 = .ok (.bipush 32, 2) := by decide +kernel
theorem dX11_token_18 : decode cX11_token 18 = .ok (.if_icmp .ne 16, 3) := by decide +kernel
theorem dX11_token_21 : decode cX11_token 21 = .ok (.aload_n 0, 1) := by decide +kernel
theorem dX11_token_22 : decode cX11_token 22 = .ok (.dup, 1) := by decide +kernel
theorem dX11_token_23 : decode cX11_token 23 = .ok (.getfield 205, 3) := by decide +kernel
theorem dX11_token_26 : decode cX11_token 26 = .ok (.iconst 1, 1) := by decide +kernel
theorem dX11_token_27 : decode cX11_token 27 = .ok (.iadd, 1) := by decide +kernel
theorem dX11_token_28 : decode cX11_token 28 = .ok (.putfield 205, 3) := by decide +kernel
theorem dX11_token_31 : decode cX11_token 31 = .ok (.goto (-23), 3) := by decide +kernel
theorem dX11_token_34 : decode cX11_token 34 = .ok (.aload_n 0, 1) := by decide +kernel
theorem dX11_token_35 : decode cX11_token 35 = .ok (.aload_n 0, 1) := by decide +kernel
theorem dX11_token_36 : decode cX11_token 36 = .ok (.getfield 205, 3) := by decide +kernel
theorem dX11_token_39 : decode cX11_token 39 = .ok (.invokevirtual 208, 3) := by decide +kernel
theorem dX11_token_42 : decode cX11_token 42 = .ok (.invokestatic 211, 3) := by decide +kernel
theorem dX11_token_45 : decode cX11_token 45 = .ok (.istore_n 1, 1) := by decide +kernel
theorem dX11_token_46 : decode cX11_token 46 = .ok (.aload_n 0, 1) := by decide +kernel
theorem dX11_token_47 : decode cX11_token 47 = .ok (.aload_n 0, 1) := by decide +kernel
theorem dX11_token_48 : decode cX11_token 48 = .ok (.getfield 205, 3) := by decide +kernel
theorem dX11_token_51 : decode cX11_token 51 = .ok (.invokevirtual 208, 3) := by decide +kernel
theorem dX11_token_54 : decode cX11_token 54 = .ok (.invokestatic 214, 3) := by decide +kernel
theorem dX11_token_57 : decode cX11_token 57 = .ok (.istore_n 2, 1) := by decide +kernel
theorem dX11_token_58 : decode cX11_token 58 = .ok (.aload_n 0, 1) := by decide +kernel
theorem dX11_token_59 : decode cX11_token 59 = .ok (.aload_n 0, 1) := by decide +kernel
theorem dX11_token_60 : decode cX11_token 60 = .ok (.getfield 205, 3) := by decide +kernel
theorem dX11_token_63 : decode cX11_token 63 = .ok (.aload_n 0, 1) := by decide +kernel
theorem dX11_token_64 : decode cX11_token 64 = .ok (.getfield 191, 3) := by decide +kernel
theorem dX11_token_67 : decode cX11_token 67 = .ok (.if_icmp .ge 12, 3) := by decide +kernel
theorem dX11_token_70 : decode cX11_token 70 = .ok (.aload_n 0, 1) := by decide +kernel
theorem dX11_token_71 : decode cX11_token 71 = .ok (.getfield 205, 3) := by decide +kernel
theorem dX11_token_74 : decode cX11_token 74 = .ok (.iconst 1, 1) := by decide +kernel
theorem dX11_token_75 : decode cX11_token 75 = .ok (.iadd, 1) := by decide +kernel
theorem dX11_token_76 : decode cX11_token 76 = .ok (.goto 7, 3) := by decide +kernel
theorem dX11_token_79 : decode cX11_token 79 = .ok (.aload_n 0, 1) := by decide +kernel
theorem dX11_token_80 : decode cX11_token 80 = .ok (.getfield 205, 3) := by decide +kernel
theorem dX11_token_83 : decode cX11_token 83 = .ok (.putfield 202, 3) := by decide +kernel
theorem dX11_token_86 : decode cX11_token 86 = .ok (.iload_n 1, 1) := by decide +kernel
theorem dX11_token_87 : decode cX11_token 87 = .ok (.ifCond .eq 17, 3) := by decide +kernel
theorem dX11_token_90 : decode cX11_token 90 = .ok (.aload_n 0, 1) := by decide +kernel
theorem dX11_token_91 : decode cX11_token 91 = .ok (.aload_n 0, 1) := by decide +kernel
theorem dX11_token_92 : decode cX11_token 92 = .ok (.getfield 202, 3) := by decide +kernel
theorem dX11_token_95 : decode cX11_token 95 = .ok (.invokevirtual 208, 3) := by decide +kernel
theorem dX11_token_98 : decode cX11_token 98 = .ok (.invokestatic 211, 3) := by decide +kernel
theorem dX11_token_101 : decode cX11_token 101 = .ok (.ifCond .ne 21, 3) := by decide +kernel
theorem dX11_token_104 : decode cX11_token 104 = .ok (.iload_n 2, 1) := by decide +kernel
theorem dX11_token_105 : decode cX11_token 105 = .ok (.ifCond .eq 30, 3) := by decide +kernel
theorem dX11_token_108 : decode cX11_token 108 = .ok (.aload_n 0, 1) := by decide +kernel
theorem dX11_token_109 : decode cX11_token 109 = .ok (.aload_n 0, 1) := by decide +kernel
theorem dX11_token_110 : decode cX11_token 110 = .ok (.getfield 202, 3) := by decide +kernel
theorem dX11_token_113 : decode cX11_token 113 = .ok (.invokevirtual 208, 3) := by decide +kernel
theorem dX11_token_116 : decode cX11_token 116 = .ok (.invokestatic 214, 3) := by decide +kernel
theorem dX11_token_119 : decode cX11_token 119 = .ok (.ifCond .eq 16, 3) := by decide +kernel
theorem dX11_token_122 : decode cX11_token 122 = .ok (.aload_n 0, 1) := by decide +kernel
theorem dX11_token_123 : decode cX11_token 123 = .ok (.dup, 1) := by decide +kernel
theorem dX11_token_124 : decode cX11_token 124 = .ok (.getfield 202, 3) := by decide +kernel
theorem dX11_token_127 : decode cX11_token 127 = .ok (.iconst 1, 1) := by decide +kernel
theorem dX11_token_128 : decode cX11_token 128 = .ok (.iadd, 1) := by decide +kernel
theorem dX11_token_129 : decode cX11_token 129 = .ok (.putfield 202, 3) := by decide +kernel
theorem dX11_token_132 : decode cX11_token 132 = .ok (.goto (-46), 3) := by decide +kernel
theorem dX11_token_135 : decode cX11_token 135 = .ok (.return_, 1) := by decide +kernel
theorem dX11_must_0 : decode cX11_must 0 = .ok (.aload_n 0, 1) := by decide +kernel
theorem dX11_must_1 : decode cX11_must 1 = .ok (.aload_n 0, 1) := by decide +kernel
theorem dX11_must_2 : decode cX11_must 2 = .ok (.getfield 217, 3) := by decide +kernel
theorem dX11_must_5 : decode cX11_must 5 = .ok (.ifCond .ne 7, 3) := by decide +kernel
theorem dX11_must_8 : decode cX11_must 8 = .ok (.iload_n 1, 1) := by decide +kernel
theorem dX11_must_9 : decode cX11_must 9 = .ok (.ifCond .ne 7, 3) := by decide +kernel
theorem dX11_must_12 : decode cX11_must 12 = .ok (.iconst 1, 1) := by decide +kernel
theorem dX11_must_13 : decode cX11_must 13 = .ok (.goto 4, 3) := by decide +kernel
theorem dX11_must_16 : decode cX11_must 16 = .ok (.iconst 0, 1) := by decide +kernel
theorem dX11_must_17 : decode cX11_must 17 = .ok (.putfield 217, 3) := by decide +kernel
theorem dX11_must_20 : decode cX11_must 20 = .ok (.aload_n 0, 1) := by decide +kernel
theorem dX11_must_21 : decode cX11_must 21 = .ok (.getfield 217, 3) := by decide +kernel
theorem dX11_must_24 : decode cX11_must 24 = .ok (.ifCond .ne 7, 3) := by decide +kernel
theorem dX11_must_27 : decode cX11_must 27 = .ok (.aload_n 0, 1) := by decide +kernel
theorem dX11_must_28 : decode cX11_must 28 = .ok (.invokevirtual 221, 3) := by decide +kernel
theorem dX11_must_31 : decode cX11_must 31 = .ok (.return_, 1) := by decide +kernel
theorem dX11_word_0 : decode cX11_word 0 = .ok (.lconst 0, 1) := by decide +kernel
theorem dX11_word_1 : decode cX11_word 1 = .ok (.lstore_n 1, 1) := by decide +kernel
theorem dX11_word_2 : decode cX11_word 2 = .ok (.aload_n 0, 1) := by decide +kernel
theorem dX11_word_3 : decode cX11_word 3 = .ok (.getfield 205, 3) := by decide +kernel
theorem dX11_word_6 : decode cX11_word 6 = .ok (.istore_n 3, 1) := by decide +kernel
theorem dX11_word_7 : decode cX11_word 7 = .ok (.iload_n 3, 1) := by decide +kernel
theorem dX11_word_8 : decode cX11_word 8 = .ok (.aload_n 0, 1) := by decide +kernel
theorem dX11_word_9 : decode cX11_word 9 = .ok (.getfield 202, 3) := by decide +kernel
theorem dX11_word_12 : decode cX11_word 12 = .ok (.if_icmp .ge 38, 3) := by decide +kernel
theorem dX11_word_15 : decode cX11_word 15 = .ok (.lload_n 1, 1) := by decide +kernel
theorem dX11_word_16 : decode cX11_word 16 = .ok (.ldc2_w 224, 3) := by decide +kernel
theorem dX11_word_19 : decode cX11_word 19 = .ok (.lcmp, 1) := by decide +kernel
theorem dX11_word_20 : decode cX11_word 20 = .ok (.ifCond .le 7, 3) := by decide +kernel
theorem dX11_word_23 : decode cX11_word 23 = .ok (.lload_n 1, 1) := by decide +kernel
theorem dX11_word_24 : decode cX11_word 24 = .ok (.goto 19, 3) := by decide +kernel
theorem dX11_word_27 : decode cX11_word 27 = .ok (.ldc2_w 226, 3) := by decide +kernel
theorem dX11_word_30 : decode cX11_word 30 = .ok (.lload_n 1, 1) := by decide +kernel
theorem dX11_word_31 : decode cX11_word 31 = .ok (.lmul, 1) := by decide +kernel
theorem dX11_word_32 : decode cX11_word 32 = .ok (.aload_n 0, 1) := by decide +kernel
theorem dX11_word_33 : decode cX11_word 33 = .ok (.getfield 28, 3) := by decide +kernel
theorem dX11_word_36 : decode cX11_word 36 = .ok (.iload_n 3, 1) := by decide +kernel
theorem dX11_word_37 : decode cX11_word 37 = .ok (.iaload, 1) := by decide +kernel
theorem dX11_word_38 : decode cX11_word 38 = .ok (.bipush 96, 2) := by decide +kernel
theorem dX11_word_40 : decode cX11_word 40 = .ok (.isub, 1) := by decide +kernel
theorem dX11_word_41 : decode cX11_word 41 = .ok (.i2l, 1) := by decide +kernel
theorem dX11_word_42 : decode cX11_word 42 = .ok (.ladd, 1) := by decide +kernel
theorem dX11_word_43 : decode cX11_word 43 = .ok (.lstore_n 1, 1) := by decide +kernel
theorem dX11_word_44 : decode cX11_word 44 = .ok (.iinc 3 1, 3) := by decide +kernel
theorem dX11_word_47 : decode cX11_word 47 = .ok (.goto (-40), 3) := by decide +kernel
theorem dX11_word_50 : decode cX11_word 50 = .ok (.aload_n 0, 1) := by decide +kernel
theorem dX11_word_51 : decode cX11_word 51 = .ok (.getfield 217, 3) := by decide +kernel
theorem dX11_word_54 : decode cX11_word 54 = .ok (.ifCond .ne 17, 3) := by decide +kernel
theorem dX11_word_57 : decode cX11_word 57 = .ok (.aload_n 0, 1) := by decide +kernel
theorem dX11_word_58 : decode cX11_word 58 = .ok (.aload_n 0, 1) := by decide +kernel
theorem dX11_word_59 : decode cX11_word 59 = .ok (.getfield 205, 3) := by decide +kernel
theorem dX11_word_62 : decode cX11_word 62 = .ok (.invokevirtual 208, 3) := by decide +kernel
theorem dX11_word_65 : decode cX11_word 65 = .ok (.invokestatic 211, 3) := by decide +kernel
theorem dX11_word_68 : decode cX11_word 68 = .ok (.ifCond .ne 7, 3) := by decide +kernel
theorem dX11_word_71 : decode cX11_word 71 = .ok (.lconst 0, 1) := by decide +kernel
theorem dX11_word_72 : decode cX11_word 72 = .ok (.goto 4, 3) := by decide +kernel
theorem dX11_word_75 : decode cX11_word 75 = .ok (.lload_n 1, 1) := by decide +kernel
theorem dX11_word_76 : decode cX11_word 76 = .ok (.lreturn, 1) := by decide +kernel
theorem dX11_number_0 : decode cX11_number 0 = .ok (.aload_n 0, 1) := by decide +kernel
theorem dX11_number_1 : decode cX11_number 1 = .ok (.getfield 217, 3) := by decide +kernel
theorem dX11_number_4 : decode cX11_number 4 = .ok (.ifCond .eq 4, 3) := by decide +kernel
theorem dX11_number_7 : decode cX11_number 7 = .ok (.return_, 1) := by decide +kernel
theorem dX11_number_8 : decode cX11_number 8 = .ok (.aload_n 0, 1) := by decide +kernel
theorem dX11_number_9 : decode cX11_number 9 = .ok (.aload_n 0, 1) := by decide +kernel
theorem dX11_number_10 : decode cX11_number 10 = .ok (.getfield 205, 3) := by decide +kernel
theorem dX11_number_13 : decode cX11_number 13 = .ok (.invokevirtual 208, 3) := by decide +kernel
theorem dX11_number_16 : decode cX11_number 16 = .ok (.invokestatic 214, 3) := by decide +kernel
theorem dX11_number_19 : decode cX11_number 19 = .ok (.istore_n 3, 1) := by decide +kernel
theorem dX11_number_20 : decode cX11_number 20 = .ok (.iconst 0, 1) := by decide +kernel
theorem dX11_number_21 : decode cX11_number 21 = .ok (.istore 4, 2) := by decide +kernel
theorem dX11_number_23 : decode cX11_number 23 = .ok (.aload_n 0, 1) := by decide +kernel
theorem dX11_number_24 : decode cX11_number 24 = .ok (.getfield 205, 3) := by decide +kernel
theorem dX11_number_27 : decode cX11_number 27 = .ok (.istore 5, 2) := by decide +kernel
theorem dX11_number_29 : decode cX11_number 29 = .ok (.iload 5, 2) := by decide +kernel
theorem dX11_number_31 : decode cX11_number 31 = .ok (.aload_n 0, 1) := by decide +kernel
theorem dX11_number_32 : decode cX11_number 32 = .ok (.getfield 202, 3) := by decide +kernel
theorem dX11_number_35 : decode cX11_number 35 = .ok (.if_icmp .ge 44, 3) := by decide +kernel
theorem dX11_number_38 : decode cX11_number 38 = .ok (.iload_n 3, 1) := by decide +kernel
theorem dX11_number_39 : decode cX11_number 39 = .ok (.ifCond .eq 40, 3) := by decide +kernel
theorem dX11_number_42 : decode cX11_number 42 = .ok (.iload 4, 2) := by decide +kernel
theorem dX11_number_44 : decode cX11_number 44 = .ok (.sipush 999, 3) := by decide +kernel
theorem dX11_number_47 : decode cX11_number 47 = .ok (.if_icmp .le 8, 3) := by decide +kernel
theorem dX11_number_50 : decode cX11_number 50 = .ok (.iload 4, 2) := by decide +kernel
theorem dX11_number_52 : decode cX11_number 52 = .ok (.goto 19, 3) := by decide +kernel
theorem dX11_number_55 : decode cX11_number 55 = .ok (.bipush 10, 2) := by decide +kernel
theorem dX11_number_57 : decode cX11_number 57 = .ok (.iload 4, 2) := by decide +kernel
theorem dX11_number_59 : decode cX11_number 59 = .ok (.imul, 1) := by decide +kernel
theorem dX11_number_60 : decode cX11_number 60 = .ok (.aload_n 0, 1) := by decide +kernel
theorem dX11_number_61 : decode cX11_number 61 = .ok (.getfield 28, 3) := by decide +kernel
theorem dX11_number_64 : decode cX11_number 64 = .ok (.iload 5, 2) := by decide +kernel
theorem dX11_number_66 : decode cX11_number 66 = .ok (.iaload, 1) := by decide +kernel
theorem dX11_number_67 : decode cX11_number 67 = .ok (.iadd, 1) := by decide +kernel
theorem dX11_number_68 : decode cX11_number 68 = .ok (.bipush 48, 2) := by decide +kernel
theorem dX11_number_70 : decode cX11_number 70 = .ok (.isub, 1) := by decide +kernel
theorem dX11_number_71 : decode cX11_number 71 = .ok (.istore 4, 2) := by decide +kernel
theorem dX11_number_73 : decode cX11_number 73 = .ok (.iinc 5 1, 3) := by decide +kernel
theorem dX11_number_76 : decode cX11_number 76 = .ok (.goto (-47), 3) := by decide +kernel
theorem dX11_number_79 : decode cX11_number 79 = .ok (.aload_n 0, 1) := by decide +kernel
theorem dX11_number_80 : decode cX11_number 80 = .ok (.iload 4, 2) := by decide +kernel
theorem dX11_number_82 : decode cX11_number 82 = .ok (.putfield 228, 3) := by decide +kernel
theorem dX11_number_85 : decode cX11_number 85 = .ok (.aload_n 0, 1) := by decide +kernel
theorem dX11_number_86 : decode cX11_number 86 = .ok (.iload_n 3, 1) := by decide +kernel
theorem dX11_number_87 : decode cX11_number 87 = .ok (.ifCond .eq 20, 3) := by decide +kernel
theorem dX11_number_90 : decode cX11_number 90 = .ok (.iload 4, 2) := by decide +kernel
theorem dX11_number_92 : decode cX11_number 92 = .ok (.i2l, 1) := by decide +kernel
theorem dX11_number_93 : decode cX11_number 93 = .ok (.iload_n 1, 1) := by decide +kernel
theorem dX11_number_94 : decode cX11_number 94 = .ok (.i2l, 1) := by decide +kernel
theorem dX11_number_95 : decode cX11_number 95 = .ok (.iload_n 2, 1) := by decide +kernel
theorem dX11_number_96 : decode cX11_number 96 = .ok (.i2l, 1) := by decide +kernel
theorem dX11_number_97 : decode cX11_number 97 = .ok (.invokestatic 49, 3) := by decide +kernel
theorem dX11_number_100 : decode cX11_number 100 = .ok (.ifCond .eq 7, 3) := by decide +kernel
theorem dX11_number_103 : decode cX11_number 103 = .ok (.iconst 1, 1) := by decide +kernel
theorem dX11_number_104 : decode cX11_number 104 = .ok (.goto 4, 3) := by decide +kernel
theorem dX11_number_107 : decode cX11_number 107 = .ok (.iconst 0, 1) := by decide +kernel
theorem dX11_number_108 : decode cX11_number 108 = .ok (.invokevirtual 231, 3) := by decide +kernel
theorem dX11_number_111 : decode cX11_number 111 = .ok (.return_, 1) := by decide +kernel
theorem dX11_kindHere_0 : decode cX11_kindHere 0 = .ok (.aload_n 0, 1) := by decide +kernel
theorem dX11_kindHere_1 : decode cX11_kindHere 1 = .ok (.invokevirtual 235, 3) := by decide +kernel
theorem dX11_kindHere_4 : decode cX11_kindHere 4 = .ok (.lstore_n 1, 1) := by decide +kernel
theorem dX11_kindHere_5 : decode cX11_kindHere 5 = .ok (.lload_n 1, 1) := by decide +kernel
theorem dX11_kindHere_6 : decode cX11_kindHere 6 = .ok (.ldc2_w 239, 3) := by decide +kernel
theorem dX11_kindHere_9 : decode cX11_kindHere 9 = .ok (.lcmp, 1) := by decide +kernel
theorem dX11_kindHere_10 : decode cX11_kindHere 10 = .ok (.ifCond .ne 7, 3) := by decide +kernel
theorem dX11_kindHere_13 : decode cX11_kindHere 13 = .ok (.iconst 0, 1) := by decide +kernel
theorem dX11_kindHere_14 : decode cX11_kindHere 14 = .ok (.goto 64, 3) := by decide +kernel
theorem dX11_kindHere_17 : decode cX11_kindHere 17 = .ok (.lload_n 1, 1) := by decide +kernel
theorem dX11_kindHere_18 : decode cX11_kindHere 18 = .ok (.ldc2_w 241, 3) := by decide +kernel
theorem dX11_kindHere_21 : decode cX11_kindHere 21 = .ok (.lcmp, 1) := by decide +kernel
theorem dX11_kindHere_22 : decode cX11_kindHere 22 = .ok (.ifCond .ne 7, 3) := by decide +kernel
theorem dX11_kindHere_25 : decode cX11_kindHere 25 = .ok (.iconst 1, 1) := by decide +kernel
theorem dX11_kindHere_26 : decode cX11_kindHere 26 = .ok (.goto 52, 3) := by decide +kernel
theorem dX11_kindHere_29 : decode cX11_kindHere 29 = .ok (.lload_n 1, 1) := by decide +kernel
theorem dX11_kindHere_30 : decode cX11_kindHere 30 = .ok (.ldc2_w 243, 3) := by decide +kernel
theorem dX11_kindHere_33 : decode cX11_kindHere 33 = .ok (.lcmp, 1) := by decide +kernel
theorem dX11_kindHere_34 : decode cX11_kindHere 34 = .ok (.ifCond .ne 7, 3) := by decide +kernel
theorem dX11_kindHere_37 : decode cX11_kindHere 37 = .ok (.iconst 2, 1) := by decide +kernel
theorem dX11_kindHere_38 : decode cX11_kindHere 38 = .ok (.goto 40, 3) := by decide +kernel
theorem dX11_kindHere_41 : decode cX11_kindHere 41 = .ok (.lload_n 1, 1) := by decide +kernel
theorem dX11_kindHere_42 : decode cX11_kindHere 42 = .ok (.ldc2_w 245, 3) := by decide +kernel
theorem dX11_kindHere_45 : decode cX11_kindHere 45 = .ok (.lcmp, 1) := by decide +kernel
theorem dX11_kindHere_46 : decode cX11_kindHere 46 = .ok (.ifCond .ne 7, 3) := by decide +kernel
theorem dX11_kindHere_49 : decode cX11_kindHere 49 = .ok (.iconst 3, 1) := by decide +kernel
theorem dX11_kindHere_50 : decode cX11_kindHere 50 = .ok (.goto 28, 3) := by decide +kernel
theorem dX11_kindHere_53 : decode cX11_kindHere 53 = .ok (.lload_n 1, 1) := by decide +kernel
theorem dX11_kindHere_54 : decode cX11_kindHere 54 = .ok (.ldc2_w 247, 3) := by decide +kernel
theorem dX11_kindHere_57 : decode cX11_kindHere 57 = .ok (.lcmp, 1) := by decide +kernel
theorem dX11_kindHere_58 : decode cX11_kindHere 58 = .ok (.ifCond .ne 7, 3) := by decide +kernel
theorem dX11_kindHere_61 : decode cX11_kindHere 61 = .ok (.iconst 4, 1) := by decide +kernel
theorem dX11_kindHere_62 : decode cX11_kindHere 62 = .ok (.goto 16, 3) := by decide +kernel
theorem dX11_kindHere_65 : decode cX11_kindHere 65 = .ok (.lload_n 1, 1) := by decide +kernel
theorem dX11_kindHere_66 : decode cX11_kindHere 66 = .ok (.ldc2_w 249, 3) := by decide +kernel
theorem dX11_kindHere_69 : decode cX11_kindHere 69 = .ok (.lcmp, 1) := by decide +kernel
theorem dX11_kindHere_70 : decode cX11_kindHere 70 = .ok (.ifCond .ne 7, 3) := by decide +kernel
theorem dX11_kindHere_73 : decode cX11_kindHere 73 = .ok (.iconst 5, 1) := by decide +kernel
theorem dX11_kindHere_74 : decode cX11_kindHere 74 = .ok (.goto 4, 3) := by decide +kernel
theorem dX11_kindHere_77 : decode cX11_kindHere 77 = .ok (.iconst (-1), 1) := by decide +kernel
theorem dX11_kindHere_78 : decode cX11_kindHere 78 = .ok (.ireturn, 1) := by decide +kernel
theorem dX11_personItem_0 : decode cX11_personItem 0 = .ok (.aload_n 0, 1) := by decide +kernel
theorem dX11_personItem_1 : decode cX11_personItem 1 = .ok (.aload_n 0, 1) := by decide +kernel
theorem dX11_personItem_2 : decode cX11_personItem 2 = .ok (.getfield 7, 3) := by decide +kernel
theorem dX11_personItem_5 : decode cX11_personItem 5 = .ok (.iconst 1, 1) := by decide +kernel
theorem dX11_personItem_6 : decode cX11_personItem 6 = .ok (.iaload, 1) := by decide +kernel
theorem dX11_personItem_7 : decode cX11_personItem 7 = .ok (.bipush 8, 2) := by decide +kernel
theorem dX11_personItem_9 : decode cX11_personItem 9 = .ok (.if_icmp .ge 7, 3) := by decide +kernel
theorem dX11_personItem_12 : decode cX11_personItem 12 = .ok (.iconst 1, 1) := by decide +kernel
theorem dX11_personItem_13 : decode cX11_personItem 13 = .ok (.goto 4, 3) := by decide +kernel
theorem dX11_personItem_16 : decode cX11_personItem 16 = .ok (.iconst 0, 1) := by decide +kernel
theorem dX11_personItem_17 : decode cX11_personItem 17 = .ok (.invokevirtual 231, 3) := by decide +kernel
theorem dX11_personItem_20 : decode cX11_personItem 20 = .ok (.aload_n 0, 1) := by decide +kernel
theorem dX11_personItem_21 : decode cX11_personItem 21 = .ok (.iconst 0, 1) := by decide +kernel
theorem dX11_personItem_22 : decode cX11_personItem 22 = .ok (.bipush 11, 2) := by decide +kernel
theorem dX11_personItem_24 : decode cX11_personItem 24 = .ok (.invokevirtual 251, 3) := by decide +kernel
theorem dX11_personItem_27 : decode cX11_personItem 27 = .ok (.aload_n 0, 1) := by decide +kernel
theorem dX11_personItem_28 : decode cX11_personItem 28 = .ok (.getfield 217, 3) := by decide +kernel
theorem dX11_personItem_31 : decode cX11_personItem 31 = .ok (.ifCond .eq 4, 3) := by decide +kernel
theorem dX11_personItem_34 : decode cX11_personItem 34 = .ok (.return_, 1) := by decide +kernel
theorem dX11_personItem_35 : decode cX11_personItem 35 = .ok (.aload_n 0, 1) := by decide +kernel
theorem dX11_personItem_36 : decode cX11_personItem 36 = .ok (.iload_n 1, 1) := by decide +kernel
theorem dX11_personItem_37 : decode cX11_personItem 37 = .ok (.aload_n 0, 1) := by decide +kernel
theorem dX11_personItem_38 : decode cX11_personItem 38 = .ok (.getfield 228, 3) := by decide +kernel
theorem dX11_personItem_41 : decode cX11_personItem 41 = .ok (.invokevirtual 120, 3) := by decide +kernel
theorem dX11_personItem_44 : decode cX11_personItem 44 = .ok (.istore_n 2, 1) := by decide +kernel
theorem dX11_personItem_45 : decode cX11_personItem 45 = .ok (.aload_n 0, 1) := by decide +kernel
theorem dX11_personItem_46 : decode cX11_personItem 46 = .ok (.invokevirtual 235, 3) := by decide +kernel
theorem dX11_personItem_49 : decode cX11_personItem 49 = .ok (.ldc2_w 255, 3) := by decide +kernel
theorem dX11_personItem_52 : decode cX11_personItem 52 = .ok (.lcmp, 1) := by decide +kernel
theorem dX11_personItem_53 : decode cX11_personItem 53 = .ok (.ifCond .ne 28, 3) := by decide +kernel
theorem dX11_personItem_56 : decode cX11_personItem 56 = .ok (.aload_n 0, 1) := by decide +kernel
theorem dX11_personItem_57 : decode cX11_personItem 57 = .ok (.iconst 1, 1) := by decide +kernel
theorem dX11_personItem_58 : decode cX11_personItem 58 = .ok (.invokevirtual 231, 3) := by decide +kernel
theorem dX11_personItem_61 : decode cX11_personItem 61 = .ok (.aload_n 0, 1) := by decide +kernel
theorem dX11_personItem_62 : decode cX11_personItem 62 = .ok (.iconst 1, 1) := by decide +kernel
theorem dX11_personItem_63 : decode cX11_personItem 63 = .ok (.iconst 4, 1) := by decide +kernel
theorem dX11_personItem_64 : decode cX11_personItem 64 = .ok (.invokevirtual 251, 3) := by decide +kernel
theorem dX11_personItem_67 : decode cX11_personItem 67 = .ok (.aload_n 0, 1) := by decide +kernel
theorem dX11_personItem_68 : decode cX11_personItem 68 = .ok (.getfield 7, 3) := by decide +kernel
theorem dX11_personItem_71 : decode cX11_personItem 71 = .ok (.iload_n 2, 1) := by decide +kernel
theorem dX11_personItem_72 : decode cX11_personItem 72 = .ok (.iconst 2, 1) := by decide +kernel
theorem dX11_personItem_73 : decode cX11_personItem 73 = .ok (.invokestatic 45, 3) := by decide +kernel
theorem dX11_personItem_76 : decode cX11_personItem 76 = .ok (.aload_n 0, 1) := by decide +kernel
theorem dX11_personItem_77 : decode cX11_personItem 77 = .ok (.getfield 228, 3) := by decide +kernel
theorem dX11_personItem_80 : decode cX11_personItem 80 = .ok (.iastore, 1) := by decide +kernel
theorem dX11_personItem_81 : decode cX11_personItem 81 = .ok (.return_, 1) := by decide +kernel
theorem dX11_toldItem_0 : decode cX11_toldItem 0 = .ok (.aload_n 0, 1) := by decide +kernel
theorem dX11_toldItem_1 : decode cX11_toldItem 1 = .ok (.iconst 1, 1) := by decide +kernel
theorem dX11_toldItem_2 : decode cX11_toldItem 2 = .ok (.invokevirtual 231, 3) := by decide +kernel
theorem dX11_toldItem_5 : decode cX11_toldItem 5 = .ok (.aload_n 0, 1) := by decide +kernel
theorem dX11_toldItem_6 : decode cX11_toldItem 6 = .ok (.iconst 0, 1) := by decide +kernel
theorem dX11_toldItem_7 : decode cX11_toldItem 7 = .ok (.iload_n 2, 1) := by decide +kernel
theorem dX11_toldItem_8 : decode cX11_toldItem 8 = .ok (.iconst 1, 1) := by decide +kernel
theorem dX11_toldItem_9 : decode cX11_toldItem 9 = .ok (.isub, 1) := by decide +kernel
theorem dX11_toldItem_10 : decode cX11_toldItem 10 = .ok (.invokevirtual 251, 3) := by decide +kernel
theorem dX11_toldItem_13 : decode cX11_toldItem 13 = .ok (.aload_n 0, 1) := by decide +kernel
theorem dX11_toldItem_14 : decode cX11_toldItem 14 = .ok (.getfield 228, 3) := by decide +kernel
theorem dX11_toldItem_17 : decode cX11_toldItem 17 = .ok (.istore 4, 2) := by decide +kernel
theorem dX11_toldItem_19 : decode cX11_toldItem 19 = .ok (.aload_n 0, 1) := by decide +kernel
theorem dX11_toldItem_20 : decode cX11_toldItem 20 = .ok (.iconst 0, 1) := by decide +kernel
theorem dX11_toldItem_21 : decode cX11_toldItem 21 = .ok (.iload_n 3, 1) := by decide +kernel
theorem dX11_toldItem_22 : decode cX11_toldItem 22 = .ok (.invokevirtual 251, 3) := by decide +kernel
theorem dX11_toldItem_25 : decode cX11_toldItem 25 = .ok (.aload_n 0, 1) := by decide +kernel
theorem dX11_toldItem_26 : decode cX11_toldItem 26 = .ok (.getfield 217, 3) := by decide +kernel
theorem dX11_toldItem_29 : decode cX11_toldItem 29 = .ok (.ifCond .ne 16, 3) := by decide +kernel
theorem dX11_toldItem_32 : decode cX11_toldItem 32 = .ok (.aload_n 0, 1) := by decide +kernel
theorem dX11_toldItem_33 : decode cX11_toldItem 33 = .ok (.getfield 7, 3) := by decide +kernel
theorem dX11_toldItem_36 : decode cX11_toldItem 36 = .ok (.iload_n 1, 1) := by decide +kernel
theorem dX11_toldItem_37 : decode cX11_toldItem 37 = .ok (.iload 4, 2) := by decide +kernel
theorem dX11_toldItem_39 : decode cX11_toldItem 39 = .ok (.iadd, 1) := by decide +kernel
theorem dX11_toldItem_40 : decode cX11_toldItem 40 = .ok (.aload_n 0, 1) := by decide +kernel
theorem dX11_toldItem_41 : decode cX11_toldItem 41 = .ok (.getfield 228, 3) := by decide +kernel
theorem dX11_toldItem_44 : decode cX11_toldItem 44 = .ok (.iastore, 1) := by decide +kernel
theorem dX11_toldItem_45 : decode cX11_toldItem 45 = .ok (.return_, 1) := by decide +kernel
theorem dX11_item_0 : decode cX11_item 0 = .ok (.aload_n 0, 1) := by decide +kernel
theorem dX11_item_1 : decode cX11_item 1 = .ok (.invokevirtual 257, 3) := by decide +kernel
theorem dX11_item_4 : decode cX11_item 4 = .ok (.istore_n 1, 1) := by decide +kernel
theorem dX11_item_5 : decode cX11_item 5 = .ok (.aload_n 0, 1) := by decide +kernel
theorem dX11_item_6 : decode cX11_item 6 = .ok (.invokevirtual 235, 3) := by decide +kernel
theorem dX11_item_9 : decode cX11_item 9 = .ok (.lstore_n 2, 1) := by decide +kernel
theorem dX11_item_10 : decode cX11_item 10 = .ok (.iload_n 1, 1) := by decide +kernel
theorem dX11_item_11 : decode cX11_item 11 = .ok (.ifCond .lt 11, 3) := by decide +kernel
theorem dX11_item_14 : decode cX11_item 14 = .ok (.aload_n 0, 1) := by decide +kernel
theorem dX11_item_15 : decode cX11_item 15 = .ok (.iload_n 1, 1) := by decide +kernel
theorem dX11_item_16 : decode cX11_item 16 = .ok (.invokevirtual 260, 3) := by decide +kernel
theorem dX11_item_19 : decode cX11_item 19 = .ok (.goto 48, 3) := by decide +kernel
theorem dX11_item_22 : decode cX11_item 22 = .ok (.lload_n 2, 1) := by decide +kernel
theorem dX11_item_23 : decode cX11_item 23 = .ok (.ldc2_w 263, 3) := by decide +kernel
theorem dX11_item_26 : decode cX11_item 26 = .ok (.lcmp, 1) := by decide +kernel
theorem dX11_item_27 : decode cX11_item 27 = .ok (.ifCond .ne 15, 3) := by decide +kernel
theorem dX11_item_30 : decode cX11_item 30 = .ok (.aload_n 0, 1) := by decide +kernel
theorem dX11_item_31 : decode cX11_item 31 = .ok (.iconst 2, 1) := by decide +kernel
theorem dX11_item_32 : decode cX11_item 32 = .ok (.bipush 6, 2) := by decide +kernel
theorem dX11_item_34 : decode cX11_item 34 = .ok (.bipush 11, 2) := by decide +kernel
theorem dX11_item_36 : decode cX11_item 36 = .ok (.invokevirtual 265, 3) := by decide +kernel
theorem dX11_item_39 : decode cX11_item 39 = .ok (.goto 28, 3) := by decide +kernel
theorem dX11_item_42 : decode cX11_item 42 = .ok (.lload_n 2, 1) := by decide +kernel
theorem dX11_item_43 : decode cX11_item 43 = .ok (.ldc2_w 269, 3) := by decide +kernel
theorem dX11_item_46 : decode cX11_item 46 = .ok (.lcmp, 1) := by decide +kernel
theorem dX11_item_47 : decode cX11_item 47 = .ok (.ifCond .ne 15, 3) := by decide +kernel
theorem dX11_item_50 : decode cX11_item 50 = .ok (.aload_n 0, 1) := by decide +kernel
theorem dX11_item_51 : decode cX11_item 51 = .ok (.bipush 8, 2) := by decide +kernel
theorem dX11_item_53 : decode cX11_item 53 = .ok (.iconst 3, 1) := by decide +kernel
theorem dX11_item_54 : decode cX11_item 54 = .ok (.bipush 47, 2) := by decide +kernel
theorem dX11_item_56 : decode cX11_item 56 = .ok (.invokevirtual 265, 3) := by decide +kernel
theorem dX11_item_59 : decode cX11_item 59 = .ok (.goto 8, 3) := by decide +kernel
theorem dX11_item_62 : decode cX11_item 62 = .ok (.aload_n 0, 1) := by decide +kernel
theorem dX11_item_63 : decode cX11_item 63 = .ok (.iconst 0, 1) := by decide +kernel
theorem dX11_item_64 : decode cX11_item 64 = .ok (.invokevirtual 231, 3) := by decide +kernel
theorem dX11_item_67 : decode cX11_item 67 = .ok (.return_, 1) := by decide +kernel
theorem dX11_interval_0 : decode cX11_interval 0 = .ok (.aload_n 0, 1) := by decide +kernel
theorem dX11_interval_1 : decode cX11_interval 1 = .ok (.invokevirtual 271, 3) := by decide +kernel
theorem dX11_interval_4 : decode cX11_interval 4 = .ok (.aload_n 0, 1) := by decide +kernel
theorem dX11_interval_5 : decode cX11_interval 5 = .ok (.iconst 0, 1) := by decide +kernel
theorem dX11_interval_6 : decode cX11_interval 6 = .ok (.putfield 217, 3) := by decide +kernel
theorem dX11_interval_9 : decode cX11_interval 9 = .ok (.aload_n 0, 1) := by decide +kernel
theorem dX11_interval_10 : decode cX11_interval 10 = .ok (.iconst 0, 1) := by decide +kernel
theorem dX11_interval_11 : decode cX11_interval 11 = .ok (.putfield 202, 3) := by decide +kernel
theorem dX11_interval_14 : decode cX11_interval 14 = .ok (.aload_n 0, 1) := by decide +kernel
theorem dX11_interval_15 : decode cX11_interval 15 = .ok (.invokevirtual 221, 3) := by decide +kernel
theorem dX11_interval_18 : decode cX11_interval 18 = .ok (.iconst 1, 1) := by decide +kernel
theorem dX11_interval_19 : decode cX11_interval 19 = .ok (.istore_n 1, 1) := by decide +kernel
theorem dX11_interval_20 : decode cX11_interval 20 = .ok (.aload_n 0, 1) := by decide +kernel
theorem dX11_interval_21 : decode cX11_interval 21 = .ok (.invokevirtual 274, 3) := by decide +kernel
theorem dX11_interval_24 : decode cX11_interval 24 = .ok (.aload_n 0, 1) := by decide +kernel
theorem dX11_interval_25 : decode cX11_interval 25 = .ok (.getfield 217, 3) := by decide +kernel
theorem dX11_interval_28 : decode cX11_interval 28 = .ok (.ifCond .ne 31, 3) := by decide +kernel
theorem dX11_interval_31 : decode cX11_interval 31 = .ok (.aload_n 0, 1) := by decide +kernel
theorem dX11_interval_32 : decode cX11_interval 32 = .ok (.aload_n 0, 1) := by decide +kernel
theorem dX11_interval_33 : decode cX11_interval 33 = .ok (.getfield 205, 3) := by decide +kernel
theorem dX11_interval_36 : decode cX11_interval 36 = .ok (.invokevirtual 208, 3) := by decide +kernel
theorem dX11_interval_39 : decode cX11_interval 39 = .ok (.bipush 59, 2) := by decide +kernel
theorem dX11_interval_41 : decode cX11_interval 41 = .ok (.if_icmp .ne 18, 3) := by decide +kernel
theorem dX11_interval_44 : decode cX11_interval 44 = .ok (.aload_n 0, 1) := by decide +kernel
theorem dX11_interval_45 : decode cX11_interval 45 = .ok (.iconst 1, 1) := by decide +kernel
theorem dX11_interval_46 : decode cX11_interval 46 = .ok (.invokevirtual 231, 3) := by decide +kernel
theorem dX11_interval_49 : decode cX11_interval 49 = .ok (.aload_n 0, 1) := by decide +kernel
theorem dX11_interval_50 : decode cX11_interval 50 = .ok (.invokevirtual 274, 3) := by decide +kernel
theorem dX11_interval_53 : decode cX11_interval 53 = .ok (.iinc 1 1, 3) := by decide +kernel
theorem dX11_interval_56 : decode cX11_interval 56 = .ok (.goto (-32), 3) := by decide +kernel
theorem dX11_interval_59 : decode cX11_interval 59 = .ok (.aload_n 0, 1) := by decide +kernel
theorem dX11_interval_60 : decode cX11_interval 60 = .ok (.aload_n 0, 1) := by decide +kernel
theorem dX11_interval_61 : decode cX11_interval 61 = .ok (.getfield 217, 3) := by decide +kernel
theorem dX11_interval_64 : decode cX11_interval 64 = .ok (.ifCond .ne 14, 3) := by decide +kernel
theorem dX11_interval_67 : decode cX11_interval 67 = .ok (.aload_n 0, 1) := by decide +kernel
theorem dX11_interval_68 : decode cX11_interval 68 = .ok (.getfield 205, 3) := by decide +kernel
theorem dX11_interval_71 : decode cX11_interval 71 = .ok (.aload_n 0, 1) := by decide +kernel
theorem dX11_interval_72 : decode cX11_interval 72 = .ok (.getfield 191, 3) := by decide +kernel
theorem dX11_interval_75 : decode cX11_interval 75 = .ok (.if_icmp .ge 7, 3) := by decide +kernel
theorem dX11_interval_78 : decode cX11_interval 78 = .ok (.iconst 1, 1) := by decide +kernel
theorem dX11_interval_79 : decode cX11_interval 79 = .ok (.goto 4, 3) := by decide +kernel
theorem dX11_interval_82 : decode cX11_interval 82 = .ok (.iconst 0, 1) := by decide +kernel
theorem dX11_interval_83 : decode cX11_interval 83 = .ok (.putfield 217, 3) := by decide +kernel
theorem dX11_interval_86 : decode cX11_interval 86 = .ok (.aload_n 0, 1) := by decide +kernel
theorem dX11_interval_87 : decode cX11_interval 87 = .ok (.getfield 217, 3) := by decide +kernel
theorem dX11_interval_90 : decode cX11_interval 90 = .ok (.ifCond .eq 7, 3) := by decide +kernel
theorem dX11_interval_93 : decode cX11_interval 93 = .ok (.aload_n 0, 1) := by decide +kernel
theorem dX11_interval_94 : decode cX11_interval 94 = .ok (.invokevirtual 277, 3) := by decide +kernel
theorem dX11_interval_97 : decode cX11_interval 97 = .ok (.aload_n 0, 1) := by decide +kernel
theorem dX11_interval_98 : decode cX11_interval 98 = .ok (.iconst 0, 1) := by decide +kernel
theorem dX11_interval_99 : decode cX11_interval 99 = .ok (.putfield 191, 3) := by decide +kernel
theorem dX11_interval_102 : decode cX11_interval 102 = .ok (.aload_n 0, 1) := by decide +kernel
theorem dX11_interval_103 : decode cX11_interval 103 = .ok (.getfield 217, 3) := by decide +kernel
theorem dX11_interval_106 : decode cX11_interval 106 = .ok (.ifCond .eq 12, 3) := by decide +kernel
theorem dX11_interval_109 : decode cX11_interval 109 = .ok (.iconst (-1), 1) := by decide +kernel
theorem dX11_interval_110 : decode cX11_interval 110 = .ok (.aload_n 0, 1) := by decide +kernel
theorem dX11_interval_111 : decode cX11_interval 111 = .ok (.getfield 205, 3) := by decide +kernel
theorem dX11_interval_114 : decode cX11_interval 114 = .ok (.isub, 1) := by decide +kernel
theorem dX11_interval_115 : decode cX11_interval 115 = .ok (.goto 4, 3) := by decide +kernel
theorem dX11_interval_118 : decode cX11_interval 118 = .ok (.iload_n 1, 1) := by decide +kernel
theorem dX11_interval_119 : decode cX11_interval 119 = .ok (.ireturn, 1) := by decide +kernel
theorem dX11_isOne_0 : decode cX11_isOne 0 = .ok (.iload_n 0, 1) := by decide +kernel
theorem dX11_isOne_1 : decode cX11_isOne 1 = .ok (.i2l, 1) := by decide +kernel
theorem dX11_isOne_2 : decode cX11_isOne 2 = .ok (.lconst 0, 1) := by decide +kernel
theorem dX11_isOne_3 : decode cX11_isOne 3 = .ok (.ldc2_w 280, 3) := by decide +kernel
theorem dX11_isOne_6 : decode cX11_isOne 6 = .ok (.invokestatic 49, 3) := by decide +kernel
theorem dX11_isOne_9 : decode cX11_isOne 9 = .ok (.ireturn, 1) := by decide +kernel
theorem dX11_sheet_0 : decode cX11_sheet 0 = .ok (.iload_n 1, 1) := by decide +kernel
theorem dX11_sheet_1 : decode cX11_sheet 1 = .ok (.invokestatic 282, 3) := by decide +kernel
theorem dX11_sheet_4 : decode cX11_sheet 4 = .ok (.ifCond .eq 25, 3) := by decide +kernel
theorem dX11_sheet_7 : decode cX11_sheet 7 = .ok (.iload_n 2, 1) := by decide +kernel
theorem dX11_sheet_8 : decode cX11_sheet 8 = .ok (.ifCond .eq 28, 3) := by decide +kernel
theorem dX11_sheet_11 : decode cX11_sheet 11 = .ok (.iload_n 2, 1) := by decide +kernel
theorem dX11_sheet_12 : decode cX11_sheet 12 = .ok (.bipush 8, 2) := by decide +kernel
theorem dX11_sheet_14 : decode cX11_sheet 14 = .ok (.if_icmp .eq 22, 3) := by decide +kernel
theorem dX11_sheet_17 : decode cX11_sheet 17 = .ok (.iload_n 2, 1) := by decide +kernel
theorem dX11_sheet_18 : decode cX11_sheet 18 = .ok (.bipush 16, 2) := by decide +kernel
theorem dX11_sheet_20 : decode cX11_sheet 20 = .ok (.if_icmp .eq 16, 3) := by decide +kernel
theorem dX11_sheet_23 : decode cX11_sheet 23 = .ok (.iload_n 2, 1) := by decide +kernel
theorem dX11_sheet_24 : decode cX11_sheet 24 = .ok (.bipush 64, 2) := by decide +kernel
theorem dX11_sheet_26 : decode cX11_sheet 26 = .ok (.if_icmp .eq 10, 3) := by decide +kernel
theorem dX11_sheet_29 : decode cX11_sheet 29 = .ok (.aload_n 0, 1) := by decide +kernel
theorem dX11_sheet_30 : decode cX11_sheet 30 = .ok (.ldc 44, 2) := by decide +kernel
theorem dX11_sheet_32 : decode cX11_sheet 32 = .ok (.invokevirtual 76, 3) := by decide +kernel
theorem dX11_sheet_35 : decode cX11_sheet 35 = .ok (.ireturn, 1) := by decide +kernel
theorem dX11_sheet_36 : decode cX11_sheet 36 = .ok (.iload_n 3, 1) := by decide +kernel
theorem dX11_sheet_37 : decode cX11_sheet 37 = .ok (.ifCond .ge 11, 3) := by decide +kernel
theorem dX11_sheet_40 : decode cX11_sheet 40 = .ok (.aload_n 0, 1) := by decide +kernel
theorem dX11_sheet_41 : decode cX11_sheet 41 = .ok (.ldc_w 285, 3) := by decide +kernel
theorem dX11_sheet_44 : decode cX11_sheet 44 = .ok (.invokevirtual 76, 3) := by decide +kernel
theorem dX11_sheet_47 : decode cX11_sheet 47 = .ok (.ireturn, 1) := by decide +kernel
theorem dX11_sheet_48 : decode cX11_sheet 48 = .ok (.iload_n 3, 1) := by decide +kernel
theorem dX11_sheet_49 : decode cX11_sheet 49 = .ok (.bipush 40, 2) := by decide +kernel
theorem dX11_sheet_51 : decode cX11_sheet 51 = .ok (.if_icmp .le 10, 3) := by decide +kernel
theorem dX11_sheet_54 : decode cX11_sheet 54 = .ok (.aload_n 0, 1) := by decide +kernel
theorem dX11_sheet_55 : decode cX11_sheet 55 = .ok (.ldc 44, 2) := by decide +kernel
theorem dX11_sheet_57 : decode cX11_sheet 57 = .ok (.invokevirtual 76, 3) := by decide +kernel
theorem dX11_sheet_60 : decode cX11_sheet 60 = .ok (.ireturn, 1) := by decide +kernel
theorem dX11_sheet_61 : decode cX11_sheet 61 = .ok (.aload_n 0, 1) := by decide +kernel
theorem dX11_sheet_62 : decode cX11_sheet 62 = .ok (.getfield 31, 3) := by decide +kernel
theorem dX11_sheet_65 : decode cX11_sheet 65 = .ok (.iload_n 1, 1) := by decide +kernel
theorem dX11_sheet_66 : decode cX11_sheet 66 = .ok (.iload_n 2, 1) := by decide +kernel
theorem dX11_sheet_67 : decode cX11_sheet 67 = .ok (.iastore, 1) := by decide +kernel
theorem dX11_sheet_68 : decode cX11_sheet 68 = .ok (.aload_n 0, 1) := by decide +kernel
theorem dX11_sheet_69 : decode cX11_sheet 69 = .ok (.getfield 34, 3) := by decide +kernel
theorem dX11_sheet_72 : decode cX11_sheet 72 = .ok (.iload_n 1, 1) := by decide +kernel
theorem dX11_sheet_73 : decode cX11_sheet 73 = .ok (.iload_n 2, 1) := by decide +kernel
theorem dX11_sheet_74 : decode cX11_sheet 74 = .ok (.ifCond .ne 7, 3) := by decide +kernel
theorem dX11_sheet_77 : decode cX11_sheet 77 = .ok (.iconst 0, 1) := by decide +kernel
theorem dX11_sheet_78 : decode cX11_sheet 78 = .ok (.goto 4, 3) := by decide +kernel
theorem dX11_sheet_81 : decode cX11_sheet 81 = .ok (.iload_n 3, 1) := by decide +kernel
theorem dX11_sheet_82 : decode cX11_sheet 82 = .ok (.iastore, 1) := by decide +kernel
theorem dX11_sheet_83 : decode cX11_sheet 83 = .ok (.iconst 0, 1) := by decide +kernel
theorem dX11_sheet_84 : decode cX11_sheet 84 = .ok (.istore 4, 2) := by decide +kernel
theorem dX11_sheet_86 : decode cX11_sheet 86 = .ok (.iload 4, 2) := by decide +kernel
theorem dX11_sheet_88 : decode cX11_sheet 88 = .ok (.bipush 40, 2) := by decide +kernel
theorem dX11_sheet_90 : decode cX11_sheet 90 = .ok (.if_icmp .ge 22, 3) := by decide +kernel
theorem dX11_sheet_93 : decode cX11_sheet 93 = .ok (.aload_n 0, 1) := by decide +kernel
theorem dX11_sheet_94 : decode cX11_sheet 94 = .ok (.getfield 37, 3) := by decide +kernel
theorem dX11_sheet_97 : decode cX11_sheet 97 = .ok (.bipush 40, 2) := by decide +kernel
theorem dX11_sheet_99 : decode cX11_sheet 99 = .ok (.iload_n 1, 1) := by decide +kernel
theorem dX11_sheet_100 : decode cX11_sheet 100 = .ok (.imul, 1) := by decide +kernel
theorem dX11_sheet_101 : decode cX11_sheet 101 = .ok (.iload 4, 2) := by decide +kernel
theorem dX11_sheet_103 : decode cX11_sheet 103 = .ok (.iadd, 1) := by decide +kernel
theorem dX11_sheet_104 : decode cX11_sheet 104 = .ok (.lconst 0, 1) := by decide +kernel
theorem dX11_sheet_105 : decode cX11_sheet 105 = .ok (.lastore, 1) := by decide +kernel
theorem dX11_sheet_106 : decode cX11_sheet 106 = .ok (.iinc 4 1, 3) := by decide +kernel
theorem dX11_sheet_109 : decode cX11_sheet 109 = .ok (.goto (-23), 3) := by decide +kernel
theorem dX11_sheet_112 : decode cX11_sheet 112 = .ok (.aload_n 0, 1) := by decide +kernel
theorem dX11_sheet_113 : decode cX11_sheet 113 = .ok (.getfield 34, 3) := by decide +kernel
theorem dX11_sheet_116 : decode cX11_sheet 116 = .ok (.iload_n 1, 1) := by decide +kernel
theorem dX11_sheet_117 : decode cX11_sheet 117 = .ok (.iaload, 1) := by decide +kernel
theorem dX11_sheet_118 : decode cX11_sheet 118 = .ok (.ireturn, 1) := by decide +kernel
theorem dX11_narrowed_0 : decode cX11_narrowed 0 = .ok (.iload_n 0, 1) := by decide +kernel
theorem dX11_narrowed_1 : decode cX11_narrowed 1 = .ok (.bipush 8, 2) := by decide +kernel
theorem dX11_narrowed_3 : decode cX11_narrowed 3 = .ok (.if_icmp .ne 10, 3) := by decide +kernel
theorem dX11_narrowed_6 : decode cX11_narrowed 6 = .ok (.lload_n 1, 1) := by decide +kernel
theorem dX11_narrowed_7 : decode cX11_narrowed 7 = .ok (.l2i, 1) := by decide +kernel
theorem dX11_narrowed_8 : decode cX11_narrowed 8 = .ok (.i2b, 1) := by decide +kernel
theorem dX11_narrowed_9 : decode cX11_narrowed 9 = .ok (.i2l, 1) := by decide +kernel
theorem dX11_narrowed_10 : decode cX11_narrowed 10 = .ok (.goto 17, 3) := by decide +kernel
theorem dX11_narrowed_13 : decode cX11_narrowed 13 = .ok (.iload_n 0, 1) := by decide +kernel
theorem dX11_narrowed_14 : decode cX11_narrowed 14 = .ok (.bipush 16, 2) := by decide +kernel
theorem dX11_narrowed_16 : decode cX11_narrowed 16 = .ok (.if_icmp .ne 10, 3) := by decide +kernel
theorem dX11_narrowed_19 : decode cX11_narrowed 19 = .ok (.lload_n 1, 1) := by decide +kernel
theorem dX11_narrowed_20 : decode cX11_narrowed 20 = .ok (.l2i, 1) := by decide +kernel
theorem dX11_narrowed_21 : decode cX11_narrowed 21 = .ok (.i2s, 1) := by decide +kernel
theorem dX11_narrowed_22 : decode cX11_narrowed 22 = .ok (.i2l, 1) := by decide +kernel
theorem dX11_narrowed_23 : decode cX11_narrowed 23 = .ok (.goto 4, 3) := by decide +kernel
theorem dX11_narrowed_26 : decode cX11_narrowed 26 = .ok (.lload_n 1, 1) := by decide +kernel
theorem dX11_narrowed_27 : decode cX11_narrowed 27 = .ok (.lreturn, 1) := by decide +kernel
theorem dX11_wrongSheet_0 : decode cX11_wrongSheet 0 = .ok (.iload_n 1, 1) := by decide +kernel
theorem dX11_wrongSheet_1 : decode cX11_wrongSheet 1 = .ok (.invokestatic 282, 3) := by decide +kernel
theorem dX11_wrongSheet_4 : decode cX11_wrongSheet 4 = .ok (.ifCond .ne 8, 3) := by decide +kernel
theorem dX11_wrongSheet_7 : decode cX11_wrongSheet 7 = .ok (.ldc 44, 2) := by decide +kernel
theorem dX11_wrongSheet_9 : decode cX11_wrongSheet 9 = .ok (.goto 19, 3) := by decide +kernel
theorem dX11_wrongSheet_12 : decode cX11_wrongSheet 12 = .ok (.aload_n 0, 1) := by decide +kernel
theorem dX11_wrongSheet_13 : decode cX11_wrongSheet 13 = .ok (.getfield 31, 3) := by decide +kernel
theorem dX11_wrongSheet_16 : decode cX11_wrongSheet 16 = .ok (.iload_n 1, 1) := by decide +kernel
theorem dX11_wrongSheet_17 : decode cX11_wrongSheet 17 = .ok (.iaload, 1) := by decide +kernel
theorem dX11_wrongSheet_18 : decode cX11_wrongSheet 18 = .ok (.ifCond .ne 9, 3) := by decide +kernel
theorem dX11_wrongSheet_21 : decode cX11_wrongSheet 21 = .ok (.ldc_w 286, 3) := by decide +kernel
theorem dX11_wrongSheet_24 : decode cX11_wrongSheet 24 = .ok (.goto 4, 3) := by decide +kernel
theorem dX11_wrongSheet_27 : decode cX11_wrongSheet 27 = .ok (.iconst 0, 1) := by decide +kernel
theorem dX11_wrongSheet_28 : decode cX11_wrongSheet 28 = .ok (.ireturn, 1) := by decide +kernel
theorem dX11_write_0 : decode cX11_write 0 = .ok (.aload_n 0, 1) := by decide +kernel
theorem dX11_write_1 : decode cX11_write 1 = .ok (.iload_n 1, 1) := by decide +kernel
theorem dX11_write_2 : decode cX11_write 2 = .ok (.invokevirtual 287, 3) := by decide +kernel
theorem dX11_write_5 : decode cX11_write 5 = .ok (.istore 5, 2) := by decide +kernel
theorem dX11_write_7 : decode cX11_write 7 = .ok (.iload 5, 2) := by decide +kernel
theorem dX11_write_9 : decode cX11_write 9 = .ok (.ifCond .eq 11, 3) := by decide +kernel
theorem dX11_write_12 : decode cX11_write 12 = .ok (.aload_n 0, 1) := by decide +kernel
theorem dX11_write_13 : decode cX11_write 13 = .ok (.iload 5, 2) := by decide +kernel
theorem dX11_write_15 : decode cX11_write 15 = .ok (.invokevirtual 76, 3) := by decide +kernel
theorem dX11_write_18 : decode cX11_write 18 = .ok (.i2l, 1) := by decide +kernel
theorem dX11_write_19 : decode cX11_write 19 = .ok (.lreturn, 1) := by decide +kernel
theorem dX11_write_20 : decode cX11_write 20 = .ok (.iload_n 2, 1) := by decide +kernel
theorem dX11_write_21 : decode cX11_write 21 = .ok (.i2l, 1) := by decide +kernel
theorem dX11_write_22 : decode cX11_write 22 = .ok (.lconst 0, 1) := by decide +kernel
theorem dX11_write_23 : decode cX11_write 23 = .ok (.aload_n 0, 1) := by decide +kernel
theorem dX11_write_24 : decode cX11_write 24 = .ok (.getfield 34, 3) := by decide +kernel
theorem dX11_write_27 : decode cX11_write 27 = .ok (.iload_n 1, 1) := by decide +kernel
theorem dX11_write_28 : decode cX11_write 28 = .ok (.iaload, 1) := by decide +kernel
theorem dX11_write_29 : decode cX11_write 29 = .ok (.iconst 1, 1) := by decide +kernel
theorem dX11_write_30 : decode cX11_write 30 = .ok (.isub, 1) := by decide +kernel
theorem dX11_write_31 : decode cX11_write 31 = .ok (.i2l, 1) := by decide +kernel
theorem dX11_write_32 : decode cX11_write 32 = .ok (.invokestatic 49, 3) := by decide +kernel
theorem dX11_write_35 : decode cX11_write 35 = .ok (.ifCond .ne 11, 3) := by decide +kernel
theorem dX11_write_38 : decode cX11_write 38 = .ok (.aload_n 0, 1) := by decide +kernel
theorem dX11_write_39 : decode cX11_write 39 = .ok (.ldc 44, 2) := by decide +kernel
theorem dX11_write_41 : decode cX11_write 41 = .ok (.invokevirtual 76, 3) := by decide +kernel
theorem dX11_write_44 : decode cX11_write 44 = .ok (.i2l, 1) := by decide +kernel
theorem dX11_write_45 : decode cX11_write 45 = .ok (.lreturn, 1) := by decide +kernel
theorem dX11_write_46 : decode cX11_write 46 = .ok (.aload_n 0, 1) := by decide +kernel
theorem dX11_write_47 : decode cX11_write 47 = .ok (.getfield 37, 3) := by decide +kernel
theorem dX11_write_50 : decode cX11_write 50 = .ok (.bipush 40, 2) := by decide +kernel
theorem dX11_write_52 : decode cX11_write 52 = .ok (.iload_n 1, 1) := by decide +kernel
theorem dX11_write_53 : decode cX11_write 53 = .ok (.imul, 1) := by decide +kernel
theorem dX11_write_54 : decode cX11_write 54 = .ok (.iload_n 2, 1) := by decide +kernel
theorem dX11_write_55 : decode cX11_write 55 = .ok (.iadd, 1) := by decide +kernel
theorem dX11_write_56 : decode cX11_write 56 = .ok (.laload, 1) := by decide +kernel
theorem dX11_write_57 : decode cX11_write 57 = .ok (.lstore 6, 2) := by decide +kernel
theorem dX11_write_59 : decode cX11_write 59 = .ok (.aload_n 0, 1) := by decide +kernel
theorem dX11_write_60 : decode cX11_write 60 = .ok (.getfield 37, 3) := by decide +kernel
theorem dX11_write_63 : decode cX11_write 63 = .ok (.bipush 40, 2) := by decide +kernel
theorem dX11_write_65 : decode cX11_write 65 = .ok (.iload_n 1, 1) := by decide +kernel
theorem dX11_write_66 : decode cX11_write 66 = .ok (.imul, 1) := by decide +kernel
theorem dX11_write_67 : decode cX11_write 67 = .ok (.iload_n 2, 1) := by decide +kernel
theorem dX11_write_68 : decode cX11_write 68 = .ok (.iadd, 1) := by decide +kernel
theorem dX11_write_69 : decode cX11_write 69 = .ok (.aload_n 0, 1) := by decide +kernel
theorem dX11_write_70 : decode cX11_write 70 = .ok (.getfield 31, 3) := by decide +kernel
theorem dX11_write_73 : decode cX11_write 73 = .ok (.iload_n 1, 1) := by decide +kernel
theorem dX11_write_74 : decode cX11_write 74 = .ok (.iaload, 1) := by decide +kernel
theorem dX11_write_75 : decode cX11_write 75 = .ok (.lload_n 3, 1) := by decide +kernel
theorem dX11_write_76 : decode cX11_write 76 = .ok (.invokestatic 290, 3) := by decide +kernel
theorem dX11_write_79 : decode cX11_write 79 = .ok (.lastore, 1) := by decide +kernel
theorem dX11_write_80 : decode cX11_write 80 = .ok (.lload 6, 2) := by decide +kernel
theorem dX11_write_82 : decode cX11_write 82 = .ok (.lreturn, 1) := by decide +kernel
theorem dX11_copy_0 : decode cX11_copy 0 = .ok (.iload_n 1, 1) := by decide +kernel
theorem dX11_copy_1 : decode cX11_copy 1 = .ok (.invokestatic 282, 3) := by decide +kernel
theorem dX11_copy_4 : decode cX11_copy 4 = .ok (.ifCond .eq 10, 3) := by decide +kernel
theorem dX11_copy_7 : decode cX11_copy 7 = .ok (.iload_n 3, 1) := by decide +kernel
theorem dX11_copy_8 : decode cX11_copy 8 = .ok (.invokestatic 282, 3) := by decide +kernel
theorem dX11_copy_11 : decode cX11_copy 11 = .ok (.ifCond .ne 10, 3) := by decide +kernel
theorem dX11_copy_14 : decode cX11_copy 14 = .ok (.aload_n 0, 1) := by decide +kernel
theorem dX11_copy_15 : decode cX11_copy 15 = .ok (.ldc 44, 2) := by decide +kernel
theorem dX11_copy_17 : decode cX11_copy 17 = .ok (.invokevirtual 76, 3) := by decide +kernel
theorem dX11_copy_20 : decode cX11_copy 20 = .ok (.ireturn, 1) := by decide +kernel
theorem dX11_copy_21 : decode cX11_copy 21 = .ok (.aload_n 0, 1) := by decide +kernel
theorem dX11_copy_22 : decode cX11_copy 22 = .ok (.getfield 31, 3) := by decide +kernel
theorem dX11_copy_25 : decode cX11_copy 25 = .ok (.iload_n 1, 1) := by decide +kernel
theorem dX11_copy_26 : decode cX11_copy 26 = .ok (.iaload, 1) := by decide +kernel
theorem dX11_copy_27 : decode cX11_copy 27 = .ok (.ifCond .eq 12, 3) := by decide +kernel
theorem dX11_copy_30 : decode cX11_copy 30 = .ok (.aload_n 0, 1) := by decide +kernel
theorem dX11_copy_31 : decode cX11_copy 31 = .ok (.getfield 31, 3) := by decide +kernel
theorem dX11_copy_34 : decode cX11_copy 34 = .ok (.iload_n 3, 1) := by decide +kernel
theorem dX11_copy_35 : decode cX11_copy 35 = .ok (.iaload, 1) := by decide +kernel
theorem dX11_copy_36 : decode cX11_copy 36 = .ok (.ifCond .ne 11, 3) := by decide +kernel
theorem dX11_copy_39 : decode cX11_copy 39 = .ok (.aload_n 0, 1) := by decide +kernel
theorem dX11_copy_40 : decode cX11_copy 40 = .ok (.ldc_w 286, 3) := by decide +kernel
theorem dX11_copy_43 : decode cX11_copy 43 = .ok (.invokevirtual 76, 3) := by decide +kernel
theorem dX11_copy_46 : decode cX11_copy 46 = .ok (.ireturn, 1) := by decide +kernel
theorem dX11_copy_47 : decode cX11_copy 47 = .ok (.aload_n 0, 1) := by decide +kernel
theorem dX11_copy_48 : decode cX11_copy 48 = .ok (.getfield 31, 3) := by decide +kernel
theorem dX11_copy_51 : decode cX11_copy 51 = .ok (.iload_n 1, 1) := by decide +kernel
theorem dX11_copy_52 : decode cX11_copy 52 = .ok (.iaload, 1) := by decide +kernel
theorem dX11_copy_53 : decode cX11_copy 53 = .ok (.aload_n 0, 1) := by decide +kernel
theorem dX11_copy_54 : decode cX11_copy 54 = .ok (.getfield 31, 3) := by decide +kernel
theorem dX11_copy_57 : decode cX11_copy 57 = .ok (.iload_n 3, 1) := by decide +kernel
theorem dX11_copy_58 : decode cX11_copy 58 = .ok (.iaload, 1) := by decide +kernel
theorem dX11_copy_59 : decode cX11_copy 59 = .ok (.if_icmp .eq 10, 3) := by decide +kernel
theorem dX11_copy_62 : decode cX11_copy 62 = .ok (.aload_n 0, 1) := by decide +kernel
theorem dX11_copy_63 : decode cX11_copy 63 = .ok (.ldc 142, 2) := by decide +kernel
theorem dX11_copy_65 : decode cX11_copy 65 = .ok (.invokevirtual 76, 3) := by decide +kernel
theorem dX11_copy_68 : decode cX11_copy 68 = .ok (.ireturn, 1) := by decide +kernel
theorem dX11_copy_69 : decode cX11_copy 69 = .ok (.iload_n 2, 1) := by decide +kernel
theorem dX11_copy_70 : decode cX11_copy 70 = .ok (.ifCond .lt 40, 3) := by decide +kernel
theorem dX11_copy_73 : decode cX11_copy 73 = .ok (.iload 4, 2) := by decide +kernel
theorem dX11_copy_75 : decode cX11_copy 75 = .ok (.ifCond .lt 35, 3) := by decide +kernel
theorem dX11_copy_78 : decode cX11_copy 78 = .ok (.iload 5, 2) := by decide +kernel
theorem dX11_copy_80 : decode cX11_copy 80 = .ok (.ifCond .lt 30, 3) := by decide +kernel
theorem dX11_copy_83 : decode cX11_copy 83 = .ok (.iload 5, 2) := by decide +kernel
theorem dX11_copy_85 : decode cX11_copy 85 = .ok (.aload_n 0, 1) := by decide +kernel
theorem dX11_copy_86 : decode cX11_copy 86 = .ok (.getfield 34, 3) := by decide +kernel
theorem dX11_copy_89 : decode cX11_copy 89 = .ok (.iload_n 1, 1) := by decide +kernel
theorem dX11_copy_90 : decode cX11_copy 90 = .ok (.iaload, 1) := by decide +kernel
theorem dX11_copy_91 : decode cX11_copy 91 = .ok (.iload_n 2, 1) := by decide +kernel
theorem dX11_copy_92 : decode cX11_copy 92 = .ok (.isub, 1) := by decide +kernel
theorem dX11_copy_93 : decode cX11_copy 93 = .ok (.if_icmp .gt 17, 3) := by decide +kernel
theorem dX11_copy_96 : decode cX11_copy 96 = .ok (.iload 5, 2) := by decide +kernel
theorem dX11_copy_98 : decode cX11_copy 98 = .ok (.aload_n 0, 1) := by decide +kernel
theorem dX11_copy_99 : decode cX11_copy 99 = .ok (.getfield 34, 3) := by decide +kernel
theorem dX11_copy_102 : decode cX11_copy 102 = .ok (.iload_n 3, 1) := by decide +kernel
theorem dX11_copy_103 : decode cX11_copy 103 = .ok (.iaload, 1) := by decide +kernel
theorem dX11_copy_104 : decode cX11_copy 104 = .ok (.iload 4, 2) := by decide +kernel
theorem dX11_copy_106 : decode cX11_copy 106 = .ok (.isub, 1) := by decide +kernel
theorem dX11_copy_107 : decode cX11_copy 107 = .ok (.if_icmp .le 10, 3) := by decide +kernel
theorem dX11_copy_110 : decode cX11_copy 110 = .ok (.aload_n 0, 1) := by decide +kernel
theorem dX11_copy_111 : decode cX11_copy 111 = .ok (.ldc 44, 2) := by decide +kernel
theorem dX11_copy_113 : decode cX11_copy 113 = .ok (.invokevirtual 76, 3) := by decide +kernel
theorem dX11_copy_116 : decode cX11_copy 116 = .ok (.ireturn, 1) := by decide +kernel
theorem dX11_copy_117 : decode cX11_copy 117 = .ok (.iconst 0, 1) := by decide +kernel
theorem dX11_copy_118 : decode cX11_copy 118 = .ok (.istore 6, 2) := by decide +kernel
theorem dX11_copy_120 : decode cX11_copy 120 = .ok (.iload 6, 2) := by decide +kernel
theorem dX11_copy_122 : decode cX11_copy 122 = .ok (.iload 5, 2) := by decide +kernel
theorem dX11_copy_124 : decode cX11_copy 124 = .ok (.if_icmp .ge 30, 3) := by decide +kernel
theorem dX11_copy_127 : decode cX11_copy 127 = .ok (.aload_n 0, 1) := by decide +kernel
theorem dX11_copy_128 : decode cX11_copy 128 = .ok (.getfield 41, 3) := by decide +kernel
theorem dX11_copy_131 : decode cX11_copy 131 = .ok (.iload 6, 2) := by decide +kernel
theorem dX11_copy_133 : decode cX11_copy 133 = .ok (.aload_n 0, 1) := by decide +kernel
theorem dX11_copy_134 : decode cX11_copy 134 = .ok (.getfield 37, 3) := by decide +kernel
theorem dX11_copy_137 : decode cX11_copy 137 = .ok (.bipush 40, 2) := by decide +kernel
theorem dX11_copy_139 : decode cX11_copy 139 = .ok (.iload_n 1, 1) := by decide +kernel
theorem dX11_copy_140 : decode cX11_copy 140 = .ok (.imul, 1) := by decide +kernel
theorem dX11_copy_141 : decode cX11_copy 141 = .ok (.iload_n 2, 1) := by decide +kernel
theorem dX11_copy_142 : decode cX11_copy 142 = .ok (.iadd, 1) := by decide +kernel
theorem dX11_copy_143 : decode cX11_copy 143 = .ok (.iload 6, 2) := by decide +kernel
theorem dX11_copy_145 : decode cX11_copy 145 = .ok (.iadd, 1) := by decide +kernel
theorem dX11_copy_146 : decode cX11_copy 146 = .ok (.laload, 1) := by decide +kernel
theorem dX11_copy_147 : decode cX11_copy 147 = .ok (.lastore, 1) := by decide +kernel
theorem dX11_copy_148 : decode cX11_copy 148 = .ok (.iinc 6 1, 3) := by decide +kernel
theorem dX11_copy_151 : decode cX11_copy 151 = .ok (.goto (-31), 3) := by decide +kernel
theorem dX11_copy_154 : decode cX11_copy 154 = .ok (.iconst 0, 1) := by decide +kernel
theorem dX11_copy_155 : decode cX11_copy 155 = .ok (.istore 6, 2) := by decide +kernel
theorem dX11_copy_157 : decode cX11_copy 157 = .ok (.iload 6, 2) := by decide +kernel
theorem dX11_copy_159 : decode cX11_copy 159 = .ok (.iload 5, 2) := by decide +kernel
theorem dX11_copy_161 : decode cX11_copy 161 = .ok (.if_icmp .ge 31, 3) := by decide +kernel
theorem dX11_copy_164 : decode cX11_copy 164 = .ok (.aload_n 0, 1) := by decide +kernel
theorem dX11_copy_165 : decode cX11_copy 165 = .ok (.getfield 37, 3) := by decide +kernel
theorem dX11_copy_168 : decode cX11_copy 168 = .ok (.bipush 40, 2) := by decide +kernel
theorem dX11_copy_170 : decode cX11_copy 170 = .ok (.iload_n 3, 1) := by decide +kernel
theorem dX11_copy_171 : decode cX11_copy 171 = .ok (.imul, 1) := by decide +kernel
theorem dX11_copy_172 : decode cX11_copy 172 = .ok (.iload 4, 2) := by decide +kernel
theorem dX11_copy_174 : decode cX11_copy 174 = .ok (.iadd, 1) := by decide +kernel
theorem dX11_copy_175 : decode cX11_copy 175 = .ok (.iload 6, 2) := by decide +kernel
theorem dX11_copy_177 : decode cX11_copy 177 = .ok (.iadd, 1) := by decide +kernel
theorem dX11_copy_178 : decode cX11_copy 178 = .ok (.aload_n 0, 1) := by decide +kernel
theorem dX11_copy_179 : decode cX11_copy 179 = .ok (.getfield 41, 3) := by decide +kernel
theorem dX11_copy_182 : decode cX11_copy 182 = .ok (.iload 6, 2) := by decide +kernel
theorem dX11_copy_184 : decode cX11_copy 184 = .ok (.laload, 1) := by decide +kernel
theorem dX11_copy_185 : decode cX11_copy 185 = .ok (.lastore, 1) := by decide +kernel
theorem dX11_copy_186 : decode cX11_copy 186 = .ok (.iinc 6 1, 3) := by decide +kernel
theorem dX11_copy_189 : decode cX11_copy 189 = .ok (.goto (-32), 3) := by decide +kernel
theorem dX11_copy_192 : decode cX11_copy 192 = .ok (.iload 5, 2) := by decide +kernel
theorem dX11_copy_194 : decode cX11_copy 194 = .ok (.ireturn, 1) := by decide +kernel
theorem dX11_lays_0 : decode cX11_lays 0 = .ok (.aload_n 0, 1) := by decide +kernel
theorem dX11_lays_1 : decode cX11_lays 1 = .ok (.iload_n 1, 1) := by decide +kernel
theorem dX11_lays_2 : decode cX11_lays 2 = .ok (.invokevirtual 287, 3) := by decide +kernel
theorem dX11_lays_5 : decode cX11_lays 5 = .ok (.istore_n 2, 1) := by decide +kernel
theorem dX11_lays_6 : decode cX11_lays 6 = .ok (.iload_n 2, 1) := by decide +kernel
theorem dX11_lays_7 : decode cX11_lays 7 = .ok (.ifCond .eq 9, 3) := by decide +kernel
theorem dX11_lays_10 : decode cX11_lays 10 = .ok (.aload_n 0, 1) := by decide +kernel
theorem dX11_lays_11 : decode cX11_lays 11 = .ok (.iload_n 2, 1) := by decide +kernel
theorem dX11_lays_12 : decode cX11_lays 12 = .ok (.invokevirtual 76, 3) := by decide +kernel
theorem dX11_lays_15 : decode cX11_lays 15 = .ok (.ireturn, 1) := by decide +kernel
theorem dX11_lays_16 : decode cX11_lays 16 = .ok (.iconst 0, 1) := by decide +kernel
theorem dX11_lays_17 : decode cX11_lays 17 = .ok (.istore_n 3, 1) := by decide +kernel
theorem dX11_lays_18 : decode cX11_lays 18 = .ok (.iconst 0, 1) := by decide +kernel
theorem dX11_lays_19 : decode cX11_lays 19 = .ok (.istore 4, 2) := by decide +kernel
theorem dX11_lays_21 : decode cX11_lays 21 = .ok (.iload 4, 2) := by decide +kernel
theorem dX11_lays_23 : decode cX11_lays 23 = .ok (.aload_n 0, 1) := by decide +kernel
theorem dX11_lays_24 : decode cX11_lays 24 = .ok (.getfield 34, 3) := by decide +kernel
theorem dX11_lays_27 : decode cX11_lays 27 = .ok (.iload_n 1, 1) := by decide +kernel
theorem dX11_lays_28 : decode cX11_lays 28 = .ok (.iaload, 1) := by decide +kernel
theorem dX11_lays_29 : decode cX11_lays 29 = .ok (.if_icmp .ge 89, 3) := by decide +kernel
theorem dX11_lays_32 : decode cX11_lays 32 = .ok (.iload 4, 2) := by decide +kernel
theorem dX11_lays_34 : decode cX11_lays 34 = .ok (.bipush 6, 2) := by decide +kernel
theorem dX11_lays_36 : decode cX11_lays 36 = .ok (.if_icmp .ge 82, 3) := by decide +kernel
theorem dX11_lays_39 : decode cX11_lays 39 = .ok (.aload_n 0, 1) := by decide +kernel
theorem dX11_lays_40 : decode cX11_lays 40 = .ok (.getfield 37, 3) := by decide +kernel
theorem dX11_lays_43 : decode cX11_lays 43 = .ok (.bipush 40, 2) := by decide +kernel
theorem dX11_lays_45 : decode cX11_lays 45 = .ok (.iload_n 1, 1) := by decide +kernel
theorem dX11_lays_46 : decode cX11_lays 46 = .ok (.imul, 1) := by decide +kernel
theorem dX11_lays_47 : decode cX11_lays 47 = .ok (.iload 4, 2) := by decide +kernel
theorem dX11_lays_49 : decode cX11_lays 49 = .ok (.iadd, 1) := by decide +kernel
theorem dX11_lays_50 : decode cX11_lays 50 = .ok (.laload, 1) := by decide +kernel
theorem dX11_lays_51 : decode cX11_lays 51 = .ok (.lconst 0, 1) := by decide +kernel
theorem dX11_lays_52 : decode cX11_lays 52 = .ok (.ldc2_w 53, 3) := by decide +kernel
theorem dX11_lays_55 : decode cX11_lays 55 = .ok (.invokestatic 49, 3) := by decide +kernel
theorem dX11_lays_58 : decode cX11_lays 58 = .ok (.istore 5, 2) := by decide +kernel
theorem dX11_lays_60 : decode cX11_lays 60 = .ok (.aload_n 0, 1) := by decide +kernel
theorem dX11_lays_61 : decode cX11_lays 61 = .ok (.getfield 7, 3) := by decide +kernel
theorem dX11_lays_64 : decode cX11_lays 64 = .ok (.iconst 2, 1) := by decide +kernel
theorem dX11_lays_65 : decode cX11_lays 65 = .ok (.iload 4, 2) := by decide +kernel
theorem dX11_lays_67 : decode cX11_lays 67 = .ok (.iadd, 1) := by decide +kernel
theorem dX11_lays_68 : decode cX11_lays 68 = .ok (.iload 5, 2) := by decide +kernel
theorem dX11_lays_70 : decode cX11_lays 70 = .ok (.ifCond .eq 19, 3) := by decide +kernel
theorem dX11_lays_73 : decode cX11_lays 73 = .ok (.aload_n 0, 1) := by decide +kernel
theorem dX11_lays_74 : decode cX11_lays 74 = .ok (.getfield 37, 3) := by decide +kernel
theorem dX11_lays_77 : decode cX11_lays 77 = .ok (.bipush 40, 2) := by decide +kernel
theorem dX11_lays_79 : decode cX11_lays 79 = .ok (.iload_n 1, 1) := by decide +kernel
theorem dX11_lays_80 : decode cX11_lays 80 = .ok (.imul, 1) := by decide +kernel
theorem dX11_lays_81 : decode cX11_lays 81 = .ok (.iload 4, 2) := by decide +kernel
theorem dX11_lays_83 : decode cX11_lays 83 = .ok (.iadd, 1) := by decide +kernel
theorem dX11_lays_84 : decode cX11_lays 84 = .ok (.laload, 1) := by decide +kernel
theorem dX11_lays_85 : decode cX11_lays 85 = .ok (.l2i, 1) := by decide +kernel
theorem dX11_lays_86 : decode cX11_lays 86 = .ok (.goto 12, 3) := by decide +kernel
theorem dX11_lays_89 : decode cX11_lays 89 = .ok (.aload_n 0, 1) := by decide +kernel
theorem dX11_lays_90 : decode cX11_lays 90 = .ok (.getfield 7, 3) := by decide +kernel
theorem dX11_lays_93 : decode cX11_lays 93 = .ok (.iconst 2, 1) := by decide +kernel
theorem dX11_lays_94 : decode cX11_lays 94 = .ok (.iload 4, 2) := by decide +kernel
theorem dX11_lays_96 : decode cX11_lays 96 = .ok (.iadd, 1) := by decide +kernel
theorem dX11_lays_97 : decode cX11_lays 97 = .ok (.iaload, 1) := by decide +kernel
theorem dX11_lays_98 : decode cX11_lays 98 = .ok (.iastore, 1) := by decide +kernel
theorem dX11_lays_99 : decode cX11_lays 99 = .ok (.iload_n 3, 1) := by decide +kernel
theorem dX11_lays_100 : decode cX11_lays 100 = .ok (.iload 5, 2) := by decide +kernel
theorem dX11_lays_102 : decode cX11_lays 102 = .ok (.ifCond .eq 7, 3) := by decide +kernel
theorem dX11_lays_105 : decode cX11_lays 105 = .ok (.iconst 1, 1) := by decide +kernel
theorem dX11_lays_106 : decode cX11_lays 106 = .ok (.goto 4, 3) := by decide +kernel
theorem dX11_lays_109 : decode cX11_lays 109 = .ok (.iconst 0, 1) := by decide +kernel
theorem dX11_lays_110 : decode cX11_lays 110 = .ok (.iadd, 1) := by decide +kernel
theorem dX11_lays_111 : decode cX11_lays 111 = .ok (.istore_n 3, 1) := by decide +kernel
theorem dX11_lays_112 : decode cX11_lays 112 = .ok (.iinc 4 1, 3) := by decide +kernel
theorem dX11_lays_115 : decode cX11_lays 115 = .ok (.goto (-94), 3) := by decide +kernel
theorem dX11_lays_118 : decode cX11_lays 118 = .ok (.iload_n 3, 1) := by decide +kernel
theorem dX11_lays_119 : decode cX11_lays 119 = .ok (.ireturn, 1) := by decide +kernel
theorem dX11_book_0 : decode cX11_book 0 = .ok (.aload_n 0, 1) := by decide +kernel
theorem dX11_book_1 : decode cX11_book 1 = .ok (.iload_n 1, 1) := by decide +kernel
theorem dX11_book_2 : decode cX11_book 2 = .ok (.invokevirtual 287, 3) := by decide +kernel
theorem dX11_book_5 : decode cX11_book 5 = .ok (.istore_n 3, 1) := by decide +kernel
theorem dX11_book_6 : decode cX11_book 6 = .ok (.iload_n 3, 1) := by decide +kernel
theorem dX11_book_7 : decode cX11_book 7 = .ok (.ifCond .eq 9, 3) := by decide +kernel
theorem dX11_book_10 : decode cX11_book 10 = .ok (.aload_n 0, 1) := by decide +kernel
theorem dX11_book_11 : decode cX11_book 11 = .ok (.iload_n 3, 1) := by decide +kernel
theorem dX11_book_12 : decode cX11_book 12 = .ok (.invokevirtual 76, 3) := by decide +kernel
theorem dX11_book_15 : decode cX11_book 15 = .ok (.ireturn, 1) := by decide +kernel
theorem dX11_book_16 : decode cX11_book 16 = .ok (.aload_n 0, 1) := by decide +kernel
theorem dX11_book_17 : decode cX11_book 17 = .ok (.iload_n 2, 1) := by decide +kernel
theorem dX11_book_18 : decode cX11_book 18 = .ok (.invokevirtual 123, 3) := by decide +kernel
theorem dX11_book_21 : decode cX11_book 21 = .ok (.ifCond .ne 10, 3) := by decide +kernel
theorem dX11_book_24 : decode cX11_book 24 = .ok (.aload_n 0, 1) := by decide +kernel
theorem dX11_book_25 : decode cX11_book 25 = .ok (.ldc 44, 2) := by decide +kernel
theorem dX11_book_27 : decode cX11_book 27 = .ok (.invokevirtual 76, 3) := by decide +kernel
theorem dX11_book_30 : decode cX11_book 30 = .ok (.ireturn, 1) := by decide +kernel
theorem dX11_book_31 : decode cX11_book 31 = .ok (.aload_n 0, 1) := by decide +kernel
theorem dX11_book_32 : decode cX11_book 32 = .ok (.invokevirtual 163, 3) := by decide +kernel
theorem dX11_book_35 : decode cX11_book 35 = .ok (.iconst 0, 1) := by decide +kernel
theorem dX11_book_36 : decode cX11_book 36 = .ok (.istore 4, 2) := by decide +kernel
theorem dX11_book_38 : decode cX11_book 38 = .ok (.iload 4, 2) := by decide +kernel
theorem dX11_book_40 : decode cX11_book 40 = .ok (.aload_n 0, 1) := by decide +kernel
theorem dX11_book_41 : decode cX11_book 41 = .ok (.getfield 34, 3) := by decide +kernel
theorem dX11_book_44 : decode cX11_book 44 = .ok (.iload_n 1, 1) := by decide +kernel
theorem dX11_book_45 : decode cX11_book 45 = .ok (.iaload, 1) := by decide +kernel
theorem dX11_book_46 : decode cX11_book 46 = .ok (.if_icmp .ge 41, 3) := by decide +kernel
theorem dX11_book_49 : decode cX11_book 49 = .ok (.aload_n 0, 1) := by decide +kernel
theorem dX11_book_50 : decode cX11_book 50 = .ok (.getfield 37, 3) := by decide +kernel
theorem dX11_book_53 : decode cX11_book 53 = .ok (.bipush 40, 2) := by decide +kernel
theorem dX11_book_55 : decode cX11_book 55 = .ok (.iload_n 1, 1) := by decide +kernel
theorem dX11_book_56 : decode cX11_book 56 = .ok (.imul, 1) := by decide +kernel
theorem dX11_book_57 : decode cX11_book 57 = .ok (.iload 4, 2) := by decide +kernel
theorem dX11_book_59 : decode cX11_book 59 = .ok (.iadd, 1) := by decide +kernel
theorem dX11_book_60 : decode cX11_book 60 = .ok (.aload_n 0, 1) := by decide +kernel
theorem dX11_book_61 : decode cX11_book 61 = .ok (.getfield 31, 3) := by decide +kernel
theorem dX11_book_64 : decode cX11_book 64 = .ok (.iload_n 1, 1) := by decide +kernel
theorem dX11_book_65 : decode cX11_book 65 = .ok (.iaload, 1) := by decide +kernel
theorem dX11_book_66 : decode cX11_book 66 = .ok (.aload_n 0, 1) := by decide +kernel
theorem dX11_book_67 : decode cX11_book 67 = .ok (.iload_n 2, 1) := by decide +kernel
theorem dX11_book_68 : decode cX11_book 68 = .ok (.iconst 1, 1) := by decide +kernel
theorem dX11_book_69 : decode cX11_book 69 = .ok (.invokevirtual 59, 3) := by decide +kernel
theorem dX11_book_72 : decode cX11_book 72 = .ok (.i2l, 1) := by decide +kernel
theorem dX11_book_73 : decode cX11_book 73 = .ok (.invokestatic 290, 3) := by decide +kernel
theorem dX11_book_76 : decode cX11_book 76 = .ok (.lastore, 1) := by decide +kernel
theorem dX11_book_77 : decode cX11_book 77 = .ok (.aload_n 0, 1) := by decide +kernel
theorem dX11_book_78 : decode cX11_book 78 = .ok (.invokevirtual 151, 3) := by decide +kernel
theorem dX11_book_81 : decode cX11_book 81 = .ok (.iinc 4 1, 3) := by decide +kernel
theorem dX11_book_84 : decode cX11_book 84 = .ok (.goto (-46), 3) := by decide +kernel
theorem dX11_book_87 : decode cX11_book 87 = .ok (.aload_n 0, 1) := by decide +kernel
theorem dX11_book_88 : decode cX11_book 88 = .ok (.aload_n 0, 1) := by decide +kernel
theorem dX11_book_89 : decode cX11_book 89 = .ok (.getfield 34, 3) := by decide +kernel
theorem dX11_book_92 : decode cX11_book 92 = .ok (.iload_n 1, 1) := by decide +kernel
theorem dX11_book_93 : decode cX11_book 93 = .ok (.iaload, 1) := by decide +kernel
theorem dX11_book_94 : decode cX11_book 94 = .ok (.invokevirtual 166, 3) := by decide +kernel
theorem dX11_book_97 : decode cX11_book 97 = .ok (.ireturn, 1) := by decide +kernel
theorem dX11_isBook_0 : decode cX11_isBook 0 = .ok (.iconst 0, 1) := by decide +kernel
theorem dX11_isBook_1 : decode cX11_isBook 1 = .ok (.istore_n 3, 1) := by decide +kernel
theorem dX11_isBook_2 : decode cX11_isBook 2 = .ok (.iload_n 3, 1) := by decide +kernel
theorem dX11_isBook_3 : decode cX11_isBook 3 = .ok (.aload_n 0, 1) := by decide +kernel
theorem dX11_isBook_4 : decode cX11_isBook 4 = .ok (.getfield 34, 3) := by decide +kernel
theorem dX11_isBook_7 : decode cX11_isBook 7 = .ok (.iload_n 1, 1) := by decide +kernel
theorem dX11_isBook_8 : decode cX11_isBook 8 = .ok (.iaload, 1) := by decide +kernel
theorem dX11_isBook_9 : decode cX11_isBook 9 = .ok (.if_icmp .ge 37, 3) := by decide +kernel
theorem dX11_isBook_12 : decode cX11_isBook 12 = .ok (.aload_n 0, 1) := by decide +kernel
theorem dX11_isBook_13 : decode cX11_isBook 13 = .ok (.getfield 37, 3) := by decide +kernel
theorem dX11_isBook_16 : decode cX11_isBook 16 = .ok (.bipush 40, 2) := by decide +kernel
theorem dX11_isBook_18 : decode cX11_isBook 18 = .ok (.iload_n 1, 1) := by decide +kernel
theorem dX11_isBook_19 : decode cX11_isBook 19 = .ok (.imul, 1) := by decide +kernel
theorem dX11_isBook_20 : decode cX11_isBook 20 = .ok (.iload_n 3, 1) := by decide +kernel
theorem dX11_isBook_21 : decode cX11_isBook 21 = .ok (.iadd, 1) := by decide +kernel
theorem dX11_isBook_22 : decode cX11_isBook 22 = .ok (.laload, 1) := by decide +kernel
theorem dX11_isBook_23 : decode cX11_isBook 23 = .ok (.aload_n 0, 1) := by decide +kernel
theorem dX11_isBook_24 : decode cX11_isBook 24 = .ok (.iload_n 2, 1) := by decide +kernel
theorem dX11_isBook_25 : decode cX11_isBook 25 = .ok (.iconst 1, 1) := by decide +kernel
theorem dX11_isBook_26 : decode cX11_isBook 26 = .ok (.invokevirtual 59, 3) := by decide +kernel
theorem dX11_isBook_29 : decode cX11_isBook 29 = .ok (.i2l, 1) := by decide +kernel
theorem dX11_isBook_30 : decode cX11_isBook 30 = .ok (.lcmp, 1) := by decide +kernel
theorem dX11_isBook_31 : decode cX11_isBook 31 = .ok (.ifCond .eq 5, 3) := by decide +kernel
theorem dX11_isBook_34 : decode cX11_isBook 34 = .ok (.iconst 0, 1) := by decide +kernel
theorem dX11_isBook_35 : decode cX11_isBook 35 = .ok (.ireturn, 1) := by decide +kernel
theorem dX11_isBook_36 : decode cX11_isBook 36 = .ok (.aload_n 0, 1) := by decide +kernel
theorem dX11_isBook_37 : decode cX11_isBook 37 = .ok (.invokevirtual 151, 3) := by decide +kernel
theorem dX11_isBook_40 : decode cX11_isBook 40 = .ok (.iinc 3 1, 3) := by decide +kernel
theorem dX11_isBook_43 : decode cX11_isBook 43 = .ok (.goto (-41), 3) := by decide +kernel
theorem dX11_isBook_46 : decode cX11_isBook 46 = .ok (.iconst 1, 1) := by decide +kernel
theorem dX11_isBook_47 : decode cX11_isBook 47 = .ok (.ireturn, 1) := by decide +kernel
theorem dX11_read_0 : decode cX11_read 0 = .ok (.aload_n 0, 1) := by decide +kernel
theorem dX11_read_1 : decode cX11_read 1 = .ok (.iload_n 1, 1) := by decide +kernel
theorem dX11_read_2 : decode cX11_read 2 = .ok (.invokevirtual 287, 3) := by decide +kernel
theorem dX11_read_5 : decode cX11_read 5 = .ok (.istore_n 3, 1) := by decide +kernel
theorem dX11_read_6 : decode cX11_read 6 = .ok (.iload_n 3, 1) := by decide +kernel
theorem dX11_read_7 : decode cX11_read 7 = .ok (.ifCond .eq 9, 3) := by decide +kernel
theorem dX11_read_10 : decode cX11_read 10 = .ok (.aload_n 0, 1) := by decide +kernel
theorem dX11_read_11 : decode cX11_read 11 = .ok (.iload_n 3, 1) := by decide +kernel
theorem dX11_read_12 : decode cX11_read 12 = .ok (.invokevirtual 76, 3) := by decide +kernel
theorem dX11_read_15 : decode cX11_read 15 = .ok (.ireturn, 1) := by decide +kernel
theorem dX11_read_16 : decode cX11_read 16 = .ok (.aload_n 0, 1) := by decide +kernel
theorem dX11_read_17 : decode cX11_read 17 = .ok (.iload_n 2, 1) := by decide +kernel
theorem dX11_read_18 : decode cX11_read 18 = .ok (.invokevirtual 123, 3) := by decide +kernel
theorem dX11_read_21 : decode cX11_read 21 = .ok (.ifCond .ne 10, 3) := by decide +kernel
theorem dX11_read_24 : decode cX11_read 24 = .ok (.aload_n 0, 1) := by decide +kernel
theorem dX11_read_25 : decode cX11_read 25 = .ok (.ldc 44, 2) := by decide +kernel
theorem dX11_read_27 : decode cX11_read 27 = .ok (.invokevirtual 76, 3) := by decide +kernel
theorem dX11_read_30 : decode cX11_read 30 = .ok (.ireturn, 1) := by decide +kernel
theorem dX11_read_31 : decode cX11_read 31 = .ok (.aload_n 0, 1) := by decide +kernel
theorem dX11_read_32 : decode cX11_read 32 = .ok (.invokevirtual 163, 3) := by decide +kernel
theorem dX11_read_35 : decode cX11_read 35 = .ok (.iconst 0, 1) := by decide +kernel
theorem dX11_read_36 : decode cX11_read 36 = .ok (.istore 4, 2) := by decide +kernel
theorem dX11_read_38 : decode cX11_read 38 = .ok (.iconst 0, 1) := by decide +kernel
theorem dX11_read_39 : decode cX11_read 39 = .ok (.istore 5, 2) := by decide +kernel
theorem dX11_read_41 : decode cX11_read 41 = .ok (.iload 5, 2) := by decide +kernel
theorem dX11_read_43 : decode cX11_read 43 = .ok (.bipush 24, 2) := by decide +kernel
theorem dX11_read_45 : decode cX11_read 45 = .ok (.if_icmp .ge 62, 3) := by decide +kernel
theorem dX11_read_48 : decode cX11_read 48 = .ok (.aload_n 0, 1) := by decide +kernel
theorem dX11_read_49 : decode cX11_read 49 = .ok (.getfield 7, 3) := by decide +kernel
theorem dX11_read_52 : decode cX11_read 52 = .ok (.iload_n 2, 1) := by decide +kernel
theorem dX11_read_53 : decode cX11_read 53 = .ok (.iconst 0, 1) := by decide +kernel
theorem dX11_read_54 : decode cX11_read 54 = .ok (.invokestatic 45, 3) := by decide +kernel
theorem dX11_read_57 : decode cX11_read 57 = .ok (.iload 5, 2) := by decide +kernel
theorem dX11_read_59 : decode cX11_read 59 = .ok (.iconst 4, 1) := by decide +kernel
theorem dX11_read_60 : decode cX11_read 60 = .ok (.idiv, 1) := by decide +kernel
theorem dX11_read_61 : decode cX11_read 61 = .ok (.iastore, 1) := by decide +kernel
theorem dX11_read_62 : decode cX11_read 62 = .ok (.aload_n 0, 1) := by decide +kernel
theorem dX11_read_63 : decode cX11_read 63 = .ok (.getfield 7, 3) := by decide +kernel
theorem dX11_read_66 : decode cX11_read 66 = .ok (.iload_n 2, 1) := by decide +kernel
theorem dX11_read_67 : decode cX11_read 67 = .ok (.iconst 2, 1) := by decide +kernel
theorem dX11_read_68 : decode cX11_read 68 = .ok (.invokestatic 45, 3) := by decide +kernel
theorem dX11_read_71 : decode cX11_read 71 = .ok (.iload 5, 2) := by decide +kernel
theorem dX11_read_73 : decode cX11_read 73 = .ok (.iconst 4, 1) := by decide +kernel
theorem dX11_read_74 : decode cX11_read 74 = .ok (.irem, 1) := by decide +kernel
theorem dX11_read_75 : decode cX11_read 75 = .ok (.iconst 1, 1) := by decide +kernel
theorem dX11_read_76 : decode cX11_read 76 = .ok (.iadd, 1) := by decide +kernel
theorem dX11_read_77 : decode cX11_read 77 = .ok (.iastore, 1) := by decide +kernel
theorem dX11_read_78 : decode cX11_read 78 = .ok (.aload_n 0, 1) := by decide +kernel
theorem dX11_read_79 : decode cX11_read 79 = .ok (.iload 4, 2) := by decide +kernel
theorem dX11_read_81 : decode cX11_read 81 = .ok (.aload_n 0, 1) := by decide +kernel
theorem dX11_read_82 : decode cX11_read 82 = .ok (.iload_n 1, 1) := by decide +kernel
theorem dX11_read_83 : decode cX11_read 83 = .ok (.iload_n 2, 1) := by decide +kernel
theorem dX11_read_84 : decode cX11_read 84 = .ok (.invokevirtual 294, 3) := by decide +kernel
theorem dX11_read_87 : decode cX11_read 87 = .ok (.ifCond .eq 7, 3) := by decide +kernel
theorem dX11_read_90 : decode cX11_read 90 = .ok (.iconst 1, 1) := by decide +kernel
theorem dX11_read_91 : decode cX11_read 91 = .ok (.goto 4, 3) := by decide +kernel
theorem dX11_read_94 : decode cX11_read 94 = .ok (.iconst 0, 1) := by decide +kernel
theorem dX11_read_95 : decode cX11_read 95 = .ok (.iadd, 1) := by decide +kernel
theorem dX11_read_96 : decode cX11_read 96 = .ok (.invokevirtual 166, 3) := by decide +kernel
theorem dX11_read_99 : decode cX11_read 99 = .ok (.istore 4, 2) := by decide +kernel
theorem dX11_read_101 : decode cX11_read 101 = .ok (.iinc 5 1, 3) := by decide +kernel
theorem dX11_read_104 : decode cX11_read 104 = .ok (.goto (-63), 3) := by decide +kernel
theorem dX11_read_107 : decode cX11_read 107 = .ok (.iload 4, 2) := by decide +kernel
theorem dX11_read_109 : decode cX11_read 109 = .ok (.ireturn, 1) := by decide +kernel
theorem dX11_image_0 : decode cX11_image 0 = .ok (.iconst 0, 1) := by decide +kernel
theorem dX11_image_1 : decode cX11_image 1 = .ok (.istore_n 1, 1) := by decide +kernel
theorem dX11_image_2 : decode cX11_image 2 = .ok (.iload_n 1, 1) := by decide +kernel
theorem dX11_image_3 : decode cX11_image 3 = .ok (.bipush 51, 2) := by decide +kernel
theorem dX11_image_5 : decode cX11_image 5 = .ok (.if_icmp .ge 21, 3) := by decide +kernel
theorem dX11_image_8 : decode cX11_image 8 = .ok (.aload_n 0, 1) := by decide +kernel
theorem dX11_image_9 : decode cX11_image 9 = .ok (.getfield 13, 3) := by decide +kernel
theorem dX11_image_12 : decode cX11_image 12 = .ok (.iload_n 1, 1) := by decide +kernel
theorem dX11_image_13 : decode cX11_image 13 = .ok (.aload_n 0, 1) := by decide +kernel
theorem dX11_image_14 : decode cX11_image 14 = .ok (.getfield 7, 3) := by decide +kernel
theorem dX11_image_17 : decode cX11_image 17 = .ok (.iload_n 1, 1) := by decide +kernel
theorem dX11_image_18 : decode cX11_image 18 = .ok (.iaload, 1) := by decide +kernel
theorem dX11_image_19 : decode cX11_image 19 = .ok (.iastore, 1) := by decide +kernel
theorem dX11_image_20 : decode cX11_image 20 = .ok (.iinc 1 1, 3) := by decide +kernel
theorem dX11_image_23 : decode cX11_image 23 = .ok (.goto (-21), 3) := by decide +kernel
theorem dX11_image_26 : decode cX11_image 26 = .ok (.aload_n 0, 1) := by decide +kernel
theorem dX11_image_27 : decode cX11_image 27 = .ok (.iconst 1, 1) := by decide +kernel
theorem dX11_image_28 : decode cX11_image 28 = .ok (.putfield 297, 3) := by decide +kernel
theorem dX11_image_31 : decode cX11_image 31 = .ok (.iconst 1, 1) := by decide +kernel
theorem dX11_image_32 : decode cX11_image 32 = .ok (.ireturn, 1) := by decide +kernel
theorem dX11_undo_0 : decode cX11_undo 0 = .ok (.aload_n 0, 1) := by decide +kernel
theorem dX11_undo_1 : decode cX11_undo 1 = .ok (.getfield 297, 3) := by decide +kernel
theorem dX11_undo_4 : decode cX11_undo 4 = .ok (.ifCond .ne 10, 3) := by decide +kernel
theorem dX11_undo_7 : decode cX11_undo 7 = .ok (.aload_n 0, 1) := by decide +kernel
theorem dX11_undo_8 : decode cX11_undo 8 = .ok (.ldc 175, 2) := by decide +kernel
theorem dX11_undo_10 : decode cX11_undo 10 = .ok (.invokevirtual 76, 3) := by decide +kernel
theorem dX11_undo_13 : decode cX11_undo 13 = .ok (.ireturn, 1) := by decide +kernel
theorem dX11_undo_14 : decode cX11_undo 14 = .ok (.iconst 0, 1) := by decide +kernel
theorem dX11_undo_15 : decode cX11_undo 15 = .ok (.istore_n 1, 1) := by decide +kernel
theorem dX11_undo_16 : decode cX11_undo 16 = .ok (.iload_n 1, 1) := by decide +kernel
theorem dX11_undo_17 : decode cX11_undo 17 = .ok (.bipush 51, 2) := by decide +kernel
theorem dX11_undo_19 : decode cX11_undo 19 = .ok (.if_icmp .ge 21, 3) := by decide +kernel
theorem dX11_undo_22 : decode cX11_undo 22 = .ok (.aload_n 0, 1) := by decide +kernel
theorem dX11_undo_23 : decode cX11_undo 23 = .ok (.getfield 7, 3) := by decide +kernel
theorem dX11_undo_26 : decode cX11_undo 26 = .ok (.iload_n 1, 1) := by decide +kernel
theorem dX11_undo_27 : decode cX11_undo 27 = .ok (.aload_n 0, 1) := by decide +kernel
theorem dX11_undo_28 : decode cX11_undo 28 = .ok (.getfield 13, 3) := by decide +kernel
theorem dX11_undo_31 : decode cX11_undo 31 = .ok (.iload_n 1, 1) := by decide +kernel
theorem dX11_undo_32 : decode cX11_undo 32 = .ok (.iaload, 1) := by decide +kernel
theorem dX11_undo_33 : decode cX11_undo 33 = .ok (.iastore, 1) := by decide +kernel
theorem dX11_undo_34 : decode cX11_undo 34 = .ok (.iinc 1 1, 3) := by decide +kernel
theorem dX11_undo_37 : decode cX11_undo 37 = .ok (.goto (-21), 3) := by decide +kernel
theorem dX11_undo_40 : decode cX11_undo 40 = .ok (.aload_n 0, 1) := by decide +kernel
theorem dX11_undo_41 : decode cX11_undo 41 = .ok (.getfield 7, 3) := by decide +kernel
theorem dX11_undo_44 : decode cX11_undo 44 = .ok (.iconst 1, 1) := by decide +kernel
theorem dX11_undo_45 : decode cX11_undo 45 = .ok (.iaload, 1) := by decide +kernel
theorem dX11_undo_46 : decode cX11_undo 46 = .ok (.ireturn, 1) := by decide +kernel
theorem dX11_tear_0 : decode cX11_tear 0 = .ok (.aload_n 0, 1) := by decide +kernel
theorem dX11_tear_1 : decode cX11_tear 1 = .ok (.getfield 297, 3) := by decide +kernel
theorem dX11_tear_4 : decode cX11_tear 4 = .ok (.ifCond .eq 7, 3) := by decide +kernel
theorem dX11_tear_7 : decode cX11_tear 7 = .ok (.iconst 1, 1) := by decide +kernel
theorem dX11_tear_8 : decode cX11_tear 8 = .ok (.goto 4, 3) := by decide +kernel
theorem dX11_tear_11 : decode cX11_tear 11 = .ok (.iconst 0, 1) := by decide +kernel
theorem dX11_tear_12 : decode cX11_tear 12 = .ok (.istore_n 1, 1) := by decide +kernel
theorem dX11_tear_13 : decode cX11_tear 13 = .ok (.aload_n 0, 1) := by decide +kernel
theorem dX11_tear_14 : decode cX11_tear 14 = .ok (.iconst 0, 1) := by decide +kernel
theorem dX11_tear_15 : decode cX11_tear 15 = .ok (.putfield 297, 3) := by decide +kernel
theorem dX11_tear_18 : decode cX11_tear 18 = .ok (.iload_n 1, 1) := by decide +kernel
theorem dX11_tear_19 : decode cX11_tear 19 = .ok (.ireturn, 1) := by decide +kernel
theorem dX11_count_0 : decode cX11_count 0 = .ok (.iload_n 1, 1) := by decide +kernel
theorem dX11_count_1 : decode cX11_count 1 = .ok (.tableswitch 55 0 3 #[31, 38, 43, 49], 31) := by decide +kernel
theorem dX11_count_32 : decode cX11_count 32 = .ok (.aload_n 0, 1) := by decide +kernel
theorem dX11_count_33 : decode cX11_count 33 = .ok (.getfield 7, 3) := by decide +kernel
theorem dX11_count_36 : decode cX11_count 36 = .ok (.iconst 1, 1) := by decide +kernel
theorem dX11_count_37 : decode cX11_count 37 = .ok (.iaload, 1) := by decide +kernel
theorem dX11_count_38 : decode cX11_count 38 = .ok (.ireturn, 1) := by decide +kernel
theorem dX11_count_39 : decode cX11_count 39 = .ok (.aload_n 0, 1) := by decide +kernel
theorem dX11_count_40 : decode cX11_count 40 = .ok (.getfield 191, 3) := by decide +kernel
theorem dX11_count_43 : decode cX11_count 43 = .ok (.ireturn, 1) := by decide +kernel
theorem dX11_count_44 : decode cX11_count 44 = .ok (.aload_n 0, 1) := by decide +kernel
theorem dX11_count_45 : decode cX11_count 45 = .ok (.iconst 3, 1) := by decide +kernel
theorem dX11_count_46 : decode cX11_count 46 = .ok (.invokevirtual 62, 3) := by decide +kernel
theorem dX11_count_49 : decode cX11_count 49 = .ok (.ireturn, 1) := by decide +kernel
theorem dX11_count_50 : decode cX11_count 50 = .ok (.aload_n 0, 1) := by decide +kernel
theorem dX11_count_51 : decode cX11_count 51 = .ok (.iconst 4, 1) := by decide +kernel
theorem dX11_count_52 : decode cX11_count 52 = .ok (.invokevirtual 62, 3) := by decide +kernel
theorem dX11_count_55 : decode cX11_count 55 = .ok (.ireturn, 1) := by decide +kernel
theorem dX11_count_56 : decode cX11_count 56 = .ok (.aload_n 0, 1) := by decide +kernel
theorem dX11_count_57 : decode cX11_count 57 = .ok (.ldc 44, 2) := by decide +kernel
theorem dX11_count_59 : decode cX11_count 59 = .ok (.invokevirtual 76, 3) := by decide +kernel
theorem dX11_count_62 : decode cX11_count 62 = .ok (.ireturn, 1) := by decide +kernel
theorem dX11_status_0 : decode cX11_status 0 = .ok (.iload_n 1, 1) := by decide +kernel
theorem dX11_status_1 : decode cX11_status 1 = .ok (.i2l, 1) := by decide +kernel
theorem dX11_status_2 : decode cX11_status 2 = .ok (.ldc2_w 300, 3) := by decide +kernel
theorem dX11_status_5 : decode cX11_status 5 = .ok (.ldc2_w 302, 3) := by decide +kernel
theorem dX11_status_8 : decode cX11_status 8 = .ok (.invokestatic 49, 3) := by decide +kernel
theorem dX11_status_11 : decode cX11_status 11 = .ok (.ifCond .ne 10, 3) := by decide +kernel
theorem dX11_status_14 : decode cX11_status 14 = .ok (.aload_n 0, 1) := by decide +kernel
theorem dX11_status_15 : decode cX11_status 15 = .ok (.ldc 44, 2) := by decide +kernel
theorem dX11_status_17 : decode cX11_status 17 = .ok (.invokevirtual 76, 3) := by decide +kernel
theorem dX11_status_20 : decode cX11_status 20 = .ok (.ireturn, 1) := by decide +kernel
theorem dX11_status_21 : decode cX11_status 21 = .ok (.iconst 0, 1) := by decide +kernel
theorem dX11_status_22 : decode cX11_status 22 = .ok (.istore_n 2, 1) := by decide +kernel
theorem dX11_status_23 : decode cX11_status 23 = .ok (.iconst 0, 1) := by decide +kernel
theorem dX11_status_24 : decode cX11_status 24 = .ok (.istore_n 3, 1) := by decide +kernel
theorem dX11_status_25 : decode cX11_status 25 = .ok (.iload_n 3, 1) := by decide +kernel
theorem dX11_status_26 : decode cX11_status 26 = .ok (.bipush 7, 2) := by decide +kernel
theorem dX11_status_28 : decode cX11_status 28 = .ok (.if_icmp .ge 31, 3) := by decide +kernel
theorem dX11_status_31 : decode cX11_status 31 = .ok (.iload_n 2, 1) := by decide +kernel
theorem dX11_status_32 : decode cX11_status 32 = .ok (.iload_n 1, 1) := by decide +kernel
theorem dX11_status_33 : decode cX11_status 33 = .ok (.ifCond .lt 8, 3) := by decide +kernel
theorem dX11_status_36 : decode cX11_status 36 = .ok (.iload_n 3, 1) := by decide +kernel
theorem dX11_status_37 : decode cX11_status 37 = .ok (.iload_n 1, 1) := by decide +kernel
theorem dX11_status_38 : decode cX11_status 38 = .ok (.if_icmp .ne 12, 3) := by decide +kernel
theorem dX11_status_41 : decode cX11_status 41 = .ok (.aload_n 0, 1) := by decide +kernel
theorem dX11_status_42 : decode cX11_status 42 = .ok (.getfield 22, 3) := by decide +kernel
theorem dX11_status_45 : decode cX11_status 45 = .ok (.iload_n 3, 1) := by decide +kernel
theorem dX11_status_46 : decode cX11_status 46 = .ok (.iaload, 1) := by decide +kernel
theorem dX11_status_47 : decode cX11_status 47 = .ok (.goto 4, 3) := by decide +kernel
theorem dX11_status_50 : decode cX11_status 50 = .ok (.iconst 0, 1) := by decide +kernel
theorem dX11_status_51 : decode cX11_status 51 = .ok (.iadd, 1) := by decide +kernel
theorem dX11_status_52 : decode cX11_status 52 = .ok (.istore_n 2, 1) := by decide +kernel
theorem dX11_status_53 : decode cX11_status 53 = .ok (.iinc 3 1, 3) := by decide +kernel
theorem dX11_status_56 : decode cX11_status 56 = .ok (.goto (-31), 3) := by decide +kernel
theorem dX11_status_59 : decode cX11_status 59 = .ok (.iload_n 2, 1) := by decide +kernel
theorem dX11_status_60 : decode cX11_status 60 = .ok (.ireturn, 1) := by decide +kernel
theorem dL_law_0 : decode cL_law 0 = .ok (.new 7, 3) := by decide +kernel
theorem dL_law_3 : decode cL_law 3 = .ok (.dup, 1) := by decide +kernel
theorem dL_law_4 : decode cL_law 4 = .ok (.invokespecial 9, 3) := by decide +kernel
theorem dL_law_7 : decode cL_law 7 = .ok (.astore_n 1, 1) := by decide +kernel
theorem dL_law_8 : decode cL_law 8 = .ok (.new 10, 3) := by decide +kernel
theorem dL_law_11 : decode cL_law 11 = .ok (.dup, 1) := by decide +kernel
theorem dL_law_12 : decode cL_law 12 = .ok (.invokespecial 12, 3) := by decide +kernel
theorem dL_law_15 : decode cL_law 15 = .ok (.astore_n 2, 1) := by decide +kernel
theorem dL_law_16 : decode cL_law 16 = .ok (.iconst 0, 1) := by decide +kernel
theorem dL_law_17 : decode cL_law 17 = .ok (.istore_n 3, 1) := by decide +kernel
theorem dL_law_18 : decode cL_law 18 = .ok (.iload_n 3, 1) := by decide +kernel
theorem dL_law_19 : decode cL_law 19 = .ok (.aload_n 0, 1) := by decide +kernel
theorem dL_law_20 : decode cL_law 20 = .ok (.arraylength, 1) := by decide +kernel
theorem dL_law_21 : decode cL_law 21 = .ok (.bipush 6, 2) := by decide +kernel
theorem dL_law_23 : decode cL_law 23 = .ok (.isub, 1) := by decide +kernel
theorem dL_law_24 : decode cL_law 24 = .ok (.if_icmp .gt 1246, 3) := by decide +kernel
theorem dL_law_27 : decode cL_law 27 = .ok (.aload_n 0, 1) := by decide +kernel
theorem dL_law_28 : decode cL_law 28 = .ok (.iload_n 3, 1) := by decide +kernel
theorem dL_law_29 : decode cL_law 29 = .ok (.iaload, 1) := by decide +kernel
theorem dL_law_30 : decode cL_law 30 = .ok (.bipush 63, 2) := by decide +kernel
theorem dL_law_32 : decode cL_law 32 = .ok (.iand, 1) := by decide +kernel
theorem dL_law_33 : decode cL_law 33 = .ok (.tableswitch 1231 0 34 #[155, 188, 221, 244, 267, 300, 333, 376, 409, 442, 465, 508, 531, 564, 587, 620, 653, 686, 729, 762, 795, 818, 851, 864, 877, 920, 994, 1057, 1080, 1113, 1146, 1159, 1172, 1185, 1208], 155) := by decide +kernel
theorem dL_law_188 : decode cL_law 188 = .ok (.aload_n 1, 1) := by decide +kernel
theorem dL_law_189 : decode cL_law 189 = .ok (.aload_n 0, 1) := by decide +kernel
theorem dL_law_190 : decode cL_law 190 = .ok (.iload_n 3, 1) := by decide +kernel
theorem dL_law_191 : decode cL_law 191 = .ok (.iconst 1, 1) := by decide +kernel
theorem dL_law_192 : decode cL_law 192 = .ok (.iadd, 1) := by decide +kernel
theorem dL_law_193 : decode cL_law 193 = .ok (.iaload, 1) := by decide +kernel
theorem dL_law_194 : decode cL_law 194 = .ok (.aload_n 0, 1) := by decide +kernel
theorem dL_law_195 : decode cL_law 195 = .ok (.iload_n 3, 1) := by decide +kernel
theorem dL_law_196 : decode cL_law 196 = .ok (.iconst 2, 1) := by decide +kernel
theorem dL_law_197 : decode cL_law 197 = .ok (.iadd, 1) := by decide +kernel
theorem dL_law_198 : decode cL_law 198 = .ok (.iaload, 1) := by decide +kernel
theorem dL_law_199 : decode cL_law 199 = .ok (.invokevirtual 13, 3) := by decide +kernel
theorem dL_law_202 : decode cL_law 202 = .ok (.aload_n 2, 1) := by decide +kernel
theorem dL_law_203 : decode cL_law 203 = .ok (.aload_n 0, 1) := by decide +kernel
theorem dL_law_204 : decode cL_law 204 = .ok (.iload_n 3, 1) := by decide +kernel
theorem dL_law_205 : decode cL_law 205 = .ok (.iconst 1, 1) := by decide +kernel
theorem dL_law_206 : decode cL_law 206 = .ok (.iadd, 1) := by decide +kernel
theorem dL_law_207 : decode cL_law 207 = .ok (.iaload, 1) := by decide +kernel
theorem dL_law_208 : decode cL_law 208 = .ok (.aload_n 0, 1) := by decide +kernel
theorem dL_law_209 : decode cL_law 209 = .ok (.iload_n 3, 1) := by decide +kernel
theorem dL_law_210 : decode cL_law 210 = .ok (.iconst 2, 1) := by decide +kernel
theorem dL_law_211 : decode cL_law 211 = .ok (.iadd, 1) := by decide +kernel
theorem dL_law_212 : decode cL_law 212 = .ok (.iaload, 1) := by decide +kernel
theorem dL_law_213 : decode cL_law 213 = .ok (.invokevirtual 17, 3) := by decide +kernel
theorem dL_law_216 : decode cL_law 216 = .ok (.if_icmp .eq 1048, 3) := by decide +kernel
theorem dL_law_219 : decode cL_law 219 = .ok (.iconst 0, 1) := by decide +kernel
theorem dL_law_220 : decode cL_law 220 = .ok (.ireturn, 1) := by decide +kernel
theorem dL_law_221 : decode cL_law 221 = .ok (.aload_n 1, 1) := by decide +kernel
theorem dL_law_222 : decode cL_law 222 = .ok (.aload_n 0, 1) := by decide +kernel
theorem dL_law_223 : decode cL_law 223 = .ok (.iload_n 3, 1) := by decide +kernel
theorem dL_law_224 : decode cL_law 224 = .ok (.iconst 1, 1) := by decide +kernel
theorem dL_law_225 : decode cL_law 225 = .ok (.iadd, 1) := by decide +kernel
theorem dL_law_226 : decode cL_law 226 = .ok (.iaload, 1) := by decide +kernel
theorem dL_law_227 : decode cL_law 227 = .ok (.aload_n 0, 1) := by decide +kernel
theorem dL_law_228 : decode cL_law 228 = .ok (.iload_n 3, 1) := by decide +kernel
theorem dL_law_229 : decode cL_law 229 = .ok (.iconst 2, 1) := by decide +kernel
theorem dL_law_230 : decode cL_law 230 = .ok (.iadd, 1) := by decide +kernel
theorem dL_law_231 : decode cL_law 231 = .ok (.iaload, 1) := by decide +kernel
theorem dL_law_232 : decode cL_law 232 = .ok (.invokevirtual 18, 3) := by decide +kernel
theorem dL_law_235 : decode cL_law 235 = .ok (.aload_n 2, 1) := by decide +kernel
theorem dL_law_236 : decode cL_law 236 = .ok (.aload_n 0, 1) := by decide +kernel
theorem dL_law_237 : decode cL_law 237 = .ok (.iload_n 3, 1) := by decide +kernel
theorem dL_law_238 : decode cL_law 238 = .ok (.iconst 1, 1) := by decide +kernel
theorem dL_law_239 : decode cL_law 239 = .ok (.iadd, 1) := by decide +kernel
theorem dL_law_240 : decode cL_law 240 = .ok (.iaload, 1) := by decide +kernel
theorem dL_law_241 : decode cL_law 241 = .ok (.aload_n 0, 1) := by decide +kernel
theorem dL_law_242 : decode cL_law 242 = .ok (.iload_n 3, 1) := by decide +kernel
theorem dL_law_243 : decode cL_law 243 = .ok (.iconst 2, 1) := by decide +kernel
theorem dL_law_244 : decode cL_law 244 = .ok (.iadd, 1) := by decide +kernel
theorem dL_law_245 : decode cL_law 245 = .ok (.iaload, 1) := by decide +kernel
theorem dL_law_246 : decode cL_law 246 = .ok (.invokevirtual 21, 3) := by decide +kernel
theorem dL_law_249 : decode cL_law 249 = .ok (.if_icmp .eq 1015, 3) := by decide +kernel
theorem dL_law_252 : decode cL_law 252 = .ok (.iconst 0, 1) := by decide +kernel
theorem dL_law_253 : decode cL_law 253 = .ok (.ireturn, 1) := by decide +kernel
theorem dL_law_254 : decode cL_law 254 = .ok (.aload_n 1, 1) := by decide +kernel
theorem dL_law_255 : decode cL_law 255 = .ok (.aload_n 0, 1) := by decide +kernel
theorem dL_law_256 : decode cL_law 256 = .ok (.iload_n 3, 1) := by decide +kernel
theorem dL_law_257 : decode cL_law 257 = .ok (.iconst 1, 1) := by decide +kernel
theorem dL_law_258 : decode cL_law 258 = .ok (.iadd, 1) := by decide +kernel
theorem dL_law_259 : decode cL_law 259 = .ok (.iaload, 1) := by decide +kernel
theorem dL_law_260 : decode cL_law 260 = .ok (.invokevirtual 22, 3) := by decide +kernel
theorem dL_law_263 : decode cL_law 263 = .ok (.aload_n 2, 1) := by decide +kernel
theorem dL_law_264 : decode cL_law 264 = .ok (.aload_n 0, 1) := by decide +kernel
theorem dL_law_265 : decode cL_law 265 = .ok (.iload_n 3, 1) := by decide +kernel
theorem dL_law_266 : decode cL_law 266 = .ok (.iconst 1, 1) := by decide +kernel
theorem dL_law_267 : decode cL_law 267 = .ok (.iadd, 1) := by decide +kernel
theorem dL_law_268 : decode cL_law 268 = .ok (.iaload, 1) := by decide +kernel
theorem dL_law_269 : decode cL_law 269 = .ok (.invokevirtual 26, 3) := by decide +kernel
theorem dL_law_272 : decode cL_law 272 = .ok (.if_icmp .eq 992, 3) := by decide +kernel
theorem dL_law_275 : decode cL_law 275 = .ok (.iconst 0, 1) := by decide +kernel
theorem dL_law_276 : decode cL_law 276 = .ok (.ireturn, 1) := by decide +kernel
theorem dL_law_277 : decode cL_law 277 = .ok (.aload_n 1, 1) := by decide +kernel
theorem dL_law_278 : decode cL_law 278 = .ok (.aload_n 0, 1) := by decide +kernel
theorem dL_law_279 : decode cL_law 279 = .ok (.iload_n 3, 1) := by decide +kernel
theorem dL_law_280 : decode cL_law 280 = .ok (.iconst 1, 1) := by decide +kernel
theorem dL_law_281 : decode cL_law 281 = .ok (.iadd, 1) := by decide +kernel
theorem dL_law_282 : decode cL_law 282 = .ok (.iaload, 1) := by decide +kernel
theorem dL_law_283 : decode cL_law 283 = .ok (.invokevirtual 27, 3) := by decide +kernel
theorem dL_law_286 : decode cL_law 286 = .ok (.aload_n 2, 1) := by decide +kernel
theorem dL_law_287 : decode cL_law 287 = .ok (.aload_n 0, 1) := by decide +kernel
theorem dL_law_288 : decode cL_law 288 = .ok (.iload_n 3, 1) := by decide +kernel
theorem dL_law_289 : decode cL_law 289 = .ok (.iconst 1, 1) := by decide +kernel
theorem dL_law_290 : decode cL_law 290 = .ok (.iadd, 1) := by decide +kernel
theorem dL_law_291 : decode cL_law 291 = .ok (.iaload, 1) := by decide +kernel
theorem dL_law_292 : decode cL_law 292 = .ok (.invokevirtual 30, 3) := by decide +kernel
theorem dL_law_295 : decode cL_law 295 = .ok (.if_icmp .eq 969, 3) := by decide +kernel
theorem dL_law_298 : decode cL_law 298 = .ok (.iconst 0, 1) := by decide +kernel
theorem dL_law_299 : decode cL_law 299 = .ok (.ireturn, 1) := by decide +kernel
theorem dL_law_300 : decode cL_law 300 = .ok (.aload_n 1, 1) := by decide +kernel
theorem dL_law_301 : decode cL_law 301 = .ok (.aload_n 0, 1) := by decide +kernel
theorem dL_law_302 : decode cL_law 302 = .ok (.iload_n 3, 1) := by decide +kernel
theorem dL_law_303 : decode cL_law 303 = .ok (.iconst 1, 1) := by decide +kernel
theorem dL_law_304 : decode cL_law 304 = .ok (.iadd, 1) := by decide +kernel
theorem dL_law_305 : decode cL_law 305 = .ok (.iaload, 1) := by decide +kernel
theorem dL_law_306 : decode cL_law 306 = .ok (.aload_n 0, 1) := by decide +kernel
theorem dL_law_307 : decode cL_law 307 = .ok (.iload_n 3, 1) := by decide +kernel
theorem dL_law_308 : decode cL_law 308 = .ok (.iconst 2, 1) := by decide +kernel
theorem dL_law_309 : decode cL_law 309 = .ok (.iadd, 1) := by decide +kernel
theorem dL_law_310 : decode cL_law 310 = .ok (.iaload, 1) := by decide +kernel
theorem dL_law_311 : decode cL_law 311 = .ok (.invokevirtual 31, 3) := by decide +kernel
theorem dL_law_314 : decode cL_law 314 = .ok (.aload_n 2, 1) := by decide +kernel
theorem dL_law_315 : decode cL_law 315 = .ok (.aload_n 0, 1) := by decide +kernel
theorem dL_law_316 : decode cL_law 316 = .ok (.iload_n 3, 1) := by decide +kernel
theorem dL_law_317 : decode cL_law 317 = .ok (.iconst 1, 1) := by decide +kernel
theorem dL_law_318 : decode cL_law 318 = .ok (.iadd, 1) := by decide +kernel
theorem dL_law_319 : decode cL_law 319 = .ok (.iaload, 1) := by decide +kernel
theorem dL_law_320 : decode cL_law 320 = .ok (.aload_n 0, 1) := by decide +kernel
theorem dL_law_321 : decode cL_law 321 = .ok (.iload_n 3, 1) := by decide +kernel
theorem dL_law_322 : decode cL_law 322 = .ok (.iconst 2, 1) := by decide +kernel
theorem dL_law_323 : decode cL_law 323 = .ok (.iadd, 1) := by decide +kernel
theorem dL_law_324 : decode cL_law 324 = .ok (.iaload, 1) := by decide +kernel
theorem dL_law_325 : decode cL_law 325 = .ok (.invokevirtual 34, 3) := by decide +kernel
theorem dL_law_328 : decode cL_law 328 = .ok (.if_icmp .eq 936, 3) := by decide +kernel
theorem dL_law_331 : decode cL_law 331 = .ok (.iconst 0, 1) := by decide +kernel
theorem dL_law_332 : decode cL_law 332 = .ok (.ireturn, 1) := by decide +kernel
theorem dL_law_333 : decode cL_law 333 = .ok (.aload_n 1, 1) := by decide +kernel
theorem dL_law_334 : decode cL_law 334 = .ok (.aload_n 0, 1) := by decide +kernel
theorem dL_law_335 : decode cL_law 335 = .ok (.iload_n 3, 1) := by decide +kernel
theorem dL_law_336 : decode cL_law 336 = .ok (.iconst 1, 1) := by decide +kernel
theorem dL_law_337 : decode cL_law 337 = .ok (.iadd, 1) := by decide +kernel
theorem dL_law_338 : decode cL_law 338 = .ok (.iaload, 1) := by decide +kernel
theorem dL_law_339 : decode cL_law 339 = .ok (.aload_n 0, 1) := by decide +kernel
theorem dL_law_340 : decode cL_law 340 = .ok (.iload_n 3, 1) := by decide +kernel
theorem dL_law_341 : decode cL_law 341 = .ok (.iconst 2, 1) := by decide +kernel
theorem dL_law_342 : decode cL_law 342 = .ok (.iadd, 1) := by decide +kernel
theorem dL_law_343 : decode cL_law 343 = .ok (.iaload, 1) := by decide +kernel
theorem dL_law_344 : decode cL_law 344 = .ok (.invokevirtual 35, 3) := by decide +kernel
theorem dL_law_347 : decode cL_law 347 = .ok (.aload_n 2, 1) := by decide +kernel
theorem dL_law_348 : decode cL_law 348 = .ok (.aload_n 0, 1) := by decide +kernel
theorem dL_law_349 : decode cL_law 349 = .ok (.iload_n 3, 1) := by decide +kernel
theorem dL_law_350 : decode cL_law 350 = .ok (.iconst 1, 1) := by decide +kernel
theorem dL_law_351 : decode cL_law 351 = .ok (.iadd, 1) := by decide +kernel
theorem dL_law_352 : decode cL_law 352 = .ok (.iaload, 1) := by decide +kernel
theorem dL_law_353 : decode cL_law 353 = .ok (.aload_n 0, 1) := by decide +kernel
theorem dL_law_354 : decode cL_law 354 = .ok (.iload_n 3, 1) := by decide +kernel
theorem dL_law_355 : decode cL_law 355 = .ok (.iconst 2, 1) := by decide +kernel
theorem dL_law_356 : decode cL_law 356 = .ok (.iadd, 1) := by decide +kernel
theorem dL_law_357 : decode cL_law 357 = .ok (.iaload, 1) := by decide +kernel
theorem dL_law_358 : decode cL_law 358 = .ok (.invokevirtual 38, 3) := by decide +kernel
theorem dL_law_361 : decode cL_law 361 = .ok (.if_icmp .eq 903, 3) := by decide +kernel
theorem dL_law_364 : decode cL_law 364 = .ok (.iconst 0, 1) := by decide +kernel
theorem dL_law_365 : decode cL_law 365 = .ok (.ireturn, 1) := by decide +kernel
theorem dL_law_366 : decode cL_law 366 = .ok (.aload_n 1, 1) := by decide +kernel
theorem dL_law_367 : decode cL_law 367 = .ok (.aload_n 0, 1) := by decide +kernel
theorem dL_law_368 : decode cL_law 368 = .ok (.iload_n 3, 1) := by decide +kernel
theorem dL_law_369 : decode cL_law 369 = .ok (.iconst 1, 1) := by decide +kernel
theorem dL_law_370 : decode cL_law 370 = .ok (.iadd, 1) := by decide +kernel
theorem dL_law_371 : decode cL_law 371 = .ok (.iaload, 1) := by decide +kernel
theorem dL_law_372 : decode cL_law 372 = .ok (.aload_n 0, 1) := by decide +kernel
theorem dL_law_373 : decode cL_law 373 = .ok (.iload_n 3, 1) := by decide +kernel
theorem dL_law_374 : decode cL_law 374 = .ok (.iconst 2, 1) := by decide +kernel
theorem dL_law_375 : decode cL_law 375 = .ok (.iadd, 1) := by decide +kernel
theorem dL_law_376 : decode cL_law 376 = .ok (.iaload, 1) := by decide +kernel
theorem dL_law_377 : decode cL_law 377 = .ok (.aload_n 0, 1) := by decide +kernel
theorem dL_law_378 : decode cL_law 378 = .ok (.iload_n 3, 1) := by decide +kernel
theorem dL_law_379 : decode cL_law 379 = .ok (.iconst 3, 1) := by decide +kernel
theorem dL_law_380 : decode cL_law 380 = .ok (.iadd, 1) := by decide +kernel
theorem dL_law_381 : decode cL_law 381 = .ok (.iaload, 1) := by decide +kernel
theorem dL_law_382 : decode cL_law 382 = .ok (.invokevirtual 39, 3) := by decide +kernel
theorem dL_law_385 : decode cL_law 385 = .ok (.aload_n 2, 1) := by decide +kernel
theorem dL_law_386 : decode cL_law 386 = .ok (.aload_n 0, 1) := by decide +kernel
theorem dL_law_387 : decode cL_law 387 = .ok (.iload_n 3, 1) := by decide +kernel
theorem dL_law_388 : decode cL_law 388 = .ok (.iconst 1, 1) := by decide +kernel
theorem dL_law_389 : decode cL_law 389 = .ok (.iadd, 1) := by decide +kernel
theorem dL_law_390 : decode cL_law 390 = .ok (.iaload, 1) := by decide +kernel
theorem dL_law_391 : decode cL_law 391 = .ok (.aload_n 0, 1) := by decide +kernel
theorem dL_law_392 : decode cL_law 392 = .ok (.iload_n 3, 1) := by decide +kernel
theorem dL_law_393 : decode cL_law 393 = .ok (.iconst 2, 1) := by decide +kernel
theorem dL_law_394 : decode cL_law 394 = .ok (.iadd, 1) := by decide +kernel
theorem dL_law_395 : decode cL_law 395 = .ok (.iaload, 1) := by decide +kernel
theorem dL_law_396 : decode cL_law 396 = .ok (.aload_n 0, 1) := by decide +kernel
theorem dL_law_397 : decode cL_law 397 = .ok (.iload_n 3, 1) := by decide +kernel
theorem dL_law_398 : decode cL_law 398 = .ok (.iconst 3, 1) := by decide +kernel
theorem dL_law_399 : decode cL_law 399 = .ok (.iadd, 1) := by decide +kernel
theorem dL_law_400 : decode cL_law 400 = .ok (.iaload, 1) := by decide +kernel
theorem dL_law_401 : decode cL_law 401 = .ok (.invokevirtual 43, 3) := by decide +kernel
theorem dL_law_404 : decode cL_law 404 = .ok (.if_icmp .eq 860, 3) := by decide +kernel
theorem dL_law_407 : decode cL_law 407 = .ok (.iconst 0, 1) := by decide +kernel
theorem dL_law_408 : decode cL_law 408 = .ok (.ireturn, 1) := by decide +kernel
theorem dL_law_409 : decode cL_law 409 = .ok (.aload_n 1, 1) := by decide +kernel
theorem dL_law_410 : decode cL_law 410 = .ok (.aload_n 0, 1) := by decide +kernel
theorem dL_law_411 : decode cL_law 411 = .ok (.iload_n 3, 1) := by decide +kernel
theorem dL_law_412 : decode cL_law 412 = .ok (.iconst 1, 1) := by decide +kernel
theorem dL_law_413 : decode cL_law 413 = .ok (.iadd, 1) := by decide +kernel
theorem dL_law_414 : decode cL_law 414 = .ok (.iaload, 1) := by decide +kernel
theorem dL_law_415 : decode cL_law 415 = .ok (.aload_n 0, 1) := by decide +kernel
theorem dL_law_416 : decode cL_law 416 = .ok (.iload_n 3, 1) := by decide +kernel
theorem dL_law_417 : decode cL_law 417 = .ok (.iconst 2, 1) := by decide +kernel
theorem dL_law_418 : decode cL_law 418 = .ok (.iadd, 1) := by decide +kernel
theorem dL_law_419 : decode cL_law 419 = .ok (.iaload, 1) := by decide +kernel
theorem dL_law_420 : decode cL_law 420 = .ok (.invokevirtual 44, 3) := by decide +kernel
theorem dL_law_423 : decode cL_law 423 = .ok (.aload_n 2, 1) := by decide +kernel
theorem dL_law_424 : decode cL_law 424 = .ok (.aload_n 0, 1) := by decide +kernel
theorem dL_law_425 : decode cL_law 425 = .ok (.iload_n 3, 1) := by decide +kernel
theorem dL_law_426 : decode cL_law 426 = .ok (.iconst 1, 1) := by decide +kernel
theorem dL_law_427 : decode cL_law 427 = .ok (.iadd, 1) := by decide +kernel
theorem dL_law_428 : decode cL_law 428 = .ok (.iaload, 1) := by decide +kernel
theorem dL_law_429 : decode cL_law 429 = .ok (.aload_n 0, 1) := by decide +kernel
theorem dL_law_430 : decode cL_law 430 = .ok (.iload_n 3, 1) := by decide +kernel
theorem dL_law_431 : decode cL_law 431 = .ok (.iconst 2, 1) := by decide +kernel
theorem dL_law_432 : decode cL_law 432 = .ok (.iadd, 1) := by decide +kernel
theorem dL_law_433 : decode cL_law 433 = .ok (.iaload, 1) := by decide +kernel
theorem dL_law_434 : decode cL_law 434 = .ok (.invokevirtual 47, 3) := by decide +kernel
theorem dL_law_437 : decode cL_law 437 = .ok (.if_icmp .eq 827, 3) := by decide +kernel
theorem dL_law_440 : decode cL_law 440 = .ok (.iconst 0, 1) := by decide +kernel
theorem dL_law_441 : decode cL_law 441 = .ok (.ireturn, 1) := by decide +kernel
theorem dL_law_442 : decode cL_law 442 = .ok (.aload_n 1, 1) := by decide +kernel
theorem dL_law_443 : decode cL_law 443 = .ok (.aload_n 0, 1) := by decide +kernel
theorem dL_law_444 : decode cL_law 444 = .ok (.iload_n 3, 1) := by decide +kernel
theorem dL_law_445 : decode cL_law 445 = .ok (.iconst 1, 1) := by decide +kernel
theorem dL_law_446 : decode cL_law 446 = .ok (.iadd, 1) := by decide +kernel
theorem dL_law_447 : decode cL_law 447 = .ok (.iaload, 1) := by decide +kernel
theorem dL_law_448 : decode cL_law 448 = .ok (.aload_n 0, 1) := by decide +kernel
theorem dL_law_449 : decode cL_law 449 = .ok (.iload_n 3, 1) := by decide +kernel
theorem dL_law_450 : decode cL_law 450 = .ok (.iconst 2, 1) := by decide +kernel
theorem dL_law_451 : decode cL_law 451 = .ok (.iadd, 1) := by decide +kernel
theorem dL_law_452 : decode cL_law 452 = .ok (.iaload, 1) := by decide +kernel
theorem dL_law_453 : decode cL_law 453 = .ok (.invokevirtual 48, 3) := by decide +kernel
theorem dL_law_456 : decode cL_law 456 = .ok (.aload_n 2, 1) := by decide +kernel
theorem dL_law_457 : decode cL_law 457 = .ok (.aload_n 0, 1) := by decide +kernel
theorem dL_law_458 : decode cL_law 458 = .ok (.iload_n 3, 1) := by decide +kernel
theorem dL_law_459 : decode cL_law 459 = .ok (.iconst 1, 1) := by decide +kernel
theorem dL_law_460 : decode cL_law 460 = .ok (.iadd, 1) := by decide +kernel
theorem dL_law_461 : decode cL_law 461 = .ok (.iaload, 1) := by decide +kernel
theorem dL_law_462 : decode cL_law 462 = .ok (.aload_n 0, 1) := by decide +kernel
theorem dL_law_463 : decode cL_law 463 = .ok (.iload_n 3, 1) := by decide +kernel
theorem dL_law_464 : decode cL_law 464 = .ok (.iconst 2, 1) := by decide +kernel
theorem dL_law_465 : decode cL_law 465 = .ok (.iadd, 1) := by decide +kernel
theorem dL_law_466 : decode cL_law 466 = .ok (.iaload, 1) := by decide +kernel
theorem dL_law_467 : decode cL_law 467 = .ok (.invokevirtual 51, 3) := by decide +kernel
theorem dL_law_470 : decode cL_law 470 = .ok (.if_icmp .eq 794, 3) := by decide +kernel
theorem dL_law_473 : decode cL_law 473 = .ok (.iconst 0, 1) := by decide +kernel
theorem dL_law_474 : decode cL_law 474 = .ok (.ireturn, 1) := by decide +kernel
theorem dL_law_475 : decode cL_law 475 = .ok (.aload_n 1, 1) := by decide +kernel
theorem dL_law_476 : decode cL_law 476 = .ok (.aload_n 0, 1) := by decide +kernel
theorem dL_law_477 : decode cL_law 477 = .ok (.iload_n 3, 1) := by decide +kernel
theorem dL_law_478 : decode cL_law 478 = .ok (.iconst 1, 1) := by decide +kernel
theorem dL_law_479 : decode cL_law 479 = .ok (.iadd, 1) := by decide +kernel
theorem dL_law_480 : decode cL_law 480 = .ok (.iaload, 1) := by decide +kernel
theorem dL_law_481 : decode cL_law 481 = .ok (.invokevirtual 52, 3) := by decide +kernel
theorem dL_law_484 : decode cL_law 484 = .ok (.aload_n 2, 1) := by decide +kernel
theorem dL_law_485 : decode cL_law 485 = .ok (.aload_n 0, 1) := by decide +kernel
theorem dL_law_486 : decode cL_law 486 = .ok (.iload_n 3, 1) := by decide +kernel
theorem dL_law_487 : decode cL_law 487 = .ok (.iconst 1, 1) := by decide +kernel
theorem dL_law_488 : decode cL_law 488 = .ok (.iadd, 1) := by decide +kernel
theorem dL_law_489 : decode cL_law 489 = .ok (.iaload, 1) := by decide +kernel
theorem dL_law_490 : decode cL_law 490 = .ok (.invokevirtual 55, 3) := by decide +kernel
theorem dL_law_493 : decode cL_law 493 = .ok (.if_icmp .eq 771, 3) := by decide +kernel
theorem dL_law_496 : decode cL_law 496 = .ok (.iconst 0, 1) := by decide +kernel
theorem dL_law_497 : decode cL_law 497 = .ok (.ireturn, 1) := by decide +kernel
theorem dL_law_498 : decode cL_law 498 = .ok (.aload_n 1, 1) := by decide +kernel
theorem dL_law_499 : decode cL_law 499 = .ok (.aload_n 0, 1) := by decide +kernel
theorem dL_law_500 : decode cL_law 500 = .ok (.iload_n 3, 1) := by decide +kernel
theorem dL_law_501 : decode cL_law 501 = .ok (.iconst 1, 1) := by decide +kernel
theorem dL_law_502 : decode cL_law 502 = .ok (.iadd, 1) := by decide +kernel
theorem dL_law_503 : decode cL_law 503 = .ok (.iaload, 1) := by decide +kernel
theorem dL_law_504 : decode cL_law 504 = .ok (.aload_n 0, 1) := by decide +kernel
theorem dL_law_505 : decode cL_law 505 = .ok (.iload_n 3, 1) := by decide +kernel
theorem dL_law_506 : decode cL_law 506 = .ok (.iconst 2, 1) := by decide +kernel
theorem dL_law_507 : decode cL_law 507 = .ok (.iadd, 1) := by decide +kernel
theorem dL_law_508 : decode cL_law 508 = .ok (.iaload, 1) := by decide +kernel
theorem dL_law_509 : decode cL_law 509 = .ok (.aload_n 0, 1) := by decide +kernel
theorem dL_law_510 : decode cL_law 510 = .ok (.iload_n 3, 1) := by decide +kernel
theorem dL_law_511 : decode cL_law 511 = .ok (.iconst 3, 1) := by decide +kernel
theorem dL_law_512 : decode cL_law 512 = .ok (.iadd, 1) := by decide +kernel
theorem dL_law_513 : decode cL_law 513 = .ok (.iaload, 1) := by decide +kernel
theorem dL_law_514 : decode cL_law 514 = .ok (.invokevirtual 56, 3) := by decide +kernel
theorem dL_law_517 : decode cL_law 517 = .ok (.aload_n 2, 1) := by decide +kernel
theorem dL_law_518 : decode cL_law 518 = .ok (.aload_n 0, 1) := by decide +kernel
theorem dL_law_519 : decode cL_law 519 = .ok (.iload_n 3, 1) := by decide +kernel
theorem dL_law_520 : decode cL_law 520 = .ok (.iconst 1, 1) := by decide +kernel
theorem dL_law_521 : decode cL_law 521 = .ok (.iadd, 1) := by decide +kernel
theorem dL_law_522 : decode cL_law 522 = .ok (.iaload, 1) := by decide +kernel
theorem dL_law_523 : decode cL_law 523 = .ok (.aload_n 0, 1) := by decide +kernel
theorem dL_law_524 : decode cL_law 524 = .ok (.iload_n 3, 1) := by decide +kernel
theorem dL_law_525 : decode cL_law 525 = .ok (.iconst 2, 1) := by decide +kernel
theorem dL_law_526 : decode cL_law 526 = .ok (.iadd, 1) := by decide +kernel
theorem dL_law_527 : decode cL_law 527 = .ok (.iaload, 1) := by decide +kernel
theorem dL_law_528 : decode cL_law 528 = .ok (.aload_n 0, 1) := by decide +kernel
theorem dL_law_529 : decode cL_law 529 = .ok (.iload_n 3, 1) := by decide +kernel
theorem dL_law_530 : decode cL_law 530 = .ok (.iconst 3, 1) := by decide +kernel
theorem dL_law_531 : decode cL_law 531 = .ok (.iadd, 1) := by decide +kernel
theorem dL_law_532 : decode cL_law 532 = .ok (.iaload, 1) := by decide +kernel
theorem dL_law_533 : decode cL_law 533 = .ok (.invokevirtual 59, 3) := by decide +kernel
theorem dL_law_536 : decode cL_law 536 = .ok (.if_icmp .eq 728, 3) := by decide +kernel
theorem dL_law_539 : decode cL_law 539 = .ok (.iconst 0, 1) := by decide +kernel
theorem dL_law_540 : decode cL_law 540 = .ok (.ireturn, 1) := by decide +kernel
theorem dL_law_541 : decode cL_law 541 = .ok (.aload_n 1, 1) := by decide +kernel
theorem dL_law_542 : decode cL_law 542 = .ok (.aload_n 0, 1) := by decide +kernel
theorem dL_law_543 : decode cL_law 543 = .ok (.iload_n 3, 1) := by decide +kernel
theorem dL_law_544 : decode cL_law 544 = .ok (.iconst 1, 1) := by decide +kernel
theorem dL_law_545 : decode cL_law 545 = .ok (.iadd, 1) := by decide +kernel
theorem dL_law_546 : decode cL_law 546 = .ok (.iaload, 1) := by decide +kernel
theorem dL_law_547 : decode cL_law 547 = .ok (.invokevirtual 60, 3) := by decide +kernel
theorem dL_law_550 : decode cL_law 550 = .ok (.aload_n 2, 1) := by decide +kernel
theorem dL_law_551 : decode cL_law 551 = .ok (.aload_n 0, 1) := by decide +kernel
theorem dL_law_552 : decode cL_law 552 = .ok (.iload_n 3, 1) := by decide +kernel
theorem dL_law_553 : decode cL_law 553 = .ok (.iconst 1, 1) := by decide +kernel
theorem dL_law_554 : decode cL_law 554 = .ok (.iadd, 1) := by decide +kernel
theorem dL_law_555 : decode cL_law 555 = .ok (.iaload, 1) := by decide +kernel
theorem dL_law_556 : decode cL_law 556 = .ok (.invokevirtual 63, 3) := by decide +kernel
theorem dL_law_559 : decode cL_law 559 = .ok (.if_icmp .eq 705, 3) := by decide +kernel
theorem dL_law_562 : decode cL_law 562 = .ok (.iconst 0, 1) := by decide +kernel
theorem dL_law_563 : decode cL_law 563 = .ok (.ireturn, 1) := by decide +kernel
theorem dL_law_564 : decode cL_law 564 = .ok (.aload_n 1, 1) := by decide +kernel
theorem dL_law_565 : decode cL_law 565 = .ok (.aload_n 0, 1) := by decide +kernel
theorem dL_law_566 : decode cL_law 566 = .ok (.iload_n 3, 1) := by decide +kernel
theorem dL_law_567 : decode cL_law 567 = .ok (.iconst 1, 1) := by decide +kernel
theorem dL_law_568 : decode cL_law 568 = .ok (.iadd, 1) := by decide +kernel
theorem dL_law_569 : decode cL_law 569 = .ok (.iaload, 1) := by decide +kernel
theorem dL_law_570 : decode cL_law 570 = .ok (.aload_n 0, 1) := by decide +kernel
theorem dL_law_571 : decode cL_law 571 = .ok (.iload_n 3, 1) := by decide +kernel
theorem dL_law_572 : decode cL_law 572 = .ok (.iconst 2, 1) := by decide +kernel
theorem dL_law_573 : decode cL_law 573 = .ok (.iadd, 1) := by decide +kernel
theorem dL_law_574 : decode cL_law 574 = .ok (.iaload, 1) := by decide +kernel
theorem dL_law_575 : decode cL_law 575 = .ok (.invokevirtual 64, 3) := by decide +kernel
theorem dL_law_578 : decode cL_law 578 = .ok (.aload_n 2, 1) := by decide +kernel
theorem dL_law_579 : decode cL_law 579 = .ok (.aload_n 0, 1) := by decide +kernel
theorem dL_law_580 : decode cL_law 580 = .ok (.iload_n 3, 1) := by decide +kernel
theorem dL_law_581 : decode cL_law 581 = .ok (.iconst 1, 1) := by decide +kernel
theorem dL_law_582 : decode cL_law 582 = .ok (.iadd, 1) := by decide +kernel
theorem dL_law_583 : decode cL_law 583 = .ok (.iaload, 1) := by decide +kernel
theorem dL_law_584 : decode cL_law 584 = .ok (.aload_n 0, 1) := by decide +kernel
theorem dL_law_585 : decode cL_law 585 = .ok (.iload_n 3, 1) := by decide +kernel
theorem dL_law_586 : decode cL_law 586 = .ok (.iconst 2, 1) := by decide +kernel
theorem dL_law_587 : decode cL_law 587 = .ok (.iadd, 1) := by decide +kernel
theorem dL_law_588 : decode cL_law 588 = .ok (.iaload, 1) := by decide +kernel
theorem dL_law_589 : decode cL_law 589 = .ok (.invokevirtual 67, 3) := by decide +kernel
theorem dL_law_592 : decode cL_law 592 = .ok (.if_icmp .eq 672, 3) := by decide +kernel
theorem dL_law_595 : decode cL_law 595 = .ok (.iconst 0, 1) := by decide +kernel
theorem dL_law_596 : decode cL_law 596 = .ok (.ireturn, 1) := by decide +kernel
theorem dL_law_597 : decode cL_law 597 = .ok (.aload_n 1, 1) := by decide +kernel
theorem dL_law_598 : decode cL_law 598 = .ok (.aload_n 0, 1) := by decide +kernel
theorem dL_law_599 : decode cL_law 599 = .ok (.iload_n 3, 1) := by decide +kernel
theorem dL_law_600 : decode cL_law 600 = .ok (.iconst 1, 1) := by decide +kernel
theorem dL_law_601 : decode cL_law 601 = .ok (.iadd, 1) := by decide +kernel
theorem dL_law_602 : decode cL_law 602 = .ok (.iaload, 1) := by decide +kernel
theorem dL_law_603 : decode cL_law 603 = .ok (.invokevirtual 68, 3) := by decide +kernel
theorem dL_law_606 : decode cL_law 606 = .ok (.aload_n 2, 1) := by decide +kernel
theorem dL_law_607 : decode cL_law 607 = .ok (.aload_n 0, 1) := by decide +kernel
theorem dL_law_608 : decode cL_law 608 = .ok (.iload_n 3, 1) := by decide +kernel
theorem dL_law_609 : decode cL_law 609 = .ok (.iconst 1, 1) := by decide +kernel
theorem dL_law_610 : decode cL_law 610 = .ok (.iadd, 1) := by decide +kernel
theorem dL_law_611 : decode cL_law 611 = .ok (.iaload, 1) := by decide +kernel
theorem dL_law_612 : decode cL_law 612 = .ok (.invokevirtual 71, 3) := by decide +kernel
theorem dL_law_615 : decode cL_law 615 = .ok (.if_icmp .eq 649, 3) := by decide +kernel
theorem dL_law_618 : decode cL_law 618 = .ok (.iconst 0, 1) := by decide +kernel
theorem dL_law_619 : decode cL_law 619 = .ok (.ireturn, 1) := by decide +kernel
theorem dL_law_620 : decode cL_law 620 = .ok (.aload_n 1, 1) := by decide +kernel
theorem dL_law_621 : decode cL_law 621 = .ok (.aload_n 0, 1) := by decide +kernel
theorem dL_law_622 : decode cL_law 622 = .ok (.iload_n 3, 1) := by decide +kernel
theorem dL_law_623 : decode cL_law 623 = .ok (.iconst 1, 1) := by decide +kernel
theorem dL_law_624 : decode cL_law 624 = .ok (.iadd, 1) := by decide +kernel
theorem dL_law_625 : decode cL_law 625 = .ok (.iaload, 1) := by decide +kernel
theorem dL_law_626 : decode cL_law 626 = .ok (.aload_n 0, 1) := by decide +kernel
theorem dL_law_627 : decode cL_law 627 = .ok (.iload_n 3, 1) := by decide +kernel
theorem dL_law_628 : decode cL_law 628 = .ok (.iconst 2, 1) := by decide +kernel
theorem dL_law_629 : decode cL_law 629 = .ok (.iadd, 1) := by decide +kernel
theorem dL_law_630 : decode cL_law 630 = .ok (.iaload, 1) := by decide +kernel
theorem dL_law_631 : decode cL_law 631 = .ok (.invokevirtual 72, 3) := by decide +kernel
theorem dL_law_634 : decode cL_law 634 = .ok (.aload_n 2, 1) := by decide +kernel
theorem dL_law_635 : decode cL_law 635 = .ok (.aload_n 0, 1) := by decide +kernel
theorem dL_law_636 : decode cL_law 636 = .ok (.iload_n 3, 1) := by decide +kernel
theorem dL_law_637 : decode cL_law 637 = .ok (.iconst 1, 1) := by decide +kernel
theorem dL_law_638 : decode cL_law 638 = .ok (.iadd, 1) := by decide +kernel
theorem dL_law_639 : decode cL_law 639 = .ok (.iaload, 1) := by decide +kernel
theorem dL_law_640 : decode cL_law 640 = .ok (.aload_n 0, 1) := by decide +kernel
theorem dL_law_641 : decode cL_law 641 = .ok (.iload_n 3, 1) := by decide +kernel
theorem dL_law_642 : decode cL_law 642 = .ok (.iconst 2, 1) := by decide +kernel
theorem dL_law_643 : decode cL_law 643 = .ok (.iadd, 1) := by decide +kernel
theorem dL_law_644 : decode cL_law 644 = .ok (.iaload, 1) := by decide +kernel
theorem dL_law_645 : decode cL_law 645 = .ok (.invokevirtual 75, 3) := by decide +kernel
theorem dL_law_648 : decode cL_law 648 = .ok (.if_icmp .eq 616, 3) := by decide +kernel
theorem dL_law_651 : decode cL_law 651 = .ok (.iconst 0, 1) := by decide +kernel
theorem dL_law_652 : decode cL_law 652 = .ok (.ireturn, 1) := by decide +kernel
theorem dL_law_653 : decode cL_law 653 = .ok (.aload_n 1, 1) := by decide +kernel
theorem dL_law_654 : decode cL_law 654 = .ok (.aload_n 0, 1) := by decide +kernel
theorem dL_law_655 : decode cL_law 655 = .ok (.iload_n 3, 1) := by decide +kernel
theorem dL_law_656 : decode cL_law 656 = .ok (.iconst 1, 1) := by decide +kernel
theorem dL_law_657 : decode cL_law 657 = .ok (.iadd, 1) := by decide +kernel
theorem dL_law_658 : decode cL_law 658 = .ok (.iaload, 1) := by decide +kernel
theorem dL_law_659 : decode cL_law 659 = .ok (.aload_n 0, 1) := by decide +kernel
theorem dL_law_660 : decode cL_law 660 = .ok (.iload_n 3, 1) := by decide +kernel
theorem dL_law_661 : decode cL_law 661 = .ok (.iconst 2, 1) := by decide +kernel
theorem dL_law_662 : decode cL_law 662 = .ok (.iadd, 1) := by decide +kernel
theorem dL_law_663 : decode cL_law 663 = .ok (.iaload, 1) := by decide +kernel
theorem dL_law_664 : decode cL_law 664 = .ok (.invokevirtual 76, 3) := by decide +kernel
theorem dL_law_667 : decode cL_law 667 = .ok (.aload_n 2, 1) := by decide +kernel
theorem dL_law_668 : decode cL_law 668 = .ok (.aload_n 0, 1) := by decide +kernel
theorem dL_law_669 : decode cL_law 669 = .ok (.iload_n 3, 1) := by decide +kernel
theorem dL_law_670 : decode cL_law 670 = .ok (.iconst 1, 1) := by decide +kernel
theorem dL_law_671 : decode cL_law 671 = .ok (.iadd, 1) := by decide +kernel
theorem dL_law_672 : decode cL_law 672 = .ok (.iaload, 1) := by decide +kernel
theorem dL_law_673 : decode cL_law 673 = .ok (.aload_n 0, 1) := by decide +kernel
theorem dL_law_674 : decode cL_law 674 = .ok (.iload_n 3, 1) := by decide +kernel
theorem dL_law_675 : decode cL_law 675 = .ok (.iconst 2, 1) := by decide +kernel
theorem dL_law_676 : decode cL_law 676 = .ok (.iadd, 1) := by decide +kernel
theorem dL_law_677 : decode cL_law 677 = .ok (.iaload, 1) := by decide +kernel
theorem dL_law_678 : decode cL_law 678 = .ok (.invokevirtual 79, 3) := by decide +kernel
theorem dL_law_681 : decode cL_law 681 = .ok (.if_icmp .eq 583, 3) := by decide +kernel
theorem dL_law_684 : decode cL_law 684 = .ok (.iconst 0, 1) := by decide +kernel
theorem dL_law_685 : decode cL_law 685 = .ok (.ireturn, 1) := by decide +kernel
theorem dL_law_686 : decode cL_law 686 = .ok (.aload_n 1, 1) := by decide +kernel
theorem dL_law_687 : decode cL_law 687 = .ok (.aload_n 0, 1) := by decide +kernel
theorem dL_law_688 : decode cL_law 688 = .ok (.iload_n 3, 1) := by decide +kernel
theorem dL_law_689 : decode cL_law 689 = .ok (.iconst 1, 1) := by decide +kernel
theorem dL_law_690 : decode cL_law 690 = .ok (.iadd, 1) := by decide +kernel
theorem dL_law_691 : decode cL_law 691 = .ok (.iaload, 1) := by decide +kernel
theorem dL_law_692 : decode cL_law 692 = .ok (.aload_n 0, 1) := by decide +kernel
theorem dL_law_693 : decode cL_law 693 = .ok (.iload_n 3, 1) := by decide +kernel
theorem dL_law_694 : decode cL_law 694 = .ok (.iconst 2, 1) := by decide +kernel
theorem dL_law_695 : decode cL_law 695 = .ok (.iadd, 1) := by decide +kernel
theorem dL_law_696 : decode cL_law 696 = .ok (.iaload, 1) := by decide +kernel
theorem dL_law_697 : decode cL_law 697 = .ok (.invokevirtual 80, 3) := by decide +kernel
theorem dL_law_700 : decode cL_law 700 = .ok (.aload_n 2, 1) := by decide +kernel
theorem dL_law_701 : decode cL_law 701 = .ok (.aload_n 0, 1) := by decide +kernel
theorem dL_law_702 : decode cL_law 702 = .ok (.iload_n 3, 1) := by decide +kernel
theorem dL_law_703 : decode cL_law 703 = .ok (.iconst 1, 1) := by decide +kernel
theorem dL_law_704 : decode cL_law 704 = .ok (.iadd, 1) := by decide +kernel
theorem dL_law_705 : decode cL_law 705 = .ok (.iaload, 1) := by decide +kernel
theorem dL_law_706 : decode cL_law 706 = .ok (.aload_n 0, 1) := by decide +kernel
theorem dL_law_707 : decode cL_law 707 = .ok (.iload_n 3, 1) := by decide +kernel
theorem dL_law_708 : decode cL_law 708 = .ok (.iconst 2, 1) := by decide +kernel
theorem dL_law_709 : decode cL_law 709 = .ok (.iadd, 1) := by decide +kernel
theorem dL_law_710 : decode cL_law 710 = .ok (.iaload, 1) := by decide +kernel
theorem dL_law_711 : decode cL_law 711 = .ok (.invokevirtual 83, 3) := by decide +kernel
theorem dL_law_714 : decode cL_law 714 = .ok (.if_icmp .eq 550, 3) := by decide +kernel
theorem dL_law_717 : decode cL_law 717 = .ok (.iconst 0, 1) := by decide +kernel
theorem dL_law_718 : decode cL_law 718 = .ok (.ireturn, 1) := by decide +kernel
theorem dL_law_719 : decode cL_law 719 = .ok (.aload_n 1, 1) := by decide +kernel
theorem dL_law_720 : decode cL_law 720 = .ok (.aload_n 0, 1) := by decide +kernel
theorem dL_law_721 : decode cL_law 721 = .ok (.iload_n 3, 1) := by decide +kernel
theorem dL_law_722 : decode cL_law 722 = .ok (.iconst 1, 1) := by decide +kernel
theorem dL_law_723 : decode cL_law 723 = .ok (.iadd, 1) := by decide +kernel
theorem dL_law_724 : decode cL_law 724 = .ok (.iaload, 1) := by decide +kernel
theorem dL_law_725 : decode cL_law 725 = .ok (.aload_n 0, 1) := by decide +kernel
theorem dL_law_726 : decode cL_law 726 = .ok (.iload_n 3, 1) := by decide +kernel
theorem dL_law_727 : decode cL_law 727 = .ok (.iconst 2, 1) := by decide +kernel
theorem dL_law_728 : decode cL_law 728 = .ok (.iadd, 1) := by decide +kernel
theorem dL_law_729 : decode cL_law 729 = .ok (.iaload, 1) := by decide +kernel
theorem dL_law_730 : decode cL_law 730 = .ok (.aload_n 0, 1) := by decide +kernel
theorem dL_law_731 : decode cL_law 731 = .ok (.iload_n 3, 1) := by decide +kernel
theorem dL_law_732 : decode cL_law 732 = .ok (.iconst 3, 1) := by decide +kernel
theorem dL_law_733 : decode cL_law 733 = .ok (.iadd, 1) := by decide +kernel
theorem dL_law_734 : decode cL_law 734 = .ok (.iaload, 1) := by decide +kernel
theorem dL_law_735 : decode cL_law 735 = .ok (.invokevirtual 84, 3) := by decide +kernel
theorem dL_law_738 : decode cL_law 738 = .ok (.aload_n 2, 1) := by decide +kernel
theorem dL_law_739 : decode cL_law 739 = .ok (.aload_n 0, 1) := by decide +kernel
theorem dL_law_740 : decode cL_law 740 = .ok (.iload_n 3, 1) := by decide +kernel
theorem dL_law_741 : decode cL_law 741 = .ok (.iconst 1, 1) := by decide +kernel
theorem dL_law_742 : decode cL_law 742 = .ok (.iadd, 1) := by decide +kernel
theorem dL_law_743 : decode cL_law 743 = .ok (.iaload, 1) := by decide +kernel
theorem dL_law_744 : decode cL_law 744 = .ok (.aload_n 0, 1) := by decide +kernel
theorem dL_law_745 : decode cL_law 745 = .ok (.iload_n 3, 1) := by decide +kernel
theorem dL_law_746 : decode cL_law 746 = .ok (.iconst 2, 1) := by decide +kernel
theorem dL_law_747 : decode cL_law 747 = .ok (.iadd, 1) := by decide +kernel
theorem dL_law_748 : decode cL_law 748 = .ok (.iaload, 1) := by decide +kernel
theorem dL_law_749 : decode cL_law 749 = .ok (.aload_n 0, 1) := by decide +kernel
theorem dL_law_750 : decode cL_law 750 = .ok (.iload_n 3, 1) := by decide +kernel
theorem dL_law_751 : decode cL_law 751 = .ok (.iconst 3, 1) := by decide +kernel
theorem dL_law_752 : decode cL_law 752 = .ok (.iadd, 1) := by decide +kernel
theorem dL_law_753 : decode cL_law 753 = .ok (.iaload, 1) := by decide +kernel
theorem dL_law_754 : decode cL_law 754 = .ok (.invokevirtual 87, 3) := by decide +kernel
theorem dL_law_757 : decode cL_law 757 = .ok (.if_icmp .eq 507, 3) := by decide +kernel
theorem dL_law_760 : decode cL_law 760 = .ok (.iconst 0, 1) := by decide +kernel
theorem dL_law_761 : decode cL_law 761 = .ok (.ireturn, 1) := by decide +kernel
theorem dL_law_762 : decode cL_law 762 = .ok (.aload_n 1, 1) := by decide +kernel
theorem dL_law_763 : decode cL_law 763 = .ok (.aload_n 0, 1) := by decide +kernel
theorem dL_law_764 : decode cL_law 764 = .ok (.iload_n 3, 1) := by decide +kernel
theorem dL_law_765 : decode cL_law 765 = .ok (.iconst 1, 1) := by decide +kernel
theorem dL_law_766 : decode cL_law 766 = .ok (.iadd, 1) := by decide +kernel
theorem dL_law_767 : decode cL_law 767 = .ok (.iaload, 1) := by decide +kernel
theorem dL_law_768 : decode cL_law 768 = .ok (.aload_n 0, 1) := by decide +kernel
theorem dL_law_769 : decode cL_law 769 = .ok (.iload_n 3, 1) := by decide +kernel
theorem dL_law_770 : decode cL_law 770 = .ok (.iconst 2, 1) := by decide +kernel
theorem dL_law_771 : decode cL_law 771 = .ok (.iadd, 1) := by decide +kernel
theorem dL_law_772 : decode cL_law 772 = .ok (.iaload, 1) := by decide +kernel
theorem dL_law_773 : decode cL_law 773 = .ok (.invokevirtual 88, 3) := by decide +kernel
theorem dL_law_776 : decode cL_law 776 = .ok (.aload_n 2, 1) := by decide +kernel
theorem dL_law_777 : decode cL_law 777 = .ok (.aload_n 0, 1) := by decide +kernel
theorem dL_law_778 : decode cL_law 778 = .ok (.iload_n 3, 1) := by decide +kernel
theorem dL_law_779 : decode cL_law 779 = .ok (.iconst 1, 1) := by decide +kernel
theorem dL_law_780 : decode cL_law 780 = .ok (.iadd, 1) := by decide +kernel
theorem dL_law_781 : decode cL_law 781 = .ok (.iaload, 1) := by decide +kernel
theorem dL_law_782 : decode cL_law 782 = .ok (.aload_n 0, 1) := by decide +kernel
theorem dL_law_783 : decode cL_law 783 = .ok (.iload_n 3, 1) := by decide +kernel
theorem dL_law_784 : decode cL_law 784 = .ok (.iconst 2, 1) := by decide +kernel
theorem dL_law_785 : decode cL_law 785 = .ok (.iadd, 1) := by decide +kernel
theorem dL_law_786 : decode cL_law 786 = .ok (.iaload, 1) := by decide +kernel
theorem dL_law_787 : decode cL_law 787 = .ok (.invokevirtual 91, 3) := by decide +kernel
theorem dL_law_790 : decode cL_law 790 = .ok (.if_icmp .eq 474, 3) := by decide +kernel
theorem dL_law_793 : decode cL_law 793 = .ok (.iconst 0, 1) := by decide +kernel
theorem dL_law_794 : decode cL_law 794 = .ok (.ireturn, 1) := by decide +kernel
theorem dL_law_795 : decode cL_law 795 = .ok (.aload_n 1, 1) := by decide +kernel
theorem dL_law_796 : decode cL_law 796 = .ok (.aload_n 0, 1) := by decide +kernel
theorem dL_law_797 : decode cL_law 797 = .ok (.iload_n 3, 1) := by decide +kernel
theorem dL_law_798 : decode cL_law 798 = .ok (.iconst 1, 1) := by decide +kernel
theorem dL_law_799 : decode cL_law 799 = .ok (.iadd, 1) := by decide +kernel
theorem dL_law_800 : decode cL_law 800 = .ok (.iaload, 1) := by decide +kernel
theorem dL_law_801 : decode cL_law 801 = .ok (.aload_n 0, 1) := by decide +kernel
theorem dL_law_802 : decode cL_law 802 = .ok (.iload_n 3, 1) := by decide +kernel
theorem dL_law_803 : decode cL_law 803 = .ok (.iconst 2, 1) := by decide +kernel
theorem dL_law_804 : decode cL_law 804 = .ok (.iadd, 1) := by decide +kernel
theorem dL_law_805 : decode cL_law 805 = .ok (.iaload, 1) := by decide +kernel
theorem dL_law_806 : decode cL_law 806 = .ok (.invokevirtual 92, 3) := by decide +kernel
theorem dL_law_809 : decode cL_law 809 = .ok (.aload_n 2, 1) := by decide +kernel
theorem dL_law_810 : decode cL_law 810 = .ok (.aload_n 0, 1) := by decide +kernel
theorem dL_law_811 : decode cL_law 811 = .ok (.iload_n 3, 1) := by decide +kernel
theorem dL_law_812 : decode cL_law 812 = .ok (.iconst 1, 1) := by decide +kernel
theorem dL_law_813 : decode cL_law 813 = .ok (.iadd, 1) := by decide +kernel
theorem dL_law_814 : decode cL_law 814 = .ok (.iaload, 1) := by decide +kernel
theorem dL_law_815 : decode cL_law 815 = .ok (.aload_n 0, 1) := by decide +kernel
theorem dL_law_816 : decode cL_law 816 = .ok (.iload_n 3, 1) := by decide +kernel
theorem dL_law_817 : decode cL_law 817 = .ok (.iconst 2, 1) := by decide +kernel
theorem dL_law_818 : decode cL_law 818 = .ok (.iadd, 1) := by decide +kernel
theorem dL_law_819 : decode cL_law 819 = .ok (.iaload, 1) := by decide +kernel
theorem dL_law_820 : decode cL_law 820 = .ok (.invokevirtual 95, 3) := by decide +kernel
theorem dL_law_823 : decode cL_law 823 = .ok (.if_icmp .eq 441, 3) := by decide +kernel
theorem dL_law_826 : decode cL_law 826 = .ok (.iconst 0, 1) := by decide +kernel
theorem dL_law_827 : decode cL_law 827 = .ok (.ireturn, 1) := by decide +kernel
theorem dL_law_828 : decode cL_law 828 = .ok (.aload_n 1, 1) := by decide +kernel
theorem dL_law_829 : decode cL_law 829 = .ok (.aload_n 0, 1) := by decide +kernel
theorem dL_law_830 : decode cL_law 830 = .ok (.iload_n 3, 1) := by decide +kernel
theorem dL_law_831 : decode cL_law 831 = .ok (.iconst 1, 1) := by decide +kernel
theorem dL_law_832 : decode cL_law 832 = .ok (.iadd, 1) := by decide +kernel
theorem dL_law_833 : decode cL_law 833 = .ok (.iaload, 1) := by decide +kernel
theorem dL_law_834 : decode cL_law 834 = .ok (.invokevirtual 96, 3) := by decide +kernel
theorem dL_law_837 : decode cL_law 837 = .ok (.aload_n 2, 1) := by decide +kernel
theorem dL_law_838 : decode cL_law 838 = .ok (.aload_n 0, 1) := by decide +kernel
theorem dL_law_839 : decode cL_law 839 = .ok (.iload_n 3, 1) := by decide +kernel
theorem dL_law_840 : decode cL_law 840 = .ok (.iconst 1, 1) := by decide +kernel
theorem dL_law_841 : decode cL_law 841 = .ok (.iadd, 1) := by decide +kernel
theorem dL_law_842 : decode cL_law 842 = .ok (.iaload, 1) := by decide +kernel
theorem dL_law_843 : decode cL_law 843 = .ok (.invokevirtual 99, 3) := by decide +kernel
theorem dL_law_846 : decode cL_law 846 = .ok (.if_icmp .eq 418, 3) := by decide +kernel
theorem dL_law_849 : decode cL_law 849 = .ok (.iconst 0, 1) := by decide +kernel
theorem dL_law_850 : decode cL_law 850 = .ok (.ireturn, 1) := by decide +kernel
theorem dL_law_851 : decode cL_law 851 = .ok (.aload_n 1, 1) := by decide +kernel
theorem dL_law_852 : decode cL_law 852 = .ok (.aload_n 0, 1) := by decide +kernel
theorem dL_law_853 : decode cL_law 853 = .ok (.iload_n 3, 1) := by decide +kernel
theorem dL_law_854 : decode cL_law 854 = .ok (.iconst 1, 1) := by decide +kernel
theorem dL_law_855 : decode cL_law 855 = .ok (.iadd, 1) := by decide +kernel
theorem dL_law_856 : decode cL_law 856 = .ok (.iaload, 1) := by decide +kernel
theorem dL_law_857 : decode cL_law 857 = .ok (.aload_n 0, 1) := by decide +kernel
theorem dL_law_858 : decode cL_law 858 = .ok (.iload_n 3, 1) := by decide +kernel
theorem dL_law_859 : decode cL_law 859 = .ok (.iconst 2, 1) := by decide +kernel
theorem dL_law_860 : decode cL_law 860 = .ok (.iadd, 1) := by decide +kernel
theorem dL_law_861 : decode cL_law 861 = .ok (.iaload, 1) := by decide +kernel
theorem dL_law_862 : decode cL_law 862 = .ok (.invokevirtual 100, 3) := by decide +kernel
theorem dL_law_865 : decode cL_law 865 = .ok (.aload_n 2, 1) := by decide +kernel
theorem dL_law_866 : decode cL_law 866 = .ok (.aload_n 0, 1) := by decide +kernel
theorem dL_law_867 : decode cL_law 867 = .ok (.iload_n 3, 1) := by decide +kernel
theorem dL_law_868 : decode cL_law 868 = .ok (.iconst 1, 1) := by decide +kernel
theorem dL_law_869 : decode cL_law 869 = .ok (.iadd, 1) := by decide +kernel
theorem dL_law_870 : decode cL_law 870 = .ok (.iaload, 1) := by decide +kernel
theorem dL_law_871 : decode cL_law 871 = .ok (.aload_n 0, 1) := by decide +kernel
theorem dL_law_872 : decode cL_law 872 = .ok (.iload_n 3, 1) := by decide +kernel
theorem dL_law_873 : decode cL_law 873 = .ok (.iconst 2, 1) := by decide +kernel
theorem dL_law_874 : decode cL_law 874 = .ok (.iadd, 1) := by decide +kernel
theorem dL_law_875 : decode cL_law 875 = .ok (.iaload, 1) := by decide +kernel
theorem dL_law_876 : decode cL_law 876 = .ok (.invokevirtual 103, 3) := by decide +kernel
theorem dL_law_879 : decode cL_law 879 = .ok (.if_icmp .eq 385, 3) := by decide +kernel
theorem dL_law_882 : decode cL_law 882 = .ok (.iconst 0, 1) := by decide +kernel
theorem dL_law_883 : decode cL_law 883 = .ok (.ireturn, 1) := by decide +kernel
theorem dL_law_884 : decode cL_law 884 = .ok (.aload_n 1, 1) := by decide +kernel
theorem dL_law_885 : decode cL_law 885 = .ok (.invokevirtual 104, 3) := by decide +kernel
theorem dL_law_888 : decode cL_law 888 = .ok (.aload_n 2, 1) := by decide +kernel
theorem dL_law_889 : decode cL_law 889 = .ok (.invokevirtual 108, 3) := by decide +kernel
theorem dL_law_892 : decode cL_law 892 = .ok (.if_icmp .eq 372, 3) := by decide +kernel
theorem dL_law_895 : decode cL_law 895 = .ok (.iconst 0, 1) := by decide +kernel
theorem dL_law_896 : decode cL_law 896 = .ok (.ireturn, 1) := by decide +kernel
theorem dL_law_897 : decode cL_law 897 = .ok (.aload_n 1, 1) := by decide +kernel
theorem dL_law_898 : decode cL_law 898 = .ok (.invokevirtual 109, 3) := by decide +kernel
theorem dL_law_901 : decode cL_law 901 = .ok (.aload_n 2, 1) := by decide +kernel
theorem dL_law_902 : decode cL_law 902 = .ok (.invokevirtual 112, 3) := by decide +kernel
theorem dL_law_905 : decode cL_law 905 = .ok (.if_icmp .eq 359, 3) := by decide +kernel
theorem dL_law_908 : decode cL_law 908 = .ok (.iconst 0, 1) := by decide +kernel
theorem dL_law_909 : decode cL_law 909 = .ok (.ireturn, 1) := by decide +kernel
theorem dL_law_910 : decode cL_law 910 = .ok (.aload_n 1, 1) := by decide +kernel
theorem dL_law_911 : decode cL_law 911 = .ok (.aload_n 0, 1) := by decide +kernel
theorem dL_law_912 : decode cL_law 912 = .ok (.iload_n 3, 1) := by decide +kernel
theorem dL_law_913 : decode cL_law 913 = .ok (.iconst 1, 1) := by decide +kernel
theorem dL_law_914 : decode cL_law 914 = .ok (.iadd, 1) := by decide +kernel
theorem dL_law_915 : decode cL_law 915 = .ok (.iaload, 1) := by decide +kernel
theorem dL_law_916 : decode cL_law 916 = .ok (.aload_n 0, 1) := by decide +kernel
theorem dL_law_917 : decode cL_law 917 = .ok (.iload_n 3, 1) := by decide +kernel
theorem dL_law_918 : decode cL_law 918 = .ok (.iconst 2, 1) := by decide +kernel
theorem dL_law_919 : decode cL_law 919 = .ok (.iadd, 1) := by decide +kernel
theorem dL_law_920 : decode cL_law 920 = .ok (.iaload, 1) := by decide +kernel
theorem dL_law_921 : decode cL_law 921 = .ok (.aload_n 0, 1) := by decide +kernel
theorem dL_law_922 : decode cL_law 922 = .ok (.iload_n 3, 1) := by decide +kernel
theorem dL_law_923 : decode cL_law 923 = .ok (.iconst 3, 1) := by decide +kernel
theorem dL_law_924 : decode cL_law 924 = .ok (.iadd, 1) := by decide +kernel
theorem dL_law_925 : decode cL_law 925 = .ok (.iaload, 1) := by decide +kernel
theorem dL_law_926 : decode cL_law 926 = .ok (.invokevirtual 113, 3) := by decide +kernel
theorem dL_law_929 : decode cL_law 929 = .ok (.aload_n 2, 1) := by decide +kernel
theorem dL_law_930 : decode cL_law 930 = .ok (.aload_n 0, 1) := by decide +kernel
theorem dL_law_931 : decode cL_law 931 = .ok (.iload_n 3, 1) := by decide +kernel
theorem dL_law_932 : decode cL_law 932 = .ok (.iconst 1, 1) := by decide +kernel
theorem dL_law_933 : decode cL_law 933 = .ok (.iadd, 1) := by decide +kernel
theorem dL_law_934 : decode cL_law 934 = .ok (.iaload, 1) := by decide +kernel
theorem dL_law_935 : decode cL_law 935 = .ok (.aload_n 0, 1) := by decide +kernel
theorem dL_law_936 : decode cL_law 936 = .ok (.iload_n 3, 1) := by decide +kernel
theorem dL_law_937 : decode cL_law 937 = .ok (.iconst 2, 1) := by decide +kernel
theorem dL_law_938 : decode cL_law 938 = .ok (.iadd, 1) := by decide +kernel
theorem dL_law_939 : decode cL_law 939 = .ok (.iaload, 1) := by decide +kernel
theorem dL_law_940 : decode cL_law 940 = .ok (.aload_n 0, 1) := by decide +kernel
theorem dL_law_941 : decode cL_law 941 = .ok (.iload_n 3, 1) := by decide +kernel
theorem dL_law_942 : decode cL_law 942 = .ok (.iconst 3, 1) := by decide +kernel
theorem dL_law_943 : decode cL_law 943 = .ok (.iadd, 1) := by decide +kernel
theorem dL_law_944 : decode cL_law 944 = .ok (.iaload, 1) := by decide +kernel
theorem dL_law_945 : decode cL_law 945 = .ok (.invokevirtual 116, 3) := by decide +kernel
theorem dL_law_948 : decode cL_law 948 = .ok (.if_icmp .eq 316, 3) := by decide +kernel
theorem dL_law_951 : decode cL_law 951 = .ok (.iconst 0, 1) := by decide +kernel
theorem dL_law_952 : decode cL_law 952 = .ok (.ireturn, 1) := by decide +kernel
theorem dL_law_953 : decode cL_law 953 = .ok (.aload_n 1, 1) := by decide +kernel
theorem dL_law_954 : decode cL_law 954 = .ok (.aload_n 0, 1) := by decide +kernel
theorem dL_law_955 : decode cL_law 955 = .ok (.iload_n 3, 1) := by decide +kernel
theorem dL_law_956 : decode cL_law 956 = .ok (.iconst 1, 1) := by decide +kernel
theorem dL_law_957 : decode cL_law 957 = .ok (.iadd, 1) := by decide +kernel
theorem dL_law_958 : decode cL_law 958 = .ok (.iaload, 1) := by decide +kernel
theorem dL_law_959 : decode cL_law 959 = .ok (.aload_n 0, 1) := by decide +kernel
theorem dL_law_960 : decode cL_law 960 = .ok (.iload_n 3, 1) := by decide +kernel
theorem dL_law_961 : decode cL_law 961 = .ok (.iconst 2, 1) := by decide +kernel
theorem dL_law_962 : decode cL_law 962 = .ok (.iadd, 1) := by decide +kernel
theorem dL_law_963 : decode cL_law 963 = .ok (.iaload, 1) := by decide +kernel
theorem dL_law_964 : decode cL_law 964 = .ok (.aload_n 0, 1) := by decide +kernel
theorem dL_law_965 : decode cL_law 965 = .ok (.iload_n 3, 1) := by decide +kernel
theorem dL_law_966 : decode cL_law 966 = .ok (.iconst 3, 1) := by decide +kernel
theorem dL_law_967 : decode cL_law 967 = .ok (.iadd, 1) := by decide +kernel
theorem dL_law_968 : decode cL_law 968 = .ok (.iaload, 1) := by decide +kernel
theorem dL_law_969 : decode cL_law 969 = .ok (.i2l, 1) := by decide +kernel
theorem dL_law_970 : decode cL_law 970 = .ok (.bipush 32, 2) := by decide +kernel
theorem dL_law_972 : decode cL_law 972 = .ok (.lshl, 1) := by decide +kernel
theorem dL_law_973 : decode cL_law 973 = .ok (.aload_n 0, 1) := by decide +kernel
theorem dL_law_974 : decode cL_law 974 = .ok (.iload_n 3, 1) := by decide +kernel
theorem dL_law_975 : decode cL_law 975 = .ok (.iconst 4, 1) := by decide +kernel
theorem dL_law_976 : decode cL_law 976 = .ok (.iadd, 1) := by decide +kernel
theorem dL_law_977 : decode cL_law 977 = .ok (.iaload, 1) := by decide +kernel
theorem dL_law_978 : decode cL_law 978 = .ok (.i2l, 1) := by decide +kernel
theorem dL_law_979 : decode cL_law 979 = .ok (.ldc2_w 117, 3) := by decide +kernel
theorem dL_law_982 : decode cL_law 982 = .ok (.land, 1) := by decide +kernel
theorem dL_law_983 : decode cL_law 983 = .ok (.lor, 1) := by decide +kernel
theorem dL_law_984 : decode cL_law 984 = .ok (.invokevirtual 119, 3) := by decide +kernel
theorem dL_law_987 : decode cL_law 987 = .ok (.aload_n 2, 1) := by decide +kernel
theorem dL_law_988 : decode cL_law 988 = .ok (.aload_n 0, 1) := by decide +kernel
theorem dL_law_989 : decode cL_law 989 = .ok (.iload_n 3, 1) := by decide +kernel
theorem dL_law_990 : decode cL_law 990 = .ok (.iconst 1, 1) := by decide +kernel
theorem dL_law_991 : decode cL_law 991 = .ok (.iadd, 1) := by decide +kernel
theorem dL_law_992 : decode cL_law 992 = .ok (.iaload, 1) := by decide +kernel
theorem dL_law_993 : decode cL_law 993 = .ok (.aload_n 0, 1) := by decide +kernel
theorem dL_law_994 : decode cL_law 994 = .ok (.iload_n 3, 1) := by decide +kernel
theorem dL_law_995 : decode cL_law 995 = .ok (.iconst 2, 1) := by decide +kernel
theorem dL_law_996 : decode cL_law 996 = .ok (.iadd, 1) := by decide +kernel
theorem dL_law_997 : decode cL_law 997 = .ok (.iaload, 1) := by decide +kernel
theorem dL_law_998 : decode cL_law 998 = .ok (.aload_n 0, 1) := by decide +kernel
theorem dL_law_999 : decode cL_law 999 = .ok (.iload_n 3, 1) := by decide +kernel
theorem dL_law_1000 : decode cL_law 1000 = .ok (.iconst 3, 1) := by decide +kernel
theorem dL_law_1001 : decode cL_law 1001 = .ok (.iadd, 1) := by decide +kernel
theorem dL_law_1002 : decode cL_law 1002 = .ok (.iaload, 1) := by decide +kernel
theorem dL_law_1003 : decode cL_law 1003 = .ok (.i2l, 1) := by decide +kernel
theorem dL_law_1004 : decode cL_law 1004 = .ok (.bipush 32, 2) := by decide +kernel
theorem dL_law_1006 : decode cL_law 1006 = .ok (.lshl, 1) := by decide +kernel
theorem dL_law_1007 : decode cL_law 1007 = .ok (.aload_n 0, 1) := by decide +kernel
theorem dL_law_1008 : decode cL_law 1008 = .ok (.iload_n 3, 1) := by decide +kernel
theorem dL_law_1009 : decode cL_law 1009 = .ok (.iconst 4, 1) := by decide +kernel
theorem dL_law_1010 : decode cL_law 1010 = .ok (.iadd, 1) := by decide +kernel
theorem dL_law_1011 : decode cL_law 1011 = .ok (.iaload, 1) := by decide +kernel
theorem dL_law_1012 : decode cL_law 1012 = .ok (.i2l, 1) := by decide +kernel
theorem dL_law_1013 : decode cL_law 1013 = .ok (.ldc2_w 117, 3) := by decide +kernel
theorem dL_law_1016 : decode cL_law 1016 = .ok (.land, 1) := by decide +kernel
theorem dL_law_1017 : decode cL_law 1017 = .ok (.lor, 1) := by decide +kernel
theorem dL_law_1018 : decode cL_law 1018 = .ok (.invokevirtual 123, 3) := by decide +kernel
theorem dL_law_1021 : decode cL_law 1021 = .ok (.lcmp, 1) := by decide +kernel
theorem dL_law_1022 : decode cL_law 1022 = .ok (.ifCond .eq 242, 3) := by decide +kernel
theorem dL_law_1025 : decode cL_law 1025 = .ok (.iconst 0, 1) := by decide +kernel
theorem dL_law_1026 : decode cL_law 1026 = .ok (.ireturn, 1) := by decide +kernel
theorem dL_law_1027 : decode cL_law 1027 = .ok (.aload_n 1, 1) := by decide +kernel
theorem dL_law_1028 : decode cL_law 1028 = .ok (.aload_n 0, 1) := by decide +kernel
theorem dL_law_1029 : decode cL_law 1029 = .ok (.iload_n 3, 1) := by decide +kernel
theorem dL_law_1030 : decode cL_law 1030 = .ok (.iconst 1, 1) := by decide +kernel
theorem dL_law_1031 : decode cL_law 1031 = .ok (.iadd, 1) := by decide +kernel
theorem dL_law_1032 : decode cL_law 1032 = .ok (.iaload, 1) := by decide +kernel
theorem dL_law_1033 : decode cL_law 1033 = .ok (.aload_n 0, 1) := by decide +kernel
theorem dL_law_1034 : decode cL_law 1034 = .ok (.iload_n 3, 1) := by decide +kernel
theorem dL_law_1035 : decode cL_law 1035 = .ok (.iconst 2, 1) := by decide +kernel
theorem dL_law_1036 : decode cL_law 1036 = .ok (.iadd, 1) := by decide +kernel
theorem dL_law_1037 : decode cL_law 1037 = .ok (.iaload, 1) := by decide +kernel
theorem dL_law_1038 : decode cL_law 1038 = .ok (.aload_n 0, 1) := by decide +kernel
theorem dL_law_1039 : decode cL_law 1039 = .ok (.iload_n 3, 1) := by decide +kernel
theorem dL_law_1040 : decode cL_law 1040 = .ok (.iconst 3, 1) := by decide +kernel
theorem dL_law_1041 : decode cL_law 1041 = .ok (.iadd, 1) := by decide +kernel
theorem dL_law_1042 : decode cL_law 1042 = .ok (.iaload, 1) := by decide +kernel
theorem dL_law_1043 : decode cL_law 1043 = .ok (.aload_n 0, 1) := by decide +kernel
theorem dL_law_1044 : decode cL_law 1044 = .ok (.iload_n 3, 1) := by decide +kernel
theorem dL_law_1045 : decode cL_law 1045 = .ok (.iconst 4, 1) := by decide +kernel
theorem dL_law_1046 : decode cL_law 1046 = .ok (.iadd, 1) := by decide +kernel
theorem dL_law_1047 : decode cL_law 1047 = .ok (.iaload, 1) := by decide +kernel
theorem dL_law_1048 : decode cL_law 1048 = .ok (.aload_n 0, 1) := by decide +kernel
theorem dL_law_1049 : decode cL_law 1049 = .ok (.iload_n 3, 1) := by decide +kernel
theorem dL_law_1050 : decode cL_law 1050 = .ok (.iconst 5, 1) := by decide +kernel
theorem dL_law_1051 : decode cL_law 1051 = .ok (.iadd, 1) := by decide +kernel
theorem dL_law_1052 : decode cL_law 1052 = .ok (.iaload, 1) := by decide +kernel
theorem dL_law_1053 : decode cL_law 1053 = .ok (.invokevirtual 124, 3) := by decide +kernel
theorem dL_law_1056 : decode cL_law 1056 = .ok (.aload_n 2, 1) := by decide +kernel
theorem dL_law_1057 : decode cL_law 1057 = .ok (.aload_n 0, 1) := by decide +kernel
theorem dL_law_1058 : decode cL_law 1058 = .ok (.iload_n 3, 1) := by decide +kernel
theorem dL_law_1059 : decode cL_law 1059 = .ok (.iconst 1, 1) := by decide +kernel
theorem dL_law_1060 : decode cL_law 1060 = .ok (.iadd, 1) := by decide +kernel
theorem dL_law_1061 : decode cL_law 1061 = .ok (.iaload, 1) := by decide +kernel
theorem dL_law_1062 : decode cL_law 1062 = .ok (.aload_n 0, 1) := by decide +kernel
theorem dL_law_1063 : decode cL_law 1063 = .ok (.iload_n 3, 1) := by decide +kernel
theorem dL_law_1064 : decode cL_law 1064 = .ok (.iconst 2, 1) := by decide +kernel
theorem dL_law_1065 : decode cL_law 1065 = .ok (.iadd, 1) := by decide +kernel
theorem dL_law_1066 : decode cL_law 1066 = .ok (.iaload, 1) := by decide +kernel
theorem dL_law_1067 : decode cL_law 1067 = .ok (.aload_n 0, 1) := by decide +kernel
theorem dL_law_1068 : decode cL_law 1068 = .ok (.iload_n 3, 1) := by decide +kernel
theorem dL_law_1069 : decode cL_law 1069 = .ok (.iconst 3, 1) := by decide +kernel
theorem dL_law_1070 : decode cL_law 1070 = .ok (.iadd, 1) := by decide +kernel
theorem dL_law_1071 : decode cL_law 1071 = .ok (.iaload, 1) := by decide +kernel
theorem dL_law_1072 : decode cL_law 1072 = .ok (.aload_n 0, 1) := by decide +kernel
theorem dL_law_1073 : decode cL_law 1073 = .ok (.iload_n 3, 1) := by decide +kernel
theorem dL_law_1074 : decode cL_law 1074 = .ok (.iconst 4, 1) := by decide +kernel
theorem dL_law_1075 : decode cL_law 1075 = .ok (.iadd, 1) := by decide +kernel
theorem dL_law_1076 : decode cL_law 1076 = .ok (.iaload, 1) := by decide +kernel
theorem dL_law_1077 : decode cL_law 1077 = .ok (.aload_n 0, 1) := by decide +kernel
theorem dL_law_1078 : decode cL_law 1078 = .ok (.iload_n 3, 1) := by decide +kernel
theorem dL_law_1079 : decode cL_law 1079 = .ok (.iconst 5, 1) := by decide +kernel
theorem dL_law_1080 : decode cL_law 1080 = .ok (.iadd, 1) := by decide +kernel
theorem dL_law_1081 : decode cL_law 1081 = .ok (.iaload, 1) := by decide +kernel
theorem dL_law_1082 : decode cL_law 1082 = .ok (.invokevirtual 128, 3) := by decide +kernel
theorem dL_law_1085 : decode cL_law 1085 = .ok (.if_icmp .eq 179, 3) := by decide +kernel
theorem dL_law_1088 : decode cL_law 1088 = .ok (.iconst 0, 1) := by decide +kernel
theorem dL_law_1089 : decode cL_law 1089 = .ok (.ireturn, 1) := by decide +kernel
theorem dL_law_1090 : decode cL_law 1090 = .ok (.aload_n 1, 1) := by decide +kernel
theorem dL_law_1091 : decode cL_law 1091 = .ok (.aload_n 0, 1) := by decide +kernel
theorem dL_law_1092 : decode cL_law 1092 = .ok (.iload_n 3, 1) := by decide +kernel
theorem dL_law_1093 : decode cL_law 1093 = .ok (.iconst 1, 1) := by decide +kernel
theorem dL_law_1094 : decode cL_law 1094 = .ok (.iadd, 1) := by decide +kernel
theorem dL_law_1095 : decode cL_law 1095 = .ok (.iaload, 1) := by decide +kernel
theorem dL_law_1096 : decode cL_law 1096 = .ok (.invokevirtual 129, 3) := by decide +kernel
theorem dL_law_1099 : decode cL_law 1099 = .ok (.aload_n 2, 1) := by decide +kernel
theorem dL_law_1100 : decode cL_law 1100 = .ok (.aload_n 0, 1) := by decide +kernel
theorem dL_law_1101 : decode cL_law 1101 = .ok (.iload_n 3, 1) := by decide +kernel
theorem dL_law_1102 : decode cL_law 1102 = .ok (.iconst 1, 1) := by decide +kernel
theorem dL_law_1103 : decode cL_law 1103 = .ok (.iadd, 1) := by decide +kernel
theorem dL_law_1104 : decode cL_law 1104 = .ok (.iaload, 1) := by decide +kernel
theorem dL_law_1105 : decode cL_law 1105 = .ok (.invokevirtual 132, 3) := by decide +kernel
theorem dL_law_1108 : decode cL_law 1108 = .ok (.if_icmp .eq 156, 3) := by decide +kernel
theorem dL_law_1111 : decode cL_law 1111 = .ok (.iconst 0, 1) := by decide +kernel
theorem dL_law_1112 : decode cL_law 1112 = .ok (.ireturn, 1) := by decide +kernel
theorem dL_law_1113 : decode cL_law 1113 = .ok (.aload_n 1, 1) := by decide +kernel
theorem dL_law_1114 : decode cL_law 1114 = .ok (.aload_n 0, 1) := by decide +kernel
theorem dL_law_1115 : decode cL_law 1115 = .ok (.iload_n 3, 1) := by decide +kernel
theorem dL_law_1116 : decode cL_law 1116 = .ok (.iconst 1, 1) := by decide +kernel
theorem dL_law_1117 : decode cL_law 1117 = .ok (.iadd, 1) := by decide +kernel
theorem dL_law_1118 : decode cL_law 1118 = .ok (.iaload, 1) := by decide +kernel
theorem dL_law_1119 : decode cL_law 1119 = .ok (.aload_n 0, 1) := by decide +kernel
theorem dL_law_1120 : decode cL_law 1120 = .ok (.iload_n 3, 1) := by decide +kernel
theorem dL_law_1121 : decode cL_law 1121 = .ok (.iconst 2, 1) := by decide +kernel
theorem dL_law_1122 : decode cL_law 1122 = .ok (.iadd, 1) := by decide +kernel
theorem dL_law_1123 : decode cL_law 1123 = .ok (.iaload, 1) := by decide +kernel
theorem dL_law_1124 : decode cL_law 1124 = .ok (.invokevirtual 133, 3) := by decide +kernel
theorem dL_law_1127 : decode cL_law 1127 = .ok (.aload_n 2, 1) := by decide +kernel
theorem dL_law_1128 : decode cL_law 1128 = .ok (.aload_n 0, 1) := by decide +kernel
theorem dL_law_1129 : decode cL_law 1129 = .ok (.iload_n 3, 1) := by decide +kernel
theorem dL_law_1130 : decode cL_law 1130 = .ok (.iconst 1, 1) := by decide +kernel
theorem dL_law_1131 : decode cL_law 1131 = .ok (.iadd, 1) := by decide +kernel
theorem dL_law_1132 : decode cL_law 1132 = .ok (.iaload, 1) := by decide +kernel
theorem dL_law_1133 : decode cL_law 1133 = .ok (.aload_n 0, 1) := by decide +kernel
theorem dL_law_1134 : decode cL_law 1134 = .ok (.iload_n 3, 1) := by decide +kernel
theorem dL_law_1135 : decode cL_law 1135 = .ok (.iconst 2, 1) := by decide +kernel
theorem dL_law_1136 : decode cL_law 1136 = .ok (.iadd, 1) := by decide +kernel
theorem dL_law_1137 : decode cL_law 1137 = .ok (.iaload, 1) := by decide +kernel
theorem dL_law_1138 : decode cL_law 1138 = .ok (.invokevirtual 136, 3) := by decide +kernel
theorem dL_law_1141 : decode cL_law 1141 = .ok (.if_icmp .eq 123, 3) := by decide +kernel
theorem dL_law_1144 : decode cL_law 1144 = .ok (.iconst 0, 1) := by decide +kernel
theorem dL_law_1145 : decode cL_law 1145 = .ok (.ireturn, 1) := by decide +kernel
theorem dL_law_1146 : decode cL_law 1146 = .ok (.aload_n 1, 1) := by decide +kernel
theorem dL_law_1147 : decode cL_law 1147 = .ok (.aload_n 0, 1) := by decide +kernel
theorem dL_law_1148 : decode cL_law 1148 = .ok (.iload_n 3, 1) := by decide +kernel
theorem dL_law_1149 : decode cL_law 1149 = .ok (.iconst 1, 1) := by decide +kernel
theorem dL_law_1150 : decode cL_law 1150 = .ok (.iadd, 1) := by decide +kernel
theorem dL_law_1151 : decode cL_law 1151 = .ok (.iaload, 1) := by decide +kernel
theorem dL_law_1152 : decode cL_law 1152 = .ok (.aload_n 0, 1) := by decide +kernel
theorem dL_law_1153 : decode cL_law 1153 = .ok (.iload_n 3, 1) := by decide +kernel
theorem dL_law_1154 : decode cL_law 1154 = .ok (.iconst 2, 1) := by decide +kernel
theorem dL_law_1155 : decode cL_law 1155 = .ok (.iadd, 1) := by decide +kernel
theorem dL_law_1156 : decode cL_law 1156 = .ok (.iaload, 1) := by decide +kernel
theorem dL_law_1157 : decode cL_law 1157 = .ok (.invokevirtual 137, 3) := by decide +kernel
theorem dL_law_1160 : decode cL_law 1160 = .ok (.aload_n 2, 1) := by decide +kernel
theorem dL_law_1161 : decode cL_law 1161 = .ok (.aload_n 0, 1) := by decide +kernel
theorem dL_law_1162 : decode cL_law 1162 = .ok (.iload_n 3, 1) := by decide +kernel
theorem dL_law_1163 : decode cL_law 1163 = .ok (.iconst 1, 1) := by decide +kernel
theorem dL_law_1164 : decode cL_law 1164 = .ok (.iadd, 1) := by decide +kernel
theorem dL_law_1165 : decode cL_law 1165 = .ok (.iaload, 1) := by decide +kernel
theorem dL_law_1166 : decode cL_law 1166 = .ok (.aload_n 0, 1) := by decide +kernel
theorem dL_law_1167 : decode cL_law 1167 = .ok (.iload_n 3, 1) := by decide +kernel
theorem dL_law_1168 : decode cL_law 1168 = .ok (.iconst 2, 1) := by decide +kernel
theorem dL_law_1169 : decode cL_law 1169 = .ok (.iadd, 1) := by decide +kernel
theorem dL_law_1170 : decode cL_law 1170 = .ok (.iaload, 1) := by decide +kernel
theorem dL_law_1171 : decode cL_law 1171 = .ok (.invokevirtual 140, 3) := by decide +kernel
theorem dL_law_1174 : decode cL_law 1174 = .ok (.if_icmp .eq 90, 3) := by decide +kernel
theorem dL_law_1177 : decode cL_law 1177 = .ok (.iconst 0, 1) := by decide +kernel
theorem dL_law_1178 : decode cL_law 1178 = .ok (.ireturn, 1) := by decide +kernel
theorem dL_law_1179 : decode cL_law 1179 = .ok (.aload_n 1, 1) := by decide +kernel
theorem dL_law_1180 : decode cL_law 1180 = .ok (.invokevirtual 141, 3) := by decide +kernel
theorem dL_law_1183 : decode cL_law 1183 = .ok (.aload_n 2, 1) := by decide +kernel
theorem dL_law_1184 : decode cL_law 1184 = .ok (.invokevirtual 144, 3) := by decide +kernel
theorem dL_law_1187 : decode cL_law 1187 = .ok (.if_icmp .eq 77, 3) := by decide +kernel
theorem dL_law_1190 : decode cL_law 1190 = .ok (.iconst 0, 1) := by decide +kernel
theorem dL_law_1191 : decode cL_law 1191 = .ok (.ireturn, 1) := by decide +kernel
theorem dL_law_1192 : decode cL_law 1192 = .ok (.aload_n 1, 1) := by decide +kernel
theorem dL_law_1193 : decode cL_law 1193 = .ok (.invokevirtual 145, 3) := by decide +kernel
theorem dL_law_1196 : decode cL_law 1196 = .ok (.aload_n 2, 1) := by decide +kernel
theorem dL_law_1197 : decode cL_law 1197 = .ok (.invokevirtual 148, 3) := by decide +kernel
theorem dL_law_1200 : decode cL_law 1200 = .ok (.if_icmp .eq 64, 3) := by decide +kernel
theorem dL_law_1203 : decode cL_law 1203 = .ok (.iconst 0, 1) := by decide +kernel
theorem dL_law_1204 : decode cL_law 1204 = .ok (.ireturn, 1) := by decide +kernel
theorem dL_law_1205 : decode cL_law 1205 = .ok (.aload_n 1, 1) := by decide +kernel
theorem dL_law_1206 : decode cL_law 1206 = .ok (.invokevirtual 149, 3) := by decide +kernel
theorem dL_law_1209 : decode cL_law 1209 = .ok (.aload_n 2, 1) := by decide +kernel
theorem dL_law_1210 : decode cL_law 1210 = .ok (.invokevirtual 152, 3) := by decide +kernel
theorem dL_law_1213 : decode cL_law 1213 = .ok (.if_icmp .eq 51, 3) := by decide +kernel
theorem dL_law_1216 : decode cL_law 1216 = .ok (.iconst 0, 1) := by decide +kernel
theorem dL_law_1217 : decode cL_law 1217 = .ok (.ireturn, 1) := by decide +kernel
theorem dL_law_1218 : decode cL_law 1218 = .ok (.aload_n 1, 1) := by decide +kernel
theorem dL_law_1219 : decode cL_law 1219 = .ok (.aload_n 0, 1) := by decide +kernel
theorem dL_law_1220 : decode cL_law 1220 = .ok (.iload_n 3, 1) := by decide +kernel
theorem dL_law_1221 : decode cL_law 1221 = .ok (.iconst 1, 1) := by decide +kernel
theorem dL_law_1222 : decode cL_law 1222 = .ok (.iadd, 1) := by decide +kernel
theorem dL_law_1223 : decode cL_law 1223 = .ok (.iaload, 1) := by decide +kernel
theorem dL_law_1224 : decode cL_law 1224 = .ok (.invokevirtual 153, 3) := by decide +kernel
theorem dL_law_1227 : decode cL_law 1227 = .ok (.aload_n 2, 1) := by decide +kernel
theorem dL_law_1228 : decode cL_law 1228 = .ok (.aload_n 0, 1) := by decide +kernel
theorem dL_law_1229 : decode cL_law 1229 = .ok (.iload_n 3, 1) := by decide +kernel
theorem dL_law_1230 : decode cL_law 1230 = .ok (.iconst 1, 1) := by decide +kernel
theorem dL_law_1231 : decode cL_law 1231 = .ok (.iadd, 1) := by decide +kernel
theorem dL_law_1232 : decode cL_law 1232 = .ok (.iaload, 1) := by decide +kernel
theorem dL_law_1233 : decode cL_law 1233 = .ok (.invokevirtual 156, 3) := by decide +kernel
theorem dL_law_1236 : decode cL_law 1236 = .ok (.if_icmp .eq 28, 3) := by decide +kernel
theorem dL_law_1239 : decode cL_law 1239 = .ok (.iconst 0, 1) := by decide +kernel
theorem dL_law_1240 : decode cL_law 1240 = .ok (.ireturn, 1) := by decide +kernel
theorem dL_law_1241 : decode cL_law 1241 = .ok (.aload_n 1, 1) := by decide +kernel
theorem dL_law_1242 : decode cL_law 1242 = .ok (.aload_n 0, 1) := by decide +kernel
theorem dL_law_1243 : decode cL_law 1243 = .ok (.iload_n 3, 1) := by decide +kernel
theorem dL_law_1244 : decode cL_law 1244 = .ok (.iconst 1, 1) := by decide +kernel
theorem dL_law_1245 : decode cL_law 1245 = .ok (.iadd, 1) := by decide +kernel
theorem dL_law_1246 : decode cL_law 1246 = .ok (.iaload, 1) := by decide +kernel
theorem dL_law_1247 : decode cL_law 1247 = .ok (.invokevirtual 157, 3) := by decide +kernel
theorem dL_law_1250 : decode cL_law 1250 = .ok (.aload_n 2, 1) := by decide +kernel
theorem dL_law_1251 : decode cL_law 1251 = .ok (.aload_n 0, 1) := by decide +kernel
theorem dL_law_1252 : decode cL_law 1252 = .ok (.iload_n 3, 1) := by decide +kernel
theorem dL_law_1253 : decode cL_law 1253 = .ok (.iconst 1, 1) := by decide +kernel
theorem dL_law_1254 : decode cL_law 1254 = .ok (.iadd, 1) := by decide +kernel
theorem dL_law_1255 : decode cL_law 1255 = .ok (.iaload, 1) := by decide +kernel
theorem dL_law_1256 : decode cL_law 1256 = .ok (.invokevirtual 160, 3) := by decide +kernel
theorem dL_law_1259 : decode cL_law 1259 = .ok (.if_icmp .eq 5, 3) := by decide +kernel
theorem dL_law_1262 : decode cL_law 1262 = .ok (.iconst 0, 1) := by decide +kernel
theorem dL_law_1263 : decode cL_law 1263 = .ok (.ireturn, 1) := by decide +kernel
theorem dL_law_1264 : decode cL_law 1264 = .ok (.iinc 3 6, 3) := by decide +kernel
theorem dL_law_1267 : decode cL_law 1267 = .ok (.goto (-1249), 3) := by decide +kernel
theorem dL_law_1270 : decode cL_law 1270 = .ok (.iconst 1, 1) := by decide +kernel
theorem dL_law_1271 : decode cL_law 1271 = .ok (.ireturn, 1) := by decide +kernel
end
section
/-! THE LAYER: one word list for every method, what never changes of the tables (GX), a world and its frame (WX), contracts over a world, calls -/
theorem rin1 : ∀ w ∈ wsL_law_r1, w ∈ wsL_law := fun _ h => (List.mem_append_left _ (List.mem_append_left _ (List.mem_append_left _ (List.mem_append_left _ (List.mem_append_left _ (List.mem_append_left _ (List.mem_append_left _ (List.mem_append_left _ (List.mem_append_left _ (List.mem_append_left _ (List.mem_append_left _ (List.mem_append_left _ (List.mem_append_left _ (List.mem_append_left _ h))))))))))))))
theorem rin2 : ∀ w ∈ wsL_law_r2, w ∈ wsL_law := fun _ h => (List.mem_append_left _ (List.mem_append_left _ (List.mem_append_left _ (List.mem_append_left _ (List.mem_append_left _ (List.mem_append_left _ (List.mem_append_left _ (List.mem_append_left _ (List.mem_append_left _ (List.mem_append_left _ (List.mem_append_left _ (List.mem_append_left _ (List.mem_append_left _ (List.mem_append_right _ (List.mem_append_left _ h)))))))))))))))
theorem rin3 : ∀ w ∈ wsL_law_r3, w ∈ wsL_law := fun _ h => (List.mem_append_left _ (List.mem_append_left _ (List.mem_append_left _ (List.mem_append_left _ (List.mem_append_left _ (List.mem_append_left _ (List.mem_append_left _ (List.mem_append_left _ (List.mem_append_left _ (List.mem_append_left _ (List.mem_append_left _ (List.mem_append_left _ (List.mem_append_left _ (List.mem_append_right _ (List.mem_append_right _ (List.mem_append_left _ h))))))))))))))))
theorem rin4 : ∀ w ∈ wsL_law_r4, w ∈ wsL_law := fun _ h => (List.mem_append_left _ (List.mem_append_left _ (List.mem_append_left _ (List.mem_append_left _ (List.mem_append_left _ (List.mem_append_left _ (List.mem_append_left _ (List.mem_append_left _ (List.mem_append_left _ (List.mem_append_left _ (List.mem_append_left _ (List.mem_append_left _ (List.mem_append_left _ (List.mem_append_right _ (List.mem_append_right _ (List.mem_append_right _ (List.mem_append_left _ h)))))))))))))))))
theorem rin5 : ∀ w ∈ wsL_law_r5, w ∈ wsL_law := fun _ h => (List.mem_append_left _ (List.mem_append_left _ (List.mem_append_left _ (List.mem_append_left _ (List.mem_append_left _ (List.mem_append_left _ (List.mem_append_left _ (List.mem_append_left _ (List.mem_append_left _ (List.mem_append_left _ (List.mem_append_left _ (List.mem_append_left _ (List.mem_append_left _ (List.mem_append_right _ (List.mem_append_right _ (List.mem_append_right _ (List.mem_append_right _ (List.mem_append_left _ h))))))))))))))))))
theorem rin6 : ∀ w ∈ wsL_law_r6, w ∈ wsL_law := fun _ h => (List.mem_append_left _ (List.mem_append_left _ (List.mem_append_left _ (List.mem_append_left _ (List.mem_append_left _ (List.mem_append_left _ (List.mem_append_left _ (List.mem_append_left _ (List.mem_append_left _ (List.mem_append_left _ (List.mem_append_left _ (List.mem_append_left _ (List.mem_append_left _ (List.mem_append_right _ (List.mem_append_right _ (List.mem_append_right _ (List.mem_append_right _ (List.mem_append_right _ (List.mem_append_left _ h)))))))))))))))))))
theorem rin7 : ∀ w ∈ wsL_law_r7, w ∈ wsL_law := fun _ h => (List.mem_append_left _ (List.mem_append_left _ (List.mem_append_left _ (List.mem_append_left _ (List.mem_append_left _ (List.mem_append_left _ (List.mem_append_left _ (List.mem_append_left _ (List.mem_append_left _ (List.mem_append_left _ (List.mem_append_left _ (List.mem_append_left _ (List.mem_append_left _ (List.mem_append_right _ (List.mem_append_right _ (List.mem_append_right _ (List.mem_append_right _ (List.mem_append_right _ (List.mem_append_right _ (List.mem_append_left _ h))))))))))))))))))))
theorem rin8 : ∀ w ∈ wsL_law_r8, w ∈ wsL_law := fun _ h => (List.mem_append_left _ (List.mem_append_left _ (List.mem_append_left _ (List.mem_append_left _ (List.mem_append_left _ (List.mem_append_left _ (List.mem_append_left _ (List.mem_append_left _ (List.mem_append_left _ (List.mem_append_left _ (List.mem_append_left _ (List.mem_append_left _ (List.mem_append_left _ (List.mem_append_right _ (List.mem_append_right _ (List.mem_append_right _ (List.mem_append_right _ (List.mem_append_right _ (List.mem_append_right _ (List.mem_append_right _ (List.mem_append_left _ h)))))))))))))))))))))
theorem rin9 : ∀ w ∈ wsL_law_r9, w ∈ wsL_law := fun _ h => (List.mem_append_left _ (List.mem_append_left _ (List.mem_append_left _ (List.mem_append_left _ (List.mem_append_left _ (List.mem_append_left _ (List.mem_append_left _ (List.mem_append_left _ (List.mem_append_left _ (List.mem_append_left _ (List.mem_append_left _ (List.mem_append_left _ (List.mem_append_left _ (List.mem_append_right _ (List.mem_append_right _ (List.mem_append_right _ (List.mem_append_right _ (List.mem_append_right _ (List.mem_append_right _ (List.mem_append_right _ (List.mem_append_right _ (List.mem_append_left _ h))))))))))))))))))))))
theorem rin10 : ∀ w ∈ wsL_law_r10, w ∈ wsL_law := fun _ h => (List.mem_append_left _ (List.mem_append_left _ (List.mem_append_left _ (List.mem_append_left _ (List.mem_append_left _ (List.mem_append_left _ (List.mem_append_left _ (List.mem_append_left _ (List.mem_append_left _ (List.mem_append_left _ (List.mem_append_left _ (List.mem_append_left _ (List.mem_append_left _ (List.mem_append_right _ (List.mem_append_right _ (List.mem_append_right _ (List.mem_append_right _ (List.mem_append_right _ (List.mem_append_right _ (List.mem_append_right _ (List.mem_append_right _ (List.mem_append_right _ (List.mem_append_left _ h)))))))))))))))))))))))
theorem rin11 : ∀ w ∈ wsL_law_r11, w ∈ wsL_law := fun _ h => (List.mem_append_left _ (List.mem_append_left _ (List.mem_append_left _ (List.mem_append_left _ (List.mem_append_left _ (List.mem_append_left _ (List.mem_append_left _ (List.mem_append_left _ (List.mem_append_left _ (List.mem_append_left _ (List.mem_append_left _ (List.mem_append_left _ (List.mem_append_left _ (List.mem_append_right _ (List.mem_append_right _ (List.mem_append_right _ (List.mem_append_right _ (List.mem_append_right _ (List.mem_append_right _ (List.mem_append_right _ (List.mem_append_right _ (List.mem_append_right _ (List.mem_append_right _ (List.mem_append_left _ h))))))))))))))))))))))))
theorem rin12 : ∀ w ∈ wsL_law_r12, w ∈ wsL_law := fun _ h => (List.mem_append_left _ (List.mem_append_left _ (List.mem_append_left _ (List.mem_append_left _ (List.mem_append_left _ (List.mem_append_left _ (List.mem_append_left _ (List.mem_append_left _ (List.mem_append_left _ (List.mem_append_left _ (List.mem_append_left _ (List.mem_append_left _ (List.mem_append_left _ (List.mem_append_right _ (List.mem_append_right _ (List.mem_append_right _ (List.mem_append_right _ (List.mem_append_right _ (List.mem_append_right _ (List.mem_append_right _ (List.mem_append_right _ (List.mem_append_right _ (List.mem_append_right _ (List.mem_append_right _ (List.mem_append_left _ h)))))))))))))))))))))))))
theorem rin13 : ∀ w ∈ wsL_law_r13, w ∈ wsL_law := fun _ h => (List.mem_append_left _ (List.mem_append_left _ (List.mem_append_left _ (List.mem_append_left _ (List.mem_append_left _ (List.mem_append_left _ (List.mem_append_left _ (List.mem_append_left _ (List.mem_append_left _ (List.mem_append_left _ (List.mem_append_left _ (List.mem_append_left _ (List.mem_append_left _ (List.mem_append_right _ (List.mem_append_right _ (List.mem_append_right _ (List.mem_append_right _ (List.mem_append_right _ (List.mem_append_right _ (List.mem_append_right _ (List.mem_append_right _ (List.mem_append_right _ (List.mem_append_right _ (List.mem_append_right _ (List.mem_append_right _ (List.mem_append_left _ h))))))))))))))))))))))))))
theorem rin14 : ∀ w ∈ wsL_law_r14, w ∈ wsL_law := fun _ h => (List.mem_append_left _ (List.mem_append_left _ (List.mem_append_left _ (List.mem_append_left _ (List.mem_append_left _ (List.mem_append_left _ (List.mem_append_left _ (List.mem_append_left _ (List.mem_append_left _ (List.mem_append_left _ (List.mem_append_left _ (List.mem_append_left _ (List.mem_append_left _ (List.mem_append_right _ (List.mem_append_right _ (List.mem_append_right _ (List.mem_append_right _ (List.mem_append_right _ (List.mem_append_right _ (List.mem_append_right _ (List.mem_append_right _ (List.mem_append_right _ (List.mem_append_right _ (List.mem_append_right _ (List.mem_append_right _ (List.mem_append_right _ (List.mem_append_left _ h)))))))))))))))))))))))))))
theorem rin15 : ∀ w ∈ wsL_law_r15, w ∈ wsL_law := fun _ h => (List.mem_append_left _ (List.mem_append_left _ (List.mem_append_left _ (List.mem_append_left _ (List.mem_append_left _ (List.mem_append_left _ (List.mem_append_left _ (List.mem_append_left _ (List.mem_append_left _ (List.mem_append_left _ (List.mem_append_left _ (List.mem_append_left _ (List.mem_append_left _ (List.mem_append_right _ (List.mem_append_right _ (List.mem_append_right _ (List.mem_append_right _ (List.mem_append_right _ (List.mem_append_right _ (List.mem_append_right _ (List.mem_append_right _ (List.mem_append_right _ (List.mem_append_right _ (List.mem_append_right _ (List.mem_append_right _ (List.mem_append_right _ (List.mem_append_right _ (List.mem_append_left _ h))))))))))))))))))))))))))))
theorem rin16 : ∀ w ∈ wsL_law_r16, w ∈ wsL_law := fun _ h => (List.mem_append_left _ (List.mem_append_left _ (List.mem_append_left _ (List.mem_append_left _ (List.mem_append_left _ (List.mem_append_left _ (List.mem_append_left _ (List.mem_append_left _ (List.mem_append_left _ (List.mem_append_left _ (List.mem_append_left _ (List.mem_append_left _ (List.mem_append_left _ (List.mem_append_right _ (List.mem_append_right _ (List.mem_append_right _ (List.mem_append_right _ (List.mem_append_right _ (List.mem_append_right _ (List.mem_append_right _ (List.mem_append_right _ (List.mem_append_right _ (List.mem_append_right _ (List.mem_append_right _ (List.mem_append_right _ (List.mem_append_right _ (List.mem_append_right _ (List.mem_append_right _ (List.mem_append_left _ h)))))))))))))))))))))))))))))
theorem rin17 : ∀ w ∈ wsL_law_r17, w ∈ wsL_law := fun _ h => (List.mem_append_left _ (List.mem_append_left _ (List.mem_append_left _ (List.mem_append_left _ (List.mem_append_left _ (List.mem_append_left _ (List.mem_append_left _ (List.mem_append_left _ (List.mem_append_left _ (List.mem_append_left _ (List.mem_append_left _ (List.mem_append_left _ (List.mem_append_left _ (List.mem_append_right _ (List.mem_append_right _ (List.mem_append_right _ (List.mem_append_right _ (List.mem_append_right _ (List.mem_append_right _ (List.mem_append_right _ (List.mem_append_right _ (List.mem_append_right _ (List.mem_append_right _ (List.mem_append_right _ (List.mem_append_right _ (List.mem_append_right _ (List.mem_append_right _ (List.mem_append_right _ (List.mem_append_right _ (List.mem_append_left _ h))))))))))))))))))))))))))))))
theorem rin18 : ∀ w ∈ wsL_law_r18, w ∈ wsL_law := fun _ h => (List.mem_append_left _ (List.mem_append_left _ (List.mem_append_left _ (List.mem_append_left _ (List.mem_append_left _ (List.mem_append_left _ (List.mem_append_left _ (List.mem_append_left _ (List.mem_append_left _ (List.mem_append_left _ (List.mem_append_left _ (List.mem_append_left _ (List.mem_append_left _ (List.mem_append_right _ (List.mem_append_right _ (List.mem_append_right _ (List.mem_append_right _ (List.mem_append_right _ (List.mem_append_right _ (List.mem_append_right _ (List.mem_append_right _ (List.mem_append_right _ (List.mem_append_right _ (List.mem_append_right _ (List.mem_append_right _ (List.mem_append_right _ (List.mem_append_right _ (List.mem_append_right _ (List.mem_append_right _ (List.mem_append_right _ (List.mem_append_left _ h)))))))))))))))))))))))))))))))
theorem rin19 : ∀ w ∈ wsL_law_r19, w ∈ wsL_law := fun _ h => (List.mem_append_left _ (List.mem_append_left _ (List.mem_append_left _ (List.mem_append_left _ (List.mem_append_left _ (List.mem_append_left _ (List.mem_append_left _ (List.mem_append_left _ (List.mem_append_left _ (List.mem_append_left _ (List.mem_append_left _ (List.mem_append_left _ (List.mem_append_left _ (List.mem_append_right _ (List.mem_append_right _ (List.mem_append_right _ (List.mem_append_right _ (List.mem_append_right _ (List.mem_append_right _ (List.mem_append_right _ (List.mem_append_right _ (List.mem_append_right _ (List.mem_append_right _ (List.mem_append_right _ (List.mem_append_right _ (List.mem_append_right _ (List.mem_append_right _ (List.mem_append_right _ (List.mem_append_right _ (List.mem_append_right _ (List.mem_append_right _ (List.mem_append_left _ h))))))))))))))))))))))))))))))))
theorem rin20 : ∀ w ∈ wsL_law_r20, w ∈ wsL_law := fun _ h => (List.mem_append_left _ (List.mem_append_left _ (List.mem_append_left _ (List.mem_append_left _ (List.mem_append_left _ (List.mem_append_left _ (List.mem_append_left _ (List.mem_append_left _ (List.mem_append_left _ (List.mem_append_left _ (List.mem_append_left _ (List.mem_append_left _ (List.mem_append_left _ (List.mem_append_right _ (List.mem_append_right _ (List.mem_append_right _ (List.mem_append_right _ (List.mem_append_right _ (List.mem_append_right _ (List.mem_append_right _ (List.mem_append_right _ (List.mem_append_right _ (List.mem_append_right _ (List.mem_append_right _ (List.mem_append_right _ (List.mem_append_right _ (List.mem_append_right _ (List.mem_append_right _ (List.mem_append_right _ (List.mem_append_right _ (List.mem_append_right _ (List.mem_append_right _ (List.mem_append_left _ h)))))))))))))))))))))))))))))))))
theorem rin21 : ∀ w ∈ wsL_law_r21, w ∈ wsL_law := fun _ h => (List.mem_append_left _ (List.mem_append_left _ (List.mem_append_left _ (List.mem_append_left _ (List.mem_append_left _ (List.mem_append_left _ (List.mem_append_left _ (List.mem_append_left _ (List.mem_append_left _ (List.mem_append_left _ (List.mem_append_left _ (List.mem_append_left _ (List.mem_append_left _ (List.mem_append_right _ (List.mem_append_right _ (List.mem_append_right _ (List.mem_append_right _ (List.mem_append_right _ (List.mem_append_right _ (List.mem_append_right _ (List.mem_append_right _ (List.mem_append_right _ (List.mem_append_right _ (List.mem_append_right _ (List.mem_append_right _ (List.mem_append_right _ (List.mem_append_right _ (List.mem_append_right _ (List.mem_append_right _ (List.mem_append_right _ (List.mem_append_right _ (List.mem_append_right _ (List.mem_append_right _ (List.mem_append_left _ h))))))))))))))))))))))))))))))))))
theorem rin22 : ∀ w ∈ wsL_law_r22, w ∈ wsL_law := fun _ h => (List.mem_append_left _ (List.mem_append_left _ (List.mem_append_left _ (List.mem_append_left _ (List.mem_append_left _ (List.mem_append_left _ (List.mem_append_left _ (List.mem_append_left _ (List.mem_append_left _ (List.mem_append_left _ (List.mem_append_left _ (List.mem_append_left _ (List.mem_append_left _ (List.mem_append_right _ (List.mem_append_right _ (List.mem_append_right _ (List.mem_append_right _ (List.mem_append_right _ (List.mem_append_right _ (List.mem_append_right _ (List.mem_append_right _ (List.mem_append_right _ (List.mem_append_right _ (List.mem_append_right _ (List.mem_append_right _ (List.mem_append_right _ (List.mem_append_right _ (List.mem_append_right _ (List.mem_append_right _ (List.mem_append_right _ (List.mem_append_right _ (List.mem_append_right _ (List.mem_append_right _ (List.mem_append_right _ (List.mem_append_left _ h)))))))))))))))))))))))))))))))))))
theorem rin23 : ∀ w ∈ wsL_law_r23, w ∈ wsL_law := fun _ h => (List.mem_append_left _ (List.mem_append_left _ (List.mem_append_left _ (List.mem_append_left _ (List.mem_append_left _ (List.mem_append_left _ (List.mem_append_left _ (List.mem_append_left _ (List.mem_append_left _ (List.mem_append_left _ (List.mem_append_left _ (List.mem_append_left _ (List.mem_append_left _ (List.mem_append_right _ (List.mem_append_right _ (List.mem_append_right _ (List.mem_append_right _ (List.mem_append_right _ (List.mem_append_right _ (List.mem_append_right _ (List.mem_append_right _ (List.mem_append_right _ (List.mem_append_right _ (List.mem_append_right _ (List.mem_append_right _ (List.mem_append_right _ (List.mem_append_right _ (List.mem_append_right _ (List.mem_append_right _ (List.mem_append_right _ (List.mem_append_right _ (List.mem_append_right _ (List.mem_append_right _ (List.mem_append_right _ (List.mem_append_right _ (List.mem_append_left _ h))))))))))))))))))))))))))))))))))))
theorem rin24 : ∀ w ∈ wsL_law_r24, w ∈ wsL_law := fun _ h => (List.mem_append_left _ (List.mem_append_left _ (List.mem_append_left _ (List.mem_append_left _ (List.mem_append_left _ (List.mem_append_left _ (List.mem_append_left _ (List.mem_append_left _ (List.mem_append_left _ (List.mem_append_left _ (List.mem_append_left _ (List.mem_append_left _ (List.mem_append_left _ (List.mem_append_right _ (List.mem_append_right _ (List.mem_append_right _ (List.mem_append_right _ (List.mem_append_right _ (List.mem_append_right _ (List.mem_append_right _ (List.mem_append_right _ (List.mem_append_right _ (List.mem_append_right _ (List.mem_append_right _ (List.mem_append_right _ (List.mem_append_right _ (List.mem_append_right _ (List.mem_append_right _ (List.mem_append_right _ (List.mem_append_right _ (List.mem_append_right _ (List.mem_append_right _ (List.mem_append_right _ (List.mem_append_right _ (List.mem_append_right _ (List.mem_append_right _ (List.mem_append_left _ h)))))))))))))))))))))))))))))))))))))
theorem rin25 : ∀ w ∈ wsL_law_r25, w ∈ wsL_law := fun _ h => (List.mem_append_left _ (List.mem_append_left _ (List.mem_append_left _ (List.mem_append_left _ (List.mem_append_left _ (List.mem_append_left _ (List.mem_append_left _ (List.mem_append_left _ (List.mem_append_left _ (List.mem_append_left _ (List.mem_append_left _ (List.mem_append_left _ (List.mem_append_left _ (List.mem_append_right _ (List.mem_append_right _ (List.mem_append_right _ (List.mem_append_right _ (List.mem_append_right _ (List.mem_append_right _ (List.mem_append_right _ (List.mem_append_right _ (List.mem_append_right _ (List.mem_append_right _ (List.mem_append_right _ (List.mem_append_right _ (List.mem_append_right _ (List.mem_append_right _ (List.mem_append_right _ (List.mem_append_right _ (List.mem_append_right _ (List.mem_append_right _ (List.mem_append_right _ (List.mem_append_right _ (List.mem_append_right _ (List.mem_append_right _ (List.mem_append_right _ (List.mem_append_right _ (List.mem_append_left _ h))))))))))))))))))))))))))))))))))))))
theorem rin26 : ∀ w ∈ wsL_law_r26, w ∈ wsL_law := fun _ h => (List.mem_append_left _ (List.mem_append_left _ (List.mem_append_left _ (List.mem_append_left _ (List.mem_append_left _ (List.mem_append_left _ (List.mem_append_left _ (List.mem_append_left _ (List.mem_append_left _ (List.mem_append_left _ (List.mem_append_left _ (List.mem_append_left _ (List.mem_append_left _ (List.mem_append_right _ (List.mem_append_right _ (List.mem_append_right _ (List.mem_append_right _ (List.mem_append_right _ (List.mem_append_right _ (List.mem_append_right _ (List.mem_append_right _ (List.mem_append_right _ (List.mem_append_right _ (List.mem_append_right _ (List.mem_append_right _ (List.mem_append_right _ (List.mem_append_right _ (List.mem_append_right _ (List.mem_append_right _ (List.mem_append_right _ (List.mem_append_right _ (List.mem_append_right _ (List.mem_append_right _ (List.mem_append_right _ (List.mem_append_right _ (List.mem_append_right _ (List.mem_append_right _ (List.mem_append_right _ (List.mem_append_left _ h)))))))))))))))))))))))))))))))))))))))
theorem rin27 : ∀ w ∈ wsL_law_r27, w ∈ wsL_law := fun _ h => (List.mem_append_left _ (List.mem_append_left _ (List.mem_append_left _ (List.mem_append_left _ (List.mem_append_left _ (List.mem_append_left _ (List.mem_append_left _ (List.mem_append_left _ (List.mem_append_left _ (List.mem_append_left _ (List.mem_append_left _ (List.mem_append_left _ (List.mem_append_left _ (List.mem_append_right _ (List.mem_append_right _ (List.mem_append_right _ (List.mem_append_right _ (List.mem_append_right _ (List.mem_append_right _ (List.mem_append_right _ (List.mem_append_right _ (List.mem_append_right _ (List.mem_append_right _ (List.mem_append_right _ (List.mem_append_right _ (List.mem_append_right _ (List.mem_append_right _ (List.mem_append_right _ (List.mem_append_right _ (List.mem_append_right _ (List.mem_append_right _ (List.mem_append_right _ (List.mem_append_right _ (List.mem_append_right _ (List.mem_append_right _ (List.mem_append_right _ (List.mem_append_right _ (List.mem_append_right _ (List.mem_append_right _ (List.mem_append_left _ h))))))))))))))))))))))))))))))))))))))))
theorem rin28 : ∀ w ∈ wsL_law_r28, w ∈ wsL_law := fun _ h => (List.mem_append_left _ (List.mem_append_left _ (List.mem_append_left _ (List.mem_append_left _ (List.mem_append_left _ (List.mem_append_left _ (List.mem_append_left _ (List.mem_append_left _ (List.mem_append_left _ (List.mem_append_left _ (List.mem_append_left _ (List.mem_append_left _ (List.mem_append_left _ (List.mem_append_right _ (List.mem_append_right _ (List.mem_append_right _ (List.mem_append_right _ (List.mem_append_right _ (List.mem_append_right _ (List.mem_append_right _ (List.mem_append_right _ (List.mem_append_right _ (List.mem_append_right _ (List.mem_append_right _ (List.mem_append_right _ (List.mem_append_right _ (List.mem_append_right _ (List.mem_append_right _ (List.mem_append_right _ (List.mem_append_right _ (List.mem_append_right _ (List.mem_append_right _ (List.mem_append_right _ (List.mem_append_right _ (List.mem_append_right _ (List.mem_append_right _ (List.mem_append_right _ (List.mem_append_right _ (List.mem_append_right _ (List.mem_append_right _ (List.mem_append_left _ h)))))))))))))))))))))))))))))))))))))))))
theorem rin29 : ∀ w ∈ wsL_law_r29, w ∈ wsL_law := fun _ h => (List.mem_append_left _ (List.mem_append_left _ (List.mem_append_left _ (List.mem_append_left _ (List.mem_append_left _ (List.mem_append_left _ (List.mem_append_left _ (List.mem_append_left _ (List.mem_append_left _ (List.mem_append_left _ (List.mem_append_left _ (List.mem_append_left _ (List.mem_append_left _ (List.mem_append_right _ (List.mem_append_right _ (List.mem_append_right _ (List.mem_append_right _ (List.mem_append_right _ (List.mem_append_right _ (List.mem_append_right _ (List.mem_append_right _ (List.mem_append_right _ (List.mem_append_right _ (List.mem_append_right _ (List.mem_append_right _ (List.mem_append_right _ (List.mem_append_right _ (List.mem_append_right _ (List.mem_append_right _ (List.mem_append_right _ (List.mem_append_right _ (List.mem_append_right _ (List.mem_append_right _ (List.mem_append_right _ (List.mem_append_right _ (List.mem_append_right _ (List.mem_append_right _ (List.mem_append_right _ (List.mem_append_right _ (List.mem_append_right _ (List.mem_append_right _ (List.mem_append_left _ h))))))))))))))))))))))))))))))))))))))))))
theorem rin30 : ∀ w ∈ wsL_law_r30, w ∈ wsL_law := fun _ h => (List.mem_append_left _ (List.mem_append_left _ (List.mem_append_left _ (List.mem_append_left _ (List.mem_append_left _ (List.mem_append_left _ (List.mem_append_left _ (List.mem_append_left _ (List.mem_append_left _ (List.mem_append_left _ (List.mem_append_left _ (List.mem_append_left _ (List.mem_append_left _ (List.mem_append_right _ (List.mem_append_right _ (List.mem_append_right _ (List.mem_append_right _ (List.mem_append_right _ (List.mem_append_right _ (List.mem_append_right _ (List.mem_append_right _ (List.mem_append_right _ (List.mem_append_right _ (List.mem_append_right _ (List.mem_append_right _ (List.mem_append_right _ (List.mem_append_right _ (List.mem_append_right _ (List.mem_append_right _ (List.mem_append_right _ (List.mem_append_right _ (List.mem_append_right _ (List.mem_append_right _ (List.mem_append_right _ (List.mem_append_right _ (List.mem_append_right _ (List.mem_append_right _ (List.mem_append_right _ (List.mem_append_right _ (List.mem_append_right _ (List.mem_append_right _ (List.mem_append_right _ (List.mem_append_left _ h)))))))))))))))))))))))))))))))))))))))))))
theorem rin31 : ∀ w ∈ wsL_law_r31, w ∈ wsL_law := fun _ h => (List.mem_append_left _ (List.mem_append_left _ (List.mem_append_left _ (List.mem_append_left _ (List.mem_append_left _ (List.mem_append_left _ (List.mem_append_left _ (List.mem_append_left _ (List.mem_append_left _ (List.mem_append_left _ (List.mem_append_left _ (List.mem_append_left _ (List.mem_append_left _ (List.mem_append_right _ (List.mem_append_right _ (List.mem_append_right _ (List.mem_append_right _ (List.mem_append_right _ (List.mem_append_right _ (List.mem_append_right _ (List.mem_append_right _ (List.mem_append_right _ (List.mem_append_right _ (List.mem_append_right _ (List.mem_append_right _ (List.mem_append_right _ (List.mem_append_right _ (List.mem_append_right _ (List.mem_append_right _ (List.mem_append_right _ (List.mem_append_right _ (List.mem_append_right _ (List.mem_append_right _ (List.mem_append_right _ (List.mem_append_right _ (List.mem_append_right _ (List.mem_append_right _ (List.mem_append_right _ (List.mem_append_right _ (List.mem_append_right _ (List.mem_append_right _ (List.mem_append_right _ (List.mem_append_right _ (List.mem_append_left _ h))))))))))))))))))))))))))))))))))))))))))))
theorem rin32 : ∀ w ∈ wsL_law_r32, w ∈ wsL_law := fun _ h => (List.mem_append_left _ (List.mem_append_left _ (List.mem_append_left _ (List.mem_append_left _ (List.mem_append_left _ (List.mem_append_left _ (List.mem_append_left _ (List.mem_append_left _ (List.mem_append_left _ (List.mem_append_left _ (List.mem_append_left _ (List.mem_append_left _ (List.mem_append_left _ (List.mem_append_right _ (List.mem_append_right _ (List.mem_append_right _ (List.mem_append_right _ (List.mem_append_right _ (List.mem_append_right _ (List.mem_append_right _ (List.mem_append_right _ (List.mem_append_right _ (List.mem_append_right _ (List.mem_append_right _ (List.mem_append_right _ (List.mem_append_right _ (List.mem_append_right _ (List.mem_append_right _ (List.mem_append_right _ (List.mem_append_right _ (List.mem_append_right _ (List.mem_append_right _ (List.mem_append_right _ (List.mem_append_right _ (List.mem_append_right _ (List.mem_append_right _ (List.mem_append_right _ (List.mem_append_right _ (List.mem_append_right _ (List.mem_append_right _ (List.mem_append_right _ (List.mem_append_right _ (List.mem_append_right _ (List.mem_append_right _ (List.mem_append_left _ h)))))))))))))))))))))))))))))))))))))))))))))
theorem rin33 : ∀ w ∈ wsL_law_r33, w ∈ wsL_law := fun _ h => (List.mem_append_left _ (List.mem_append_left _ (List.mem_append_left _ (List.mem_append_left _ (List.mem_append_left _ (List.mem_append_left _ (List.mem_append_left _ (List.mem_append_left _ (List.mem_append_left _ (List.mem_append_left _ (List.mem_append_left _ (List.mem_append_left _ (List.mem_append_left _ (List.mem_append_right _ (List.mem_append_right _ (List.mem_append_right _ (List.mem_append_right _ (List.mem_append_right _ (List.mem_append_right _ (List.mem_append_right _ (List.mem_append_right _ (List.mem_append_right _ (List.mem_append_right _ (List.mem_append_right _ (List.mem_append_right _ (List.mem_append_right _ (List.mem_append_right _ (List.mem_append_right _ (List.mem_append_right _ (List.mem_append_right _ (List.mem_append_right _ (List.mem_append_right _ (List.mem_append_right _ (List.mem_append_right _ (List.mem_append_right _ (List.mem_append_right _ (List.mem_append_right _ (List.mem_append_right _ (List.mem_append_right _ (List.mem_append_right _ (List.mem_append_right _ (List.mem_append_right _ (List.mem_append_right _ (List.mem_append_right _ (List.mem_append_right _ (List.mem_append_left _ h))))))))))))))))))))))))))))))))))))))))))))))
theorem rin34 : ∀ w ∈ wsL_law_r34, w ∈ wsL_law := fun _ h => (List.mem_append_left _ (List.mem_append_left _ (List.mem_append_left _ (List.mem_append_left _ (List.mem_append_left _ (List.mem_append_left _ (List.mem_append_left _ (List.mem_append_left _ (List.mem_append_left _ (List.mem_append_left _ (List.mem_append_left _ (List.mem_append_left _ (List.mem_append_left _ (List.mem_append_right _ (List.mem_append_right _ (List.mem_append_right _ (List.mem_append_right _ (List.mem_append_right _ (List.mem_append_right _ (List.mem_append_right _ (List.mem_append_right _ (List.mem_append_right _ (List.mem_append_right _ (List.mem_append_right _ (List.mem_append_right _ (List.mem_append_right _ (List.mem_append_right _ (List.mem_append_right _ (List.mem_append_right _ (List.mem_append_right _ (List.mem_append_right _ (List.mem_append_right _ (List.mem_append_right _ (List.mem_append_right _ (List.mem_append_right _ (List.mem_append_right _ (List.mem_append_right _ (List.mem_append_right _ (List.mem_append_right _ (List.mem_append_right _ (List.mem_append_right _ (List.mem_append_right _ (List.mem_append_right _ (List.mem_append_right _ (List.mem_append_right _ (List.mem_append_right _ (List.mem_append_left _ h)))))))))))))))))))))))))))))))))))))))))))))))
theorem rin35 : ∀ w ∈ wsL_law_r35, w ∈ wsL_law := fun _ h => (List.mem_append_left _ (List.mem_append_left _ (List.mem_append_left _ (List.mem_append_left _ (List.mem_append_left _ (List.mem_append_left _ (List.mem_append_left _ (List.mem_append_left _ (List.mem_append_left _ (List.mem_append_left _ (List.mem_append_left _ (List.mem_append_left _ (List.mem_append_left _ (List.mem_append_right _ (List.mem_append_right _ (List.mem_append_right _ (List.mem_append_right _ (List.mem_append_right _ (List.mem_append_right _ (List.mem_append_right _ (List.mem_append_right _ (List.mem_append_right _ (List.mem_append_right _ (List.mem_append_right _ (List.mem_append_right _ (List.mem_append_right _ (List.mem_append_right _ (List.mem_append_right _ (List.mem_append_right _ (List.mem_append_right _ (List.mem_append_right _ (List.mem_append_right _ (List.mem_append_right _ (List.mem_append_right _ (List.mem_append_right _ (List.mem_append_right _ (List.mem_append_right _ (List.mem_append_right _ (List.mem_append_right _ (List.mem_append_right _ (List.mem_append_right _ (List.mem_append_right _ (List.mem_append_right _ (List.mem_append_right _ (List.mem_append_right _ (List.mem_append_right _ (List.mem_append_right _ (List.mem_append_left _ h))))))))))))))))))))))))))))))))))))))))))))))))
theorem rin36 : ∀ w ∈ wsL_law_r36, w ∈ wsL_law := fun _ h => (List.mem_append_left _ (List.mem_append_left _ (List.mem_append_left _ (List.mem_append_left _ (List.mem_append_left _ (List.mem_append_left _ (List.mem_append_left _ (List.mem_append_left _ (List.mem_append_left _ (List.mem_append_left _ (List.mem_append_left _ (List.mem_append_left _ (List.mem_append_left _ (List.mem_append_right _ (List.mem_append_right _ (List.mem_append_right _ (List.mem_append_right _ (List.mem_append_right _ (List.mem_append_right _ (List.mem_append_right _ (List.mem_append_right _ (List.mem_append_right _ (List.mem_append_right _ (List.mem_append_right _ (List.mem_append_right _ (List.mem_append_right _ (List.mem_append_right _ (List.mem_append_right _ (List.mem_append_right _ (List.mem_append_right _ (List.mem_append_right _ (List.mem_append_right _ (List.mem_append_right _ (List.mem_append_right _ (List.mem_append_right _ (List.mem_append_right _ (List.mem_append_right _ (List.mem_append_right _ (List.mem_append_right _ (List.mem_append_right _ (List.mem_append_right _ (List.mem_append_right _ (List.mem_append_right _ (List.mem_append_right _ (List.mem_append_right _ (List.mem_append_right _ (List.mem_append_right _ (List.mem_append_right _ (List.mem_append_left _ h)))))))))))))))))))))))))))))))))))))))))))))))))
theorem rin37 : ∀ w ∈ wsL_law_r37, w ∈ wsL_law := fun _ h => (List.mem_append_left _ (List.mem_append_left _ (List.mem_append_left _ (List.mem_append_left _ (List.mem_append_left _ (List.mem_append_left _ (List.mem_append_left _ (List.mem_append_left _ (List.mem_append_left _ (List.mem_append_left _ (List.mem_append_left _ (List.mem_append_left _ (List.mem_append_left _ (List.mem_append_right _ (List.mem_append_right _ (List.mem_append_right _ (List.mem_append_right _ (List.mem_append_right _ (List.mem_append_right _ (List.mem_append_right _ (List.mem_append_right _ (List.mem_append_right _ (List.mem_append_right _ (List.mem_append_right _ (List.mem_append_right _ (List.mem_append_right _ (List.mem_append_right _ (List.mem_append_right _ (List.mem_append_right _ (List.mem_append_right _ (List.mem_append_right _ (List.mem_append_right _ (List.mem_append_right _ (List.mem_append_right _ (List.mem_append_right _ (List.mem_append_right _ (List.mem_append_right _ (List.mem_append_right _ (List.mem_append_right _ (List.mem_append_right _ (List.mem_append_right _ (List.mem_append_right _ (List.mem_append_right _ (List.mem_append_right _ (List.mem_append_right _ (List.mem_append_right _ (List.mem_append_right _ (List.mem_append_right _ (List.mem_append_right _ (List.mem_append_left _ h))))))))))))))))))))))))))))))))))))))))))))))))))
theorem rin38 : ∀ w ∈ wsL_law_r38, w ∈ wsL_law := fun _ h => (List.mem_append_left _ (List.mem_append_left _ (List.mem_append_left _ (List.mem_append_left _ (List.mem_append_left _ (List.mem_append_left _ (List.mem_append_left _ (List.mem_append_left _ (List.mem_append_left _ (List.mem_append_left _ (List.mem_append_left _ (List.mem_append_left _ (List.mem_append_left _ (List.mem_append_right _ (List.mem_append_right _ (List.mem_append_right _ (List.mem_append_right _ (List.mem_append_right _ (List.mem_append_right _ (List.mem_append_right _ (List.mem_append_right _ (List.mem_append_right _ (List.mem_append_right _ (List.mem_append_right _ (List.mem_append_right _ (List.mem_append_right _ (List.mem_append_right _ (List.mem_append_right _ (List.mem_append_right _ (List.mem_append_right _ (List.mem_append_right _ (List.mem_append_right _ (List.mem_append_right _ (List.mem_append_right _ (List.mem_append_right _ (List.mem_append_right _ (List.mem_append_right _ (List.mem_append_right _ (List.mem_append_right _ (List.mem_append_right _ (List.mem_append_right _ (List.mem_append_right _ (List.mem_append_right _ (List.mem_append_right _ (List.mem_append_right _ (List.mem_append_right _ (List.mem_append_right _ (List.mem_append_right _ (List.mem_append_right _ (List.mem_append_right _ (List.mem_append_left _ h)))))))))))))))))))))))))))))))))))))))))))))))))))
theorem rin39 : ∀ w ∈ wsL_law_r39, w ∈ wsL_law := fun _ h => (List.mem_append_left _ (List.mem_append_left _ (List.mem_append_left _ (List.mem_append_left _ (List.mem_append_left _ (List.mem_append_left _ (List.mem_append_left _ (List.mem_append_left _ (List.mem_append_left _ (List.mem_append_left _ (List.mem_append_left _ (List.mem_append_left _ (List.mem_append_left _ (List.mem_append_right _ (List.mem_append_right _ (List.mem_append_right _ (List.mem_append_right _ (List.mem_append_right _ (List.mem_append_right _ (List.mem_append_right _ (List.mem_append_right _ (List.mem_append_right _ (List.mem_append_right _ (List.mem_append_right _ (List.mem_append_right _ (List.mem_append_right _ (List.mem_append_right _ (List.mem_append_right _ (List.mem_append_right _ (List.mem_append_right _ (List.mem_append_right _ (List.mem_append_right _ (List.mem_append_right _ (List.mem_append_right _ (List.mem_append_right _ (List.mem_append_right _ (List.mem_append_right _ (List.mem_append_right _ (List.mem_append_right _ (List.mem_append_right _ (List.mem_append_right _ (List.mem_append_right _ (List.mem_append_right _ (List.mem_append_right _ (List.mem_append_right _ (List.mem_append_right _ (List.mem_append_right _ (List.mem_append_right _ (List.mem_append_right _ (List.mem_append_right _ (List.mem_append_right _ (List.mem_append_left _ h))))))))))))))))))))))))))))))))))))))))))))))))))))
theorem rin40 : ∀ w ∈ wsL_law_r40, w ∈ wsL_law := fun _ h => (List.mem_append_left _ (List.mem_append_left _ (List.mem_append_left _ (List.mem_append_left _ (List.mem_append_left _ (List.mem_append_left _ (List.mem_append_left _ (List.mem_append_left _ (List.mem_append_left _ (List.mem_append_left _ (List.mem_append_left _ (List.mem_append_left _ (List.mem_append_left _ (List.mem_append_right _ (List.mem_append_right _ (List.mem_append_right _ (List.mem_append_right _ (List.mem_append_right _ (List.mem_append_right _ (List.mem_append_right _ (List.mem_append_right _ (List.mem_append_right _ (List.mem_append_right _ (List.mem_append_right _ (List.mem_append_right _ (List.mem_append_right _ (List.mem_append_right _ (List.mem_append_right _ (List.mem_append_right _ (List.mem_append_right _ (List.mem_append_right _ (List.mem_append_right _ (List.mem_append_right _ (List.mem_append_right _ (List.mem_append_right _ (List.mem_append_right _ (List.mem_append_right _ (List.mem_append_right _ (List.mem_append_right _ (List.mem_append_right _ (List.mem_append_right _ (List.mem_append_right _ (List.mem_append_right _ (List.mem_append_right _ (List.mem_append_right _ (List.mem_append_right _ (List.mem_append_right _ (List.mem_append_right _ (List.mem_append_right _ (List.mem_append_right _ (List.mem_append_right _ (List.mem_append_right _ (List.mem_append_left _ h)))))))))))))))))))))))))))))))))))))))))))))))))))))
theorem rin41 : ∀ w ∈ wsL_law_r41, w ∈ wsL_law := fun _ h => (List.mem_append_left _ (List.mem_append_left _ (List.mem_append_left _ (List.mem_append_left _ (List.mem_append_left _ (List.mem_append_left _ (List.mem_append_left _ (List.mem_append_left _ (List.mem_append_left _ (List.mem_append_left _ (List.mem_append_left _ (List.mem_append_left _ (List.mem_append_left _ (List.mem_append_right _ (List.mem_append_right _ (List.mem_append_right _ (List.mem_append_right _ (List.mem_append_right _ (List.mem_append_right _ (List.mem_append_right _ (List.mem_append_right _ (List.mem_append_right _ (List.mem_append_right _ (List.mem_append_right _ (List.mem_append_right _ (List.mem_append_right _ (List.mem_append_right _ (List.mem_append_right _ (List.mem_append_right _ (List.mem_append_right _ (List.mem_append_right _ (List.mem_append_right _ (List.mem_append_right _ (List.mem_append_right _ (List.mem_append_right _ (List.mem_append_right _ (List.mem_append_right _ (List.mem_append_right _ (List.mem_append_right _ (List.mem_append_right _ (List.mem_append_right _ (List.mem_append_right _ (List.mem_append_right _ (List.mem_append_right _ (List.mem_append_right _ (List.mem_append_right _ (List.mem_append_right _ (List.mem_append_right _ (List.mem_append_right _ (List.mem_append_right _ (List.mem_append_right _ (List.mem_append_right _ (List.mem_append_right _ h)))))))))))))))))))))))))))))))))))))))))))))))))))))
set_option maxRecDepth 100000 in
theorem wsL_good : wsL_law.all goodWord = true := by decide +kernel
theorem wsL_gd {w : Cond} (h : w ∈ wsL_law) : (w.onTables && w.keeps) = true ∨ ∃ ty, w = .arrayClass ty := good_of_word (List.all_eq_true.mp wsL_good w h)
/-- a method's words: its own code, then the whole list -/
def WS (y : MethodName) (cc : ByteArray) (n : Nat) (ret : Option FieldType) : List Cond := .code y cc n ret :: wsL_law
theorem ws_ok {y : MethodName} {cc : ByteArray} {n : Nat} {ret : Option FieldType} (h : Cond.code y cc n ret ∈ wsL_law) : GoodIn wsL_law (WS y cc n ret) := fun w hw => by
  rcases List.mem_cons.mp hw with rfl | hw
  · exact ⟨h, wsL_gd h⟩
  · exact ⟨hw, wsL_gd hw⟩
theorem gV {own C : String} {idx n : Nat} {y : MethodName} {cc : ByteArray} {ret : Option FieldType} (h1 : Cond.methodLink own idx y ∈ wsL_law) (h2 : Cond.instanceMethod y ∈ wsL_law) (h3 : Cond.selects C y y ∈ wsL_law) (h4 : Cond.initialized C ∈ wsL_law) (h5 : Cond.code y cc n ret ∈ wsL_law) : GoodIn wsL_law (wsV own idx C y (WS y cc n ret)) := fun w hw => by
  rcases List.mem_append.mp hw with hw | hw
  · simp only [List.mem_cons, List.not_mem_nil, or_false] at hw
    rcases hw with rfl | rfl | rfl | rfl
    · exact ⟨h1, wsL_gd h1⟩
    · exact ⟨h2, wsL_gd h2⟩
    · exact ⟨h3, wsL_gd h3⟩
    · exact ⟨h4, wsL_gd h4⟩
  · exact ws_ok h5 w hw
theorem gS {own : String} {idx n : Nat} {y : MethodName} {cc : ByteArray} {ret : Option FieldType} (h1 : Cond.methodLink own idx y ∈ wsL_law) (h2 : Cond.static y ∈ wsL_law) (h4 : Cond.initialized y.cls ∈ wsL_law) (h5 : Cond.code y cc n ret ∈ wsL_law) : GoodIn wsL_law (va_wsS own idx y (WS y cc n ret)) := fun w hw => by
  rcases List.mem_append.mp hw with hw | hw
  · simp only [List.mem_cons, List.not_mem_nil, or_false] at hw
    rcases hw with rfl | rfl | rfl
    · exact ⟨h1, wsL_gd h1⟩
    · exact ⟨h2, wsL_gd h2⟩
    · exact ⟨h4, wsL_gd h4⟩
  · exact ws_ok h5 w hw
theorem gSU {own : String} {idx n : Nat} {y : MethodName} {cc : ByteArray} {ret : Option FieldType} (h1 : Cond.methodLink own idx y ∈ wsL_law) (h2 : Cond.sameMethod y.cls y.cls y.name y.desc ∈ wsL_law) (h3 : Cond.superclass own y.cls ∈ wsL_law) (h4 : Cond.instanceMethod y ∈ wsL_law) (h5 : Cond.initialized y.cls ∈ wsL_law) (h6 : Cond.code y cc n ret ∈ wsL_law) : GoodIn wsL_law (va_wsSU own idx y (WS y cc n ret)) := fun w hw => by
  rcases List.mem_append.mp hw with hw | hw
  · simp only [List.mem_cons, List.not_mem_nil, or_false] at hw
    rcases hw with rfl | rfl | rfl | rfl | rfl
    · exact ⟨h1, wsL_gd h1⟩
    · exact ⟨h2, wsL_gd h2⟩
    · exact ⟨h3, wsL_gd h3⟩
    · exact ⟨h4, wsL_gd h4⟩
    · exact ⟨h5, wsL_gd h5⟩
  · exact ws_ok h6 w hw
theorem gU {own C owner : String} {idx n : Nat} {x y : MethodName} {cc : ByteArray} {ret : Option FieldType} (h1 : Cond.methodLink own idx x ∈ wsL_law) (h2 : Cond.sameMethod x.cls owner x.name x.desc ∈ wsL_law) (h3 : Cond.selects C x y ∈ wsL_law) (h4 : Cond.instanceMethod y ∈ wsL_law) (h5 : Cond.initialized y.cls ∈ wsL_law) (h6 : Cond.code y cc n ret ∈ wsL_law) : GoodIn wsL_law (va_wsU own idx C owner x y (WS y cc n ret)) := fun w hw => by
  rcases List.mem_append.mp hw with hw | hw
  · simp only [List.mem_cons, List.not_mem_nil, or_false] at hw
    rcases hw with rfl | rfl | rfl | rfl | rfl
    · exact ⟨h1, wsL_gd h1⟩
    · exact ⟨h2, wsL_gd h2⟩
    · exact ⟨h3, wsL_gd h3⟩
    · exact ⟨h4, wsL_gd h4⟩
    · exact ⟨h5, wsL_gd h5⟩
  · exact ws_ok h6 w hw
theorem gO {own C owner : String} {idx n : Nat} {x y : MethodName} {cc : ByteArray} {ret : Option FieldType} (h1 : Cond.methodLink own idx x ∈ wsL_law) (h2 : Cond.sameMethod x.cls owner x.name x.desc ∈ wsL_law) (h7 : Cond.instanceMethod ⟨owner, x.name, x.desc⟩ ∈ wsL_law) (h3 : Cond.selects C x y ∈ wsL_law) (h4 : Cond.instanceMethod y ∈ wsL_law) (h5 : Cond.initialized y.cls ∈ wsL_law) (h6 : Cond.code y cc n ret ∈ wsL_law) : GoodIn wsL_law (va_wsO own idx C owner x y (WS y cc n ret)) := fun w hw => by
  rcases List.mem_append.mp hw with hw | hw
  · simp only [List.mem_cons, List.not_mem_nil, or_false] at hw
    rcases hw with rfl | rfl | rfl | rfl | rfl | rfl
    · exact ⟨h1, wsL_gd h1⟩
    · exact ⟨h2, wsL_gd h2⟩
    · exact ⟨h7, wsL_gd h7⟩
    · exact ⟨h3, wsL_gd h3⟩
    · exact ⟨h4, wsL_gd h4⟩
    · exact ⟨h5, wsL_gd h5⟩
  · exact ws_ok h6 w hw
/-- the links to private members of nest mates -/
def NW : List Cond := [.methodLinkNest "ComposedInterval" 9 ⟨"ComposedInterval$Tape", "<init>", "()V"⟩ "ComposedInterval", .fieldLinkNest "ComposedInterval" 173 "ComposedInterval$Tape" "length" "I" "ComposedInterval", .methodLinkNest "ComposedInterval" 32 ⟨"ComposedInterval$Cast", "<init>", "()V"⟩ "ComposedInterval", .methodLinkNest "ComposedInterval$Cast" 9 ⟨"ComposedInterval$Guest", "<init>", "()V"⟩ "ComposedInterval", .methodLinkNest "ComposedInterval$Cast" 18 ⟨"ComposedInterval$Enemy", "<init>", "()V"⟩ "ComposedInterval", .methodLinkNest "ComposedInterval$Enemy" 3 ⟨"ComposedInterval$Guest", "<init>", "()V"⟩ "ComposedInterval", .methodLinkNest "ComposedInterval$Cast" 24 ⟨"ComposedInterval$Singer", "<init>", "()V"⟩ "ComposedInterval", .methodLinkNest "ComposedInterval$Singer" 3 ⟨"ComposedInterval$Guest", "<init>", "()V"⟩ "ComposedInterval", .methodLinkNest "ComposedInterval$Cast" 30 ⟨"ComposedInterval$Late", "<init>", "()V"⟩ "ComposedInterval", .methodLinkNest "ComposedInterval$Late" 3 ⟨"ComposedInterval$Guest", "<init>", "()V"⟩ "ComposedInterval", .methodLinkNest "ComposedInterval$Cast" 36 ⟨"ComposedInterval$Diva", "<init>", "()V"⟩ "ComposedInterval", .methodLinkNest "ComposedInterval$Diva" 3 ⟨"ComposedInterval$Singer", "<init>", "()V"⟩ "ComposedInterval", .methodLinkNest "ComposedInterval$Cast" 42 ⟨"ComposedInterval$Rival", "<init>", "()V"⟩ "ComposedInterval", .methodLinkNest "ComposedInterval$Rival" 1 ⟨"ComposedInterval$Enemy", "<init>", "()V"⟩ "ComposedInterval", .methodLinkNest "ComposedInterval" 35 ⟨"ComposedInterval$Foyer", "<init>", "(LComposedInterval$Cast;)V"⟩ "ComposedInterval", .fieldLinkNest "ComposedInterval" 62 "ComposedInterval$Foyer" "score" "[I" "ComposedInterval", .fieldLinkNest "ComposedInterval$Tape" 66 "ComposedInterval$Foyer" "score" "[I" "ComposedInterval", .fieldLinkNest "ComposedInterval" 65 "ComposedInterval$Foyer" "bells" "[I" "ComposedInterval", .fieldLinkNest "ComposedInterval$Tape" 70 "ComposedInterval$Foyer" "bells" "[I" "ComposedInterval", .fieldLinkNest "ComposedInterval" 109 "ComposedInterval$Foyer" "kind" "[I" "ComposedInterval", .fieldLinkNest "ComposedInterval$Late" 9 "ComposedInterval$Foyer" "at" "[I" "ComposedInterval", .fieldLinkNest "ComposedInterval" 112 "ComposedInterval$Foyer" "at" "[I" "ComposedInterval", .fieldLinkNest "ComposedInterval$Guest" 17 "ComposedInterval$Foyer" "quick" "[I" "ComposedInterval", .fieldLinkNest "ComposedInterval$Diva" 23 "ComposedInterval$Foyer" "quick" "[I" "ComposedInterval", .fieldLinkNest "ComposedInterval" 115 "ComposedInterval$Foyer" "quick" "[I" "ComposedInterval", .fieldLinkNest "ComposedInterval$Guest" 13 "ComposedInterval$Foyer" "played" "[I" "ComposedInterval", .fieldLinkNest "ComposedInterval" 118 "ComposedInterval$Foyer" "played" "[I" "ComposedInterval", .fieldLinkNest "ComposedInterval" 121 "ComposedInterval$Foyer" "spoilt" "[I" "ComposedInterval", .fieldLinkNest "ComposedInterval$Diva" 9 "ComposedInterval$Foyer" "minute" "I" "ComposedInterval", .fieldLinkNest "ComposedInterval" 71 "ComposedInterval$Foyer" "minute" "I" "ComposedInterval", .fieldLinkNest "ComposedInterval" 98 "ComposedInterval$Foyer" "people" "I" "ComposedInterval", .fieldLinkNest "ComposedInterval$Tape" 73 "ComposedInterval$Foyer" "people" "I" "ComposedInterval", .fieldLinkNest "ComposedInterval$Singer" 9 "ComposedInterval$Foyer" "quarter" "I" "ComposedInterval", .fieldLinkNest "ComposedInterval" 75 "ComposedInterval$Foyer" "quarter" "I" "ComposedInterval", .fieldLinkNest "ComposedInterval$Guest" 7 "ComposedInterval$Foyer" "spot" "I" "ComposedInterval", .fieldLinkNest "ComposedInterval$Enemy" 9 "ComposedInterval$Foyer" "spot" "I" "ComposedInterval", .fieldLinkNest "ComposedInterval" 78 "ComposedInterval$Foyer" "spot" "I" "ComposedInterval", .fieldLinkNest "ComposedInterval$Rival" 17 "ComposedInterval$Foyer" "ringing" "I" "ComposedInterval", .fieldLinkNest "ComposedInterval" 81 "ComposedInterval$Foyer" "ringing" "I" "ComposedInterval", .fieldLinkNest "ComposedInterval" 158 "ComposedInterval$Foyer" "inTime" "I" "ComposedInterval", .methodLinkNest "ComposedInterval" 48 ⟨"ComposedInterval$Sheet", "<init>", "()V"⟩ "ComposedInterval", .fieldLinkNest "ComposedInterval" 197 "ComposedInterval$Sheet" "numbers" "[J" "ComposedInterval", .fieldLinkNest "ComposedInterval" 210 "ComposedInterval$Sheet" "bits" "I" "ComposedInterval", .fieldLinkNest "ComposedInterval" 191 "ComposedInterval$Sheet" "size" "I" "ComposedInterval", .methodLinkNest "ComposedInterval" 68 ⟨"ComposedInterval$Foyer", "look", "()V"⟩ "ComposedInterval", .methodLinkNest "ComposedInterval" 84 ⟨"ComposedInterval$Foyer", "whoIsDueHere", "()I"⟩ "ComposedInterval", .methodLinkNest "ComposedInterval$Foyer" 65 ⟨"ComposedInterval$Cast", "numbered", "(I)LComposedInterval$Guest;"⟩ "ComposedInterval", .methodLinkNest "ComposedInterval" 89 ⟨"ComposedInterval$Foyer", "sumHarmony", "()I"⟩ "ComposedInterval", .methodLinkNest "ComposedInterval" 92 ⟨"ComposedInterval$Foyer", "whoIsAt", "(I)I"⟩ "ComposedInterval", .methodLinkNest "ComposedInterval" 102 ⟨"ComposedInterval$Foyer", "admit", "(III)V"⟩ "ComposedInterval", .methodLinkNest "ComposedInterval" 124 ⟨"ComposedInterval$Foyer", "dueOf", "(I)I"⟩ "ComposedInterval", .methodLinkNest "ComposedInterval" 127 ⟨"ComposedInterval$Foyer", "isDeceived", "(I)Z"⟩ "ComposedInterval", .methodLinkNest "ComposedInterval" 130 ⟨"ComposedInterval$Foyer", "guest", "(I)LComposedInterval$Guest;"⟩ "ComposedInterval", .methodLinkNest "ComposedInterval$Enemy" 15 ⟨"ComposedInterval$Foyer", "isBarred", "(II)Z"⟩ "ComposedInterval", .methodLinkNest "ComposedInterval" 154 ⟨"ComposedInterval$Foyer", "go", "(I)V"⟩ "ComposedInterval", .methodLinkNest "ComposedInterval" 161 ⟨"ComposedInterval$Foyer", "become", "(LComposedInterval$Foyer;)V"⟩ "ComposedInterval", .methodLinkNest "ComposedInterval" 165 ⟨"ComposedInterval$Foyer", "passMinute", "()V"⟩ "ComposedInterval", .methodLinkNest "ComposedInterval" 176 ⟨"ComposedInterval$Tape", "append", "(I)V"⟩ "ComposedInterval", .methodLinkNest "ComposedInterval" 179 ⟨"ComposedInterval$Tape", "perform", "(LComposedInterval$Foyer;)I"⟩ "ComposedInterval", .methodLinkNest "ComposedInterval$Tape" 52 ⟨"ComposedInterval$Cast", "nameOf", "(I)Ljava/lang/String;"⟩ "ComposedInterval", .methodLinkNest "ComposedInterval$Tape" 78 ⟨"ComposedInterval$Foyer", "admit", "(III)V"⟩ "ComposedInterval", .methodLinkNest "ComposedInterval" 187 ⟨"ComposedInterval$Sheet", "lay", "(II)V"⟩ "ComposedInterval", .methodLinkNest "ComposedInterval" 205 ⟨"ComposedInterval$Sheet", "isMissing", "()Z"⟩ "ComposedInterval", .methodLinkNest "ComposedInterval" 201 ⟨"ComposedInterval$Sheet", "narrow", "(J)J"⟩ "ComposedInterval", .methodLinkNest "ComposedInterval" 213 ⟨"ComposedInterval$Sheet", "hasRun", "(II)Z"⟩ "ComposedInterval", .methodLinkNest "ComposedInterval" 228 ⟨"ComposedInterval$Foyer", "sumOf", "([I)I"⟩ "ComposedInterval"]
def isNest : Cond → Bool
  | .fieldLinkNest _ _ _ _ _ _ => true
  | .methodLinkNest _ _ _ _ => true
  | _ => false
set_option maxRecDepth 100000 in
theorem NW_nest : NW.all isNest = true := by decide +kernel
def NWs (U : State) : Prop := ∀ w ∈ NW, va_Nw w U
theorem NWs.warm {s U : State} (hW : s.WarmedH U.vm) (h : NWs s) : NWs U := fun w hw => by
  have h1 := List.all_eq_true.mp NW_nest w hw
  have h2 := h w hw
  cases w with
  | fieldLinkNest a i b n d k => exact va_Nw.warmF hW h2
  | methodLinkNest a i x k => exact va_Nw.warmM hW h2
  | _ => exact absurd h1 (by simp [isNest])
theorem NWs.same {s U : State} (hv : s.vm = U.vm) (h : NWs s) : NWs U := fun w hw => by
  have h1 := List.all_eq_true.mp NW_nest w hw
  have h2 := h w hw
  cases w with
  | fieldLinkNest a i b n d k => exact va_Nw.same rfl hv h2
  | methodLinkNest a i x k => exact va_Nw.same rfl hv h2
  | _ => exact absurd h1 (by simp [isNest])
/-- the String constants: class, entry, text -/
def SL : List (String × Nat × String) := [("ComposedInterval$Tape", 38, "score"), ("ComposedInterval$Tape", 47, "bell"), ("ComposedInterval$Cast", 46, "enemy"), ("ComposedInterval$Cast", 47, "singer"), ("ComposedInterval$Cast", 48, "late"), ("ComposedInterval$Cast", 49, "diva"), ("ComposedInterval$Cast", 50, "rival"), ("ComposedInterval$Cast", 51, "guest"), ("ComposedInterval$Tape", 76, "quick")]
def SLlen : List Nat := [5, 4, 5, 6, 4, 4, 5, 5, 5]
def SLbyt : List (List Int32) := [[115, 99, 111, 114, 101], [98, 101, 108, 108], [101, 110, 101, 109, 121], [115, 105, 110, 103, 101, 114], [108, 97, 116, 101], [100, 105, 118, 97], [114, 105, 118, 97, 108], [103, 117, 101, 115, 116], [113, 117, 105, 99, 107]]
def SRs (aK : Nat → Nat) (U : State) : Prop := ∀ (i : Nat) (q : String × Nat × String), SL[i]? = some q → vk_R q.1 q.2.1 q.2.2 (aK i) U
theorem SRs.warm {aK : Nat → Nat} {s U : State} (hW : s.WarmedH U.vm) (h : SRs aK s) : SRs aK U := fun i q hq => (h i q hq).warm hW
theorem SRs.same {aK : Nat → Nat} {s U : State} (hv : U.vm = s.vm) (h : SRs aK s) : SRs aK U := fun i q hq => (h i q hq).same hv
/-- ABOVE's numbers -/
def abv : Nat → Int32 := fun j => if j = 0 then -1 else if j = 4 then 2 else if j = 5 then 1 else 0
/-- the fixed things: slots of the classes; the classes of int[], long[], Sheet[]; where ABOVE's array lies; where the Strings and their bytes lie -/
abbrev GT : Type := va_G × (ClassId × ClassId × ClassId) × Nat × (Nat → Nat) × (Nat → Nat)
abbrev gI (G : GT) : ClassId := G.2.1.1
abbrev gJ (G : GT) : ClassId := G.2.1.2.1
abbrev gSh (G : GT) : ClassId := G.2.1.2.2
abbrev tysG (G : GT) : List (ClassId × FieldType) := [(gI G, .int), (gJ G, .long), (gSh G, .object "ComposedInterval$Sheet")]
def RO (G : GT) (A : Nat → Prop) (U : State) (H : Heap) : Prop := va_Z "ComposedInterval" "ABOVE" "[I" (.ref G.2.2.1) A U H ∧ va_T .int G.2.2.1 6 (fun j => .int (abv j)) A U H ∧ vk_S 9 SLlen SLbyt G.2.2.2.1 G.2.2.2.2 A U H ∧ va_Z "java/lang/String" "COMPACT_STRINGS" "Z" (.int 1) A U H ∧ va_Zq "jdk/internal/util/Preconditions" "SIOOBE_FORMATTER" "Ljava/util/function/BiFunction;" A U H
/-- what never changes, at a state, of the cells that aren't A's -/
def GX (G : GT) (A : Nat → Prop) (U : State) : Prop := NWs U ∧ SRs G.2.2.2.1 U ∧ va_K G.1 vwCl (tysG G) U ∧ RO G A U U.heap
def WX (G : GT) (A : Nat → Prop) (s : State) (H : Heap) (locs : List Loc) (ws : va_W) : Prop := va_P G.1 vwCl ws H ∧ va_D A ws ∧ va_S A s.heap H locs
theorem va_Zq.moved' {C n d : String} {A : Nat → Prop} {u U : State} {H : Heap} (hvm : u.vm.Alike U.vm) (h : va_Zq C n d A u H) : va_Zq C n d A U H := by
  rcases h with h | ⟨t, h⟩
  · exact Or.inl (h.moved hvm)
  · exact Or.inr ⟨t, h.moved hvm⟩
theorem va_Zq.kept' {C n d : String} {A : Nat → Prop} {U : State} {H H1 : Heap} (h : va_Zq C n d A U H) (hq : ∀ a : Nat, a < H.size → ¬ A a → H1[a]? = H[a]?) : va_Zq C n d A U H1 := by
  rcases h with h | ⟨t, h⟩
  · exact Or.inl (h.kept hq)
  · exact Or.inr ⟨t, h.kept hq⟩
theorem va_Zq.narrow' {C n d : String} {A B : Nat → Prop} {U : State} {H : Heap} (h : va_Zq C n d A U H) (hAB : ∀ q, B q → A q) : va_Zq C n d B U H := by
  rcases h with h | ⟨t, h⟩
  · exact Or.inl (h.narrow hAB)
  · exact Or.inr ⟨t, h.narrow hAB⟩
theorem RO.go {G : GT} {A B : Nat → Prop} {u U : State} {H H1 : Heap} (hvm : u.vm.Alike U.vm) (hq : ∀ a : Nat, a < H.size → ¬ A a → H1[a]? = H[a]?) (hAB : ∀ q, B q → A q) (h : RO G A u H) : RO G B U H1 :=
  ⟨((h.1.moved hvm).kept hq).narrow hAB, ((h.2.1.moved hvm).kept hq).narrow hAB, ((h.2.2.1.moved hvm).kept hq).narrow hAB, ((h.2.2.2.1.moved hvm).kept hq).narrow hAB, ((h.2.2.2.2.moved' hvm).kept' hq).narrow' hAB⟩
/-- at a call -/
theorem GX.call {G : GT} {A B : Nat → Prop} {s U : State} {H : Heap} {locs : List Loc} (hG : GX G A s) (hS : va_S A s.heap H locs) (hU : U.heap = H) (hW : s.WarmedH U.vm) (hAB : ∀ q, B q → A q) : GX G B U :=
  ⟨hG.1.warm hW, hG.2.1.warm hW, va_K.moved hW.alike hG.2.2.1, by rw [hU]; exact hG.2.2.2.go hW.alike hS.2.1 hAB⟩
theorem GX.calling {G : GT} {A : Nat → Prop} {U : State} {g : JFrame} {mk : MethodId} {a : Array Value} (h : GX G A U) : GX G A (U.calling g mk a) :=
  ⟨NWs.same (s := U) (U := U.calling g mk a) rfl h.1, SRs.same (s := U) (U := U.calling g mk a) rfl h.2.1, va_K.moved (u := U) (U := U.calling g mk a) (Vm.Alike.refl U.vm) h.2.2.1, h.2.2.2.go (u := U) (U := U.calling g mk a) (Vm.Alike.refl U.vm) (fun _ _ _ => rfl) (fun _ h => h)⟩
/-- a contract's start: a world, and nothing else -/
def PB (G : GT) (wc : va_W) (sz : Nat) : State → Prop := fun V => V.heap.size = sz ∧ GX G (va_A wc sz) V ∧ va_P G.1 vwCl wc V.heap ∧ va_D (fun _ => True) wc
theorem PB.blind {G : GT} {wc : va_W} {sz : Nat} {av : List Value} : FrameBlind (va_Pc av (PB G wc sz)) := fun a U g mk q => by
  obtain ⟨q0, q1, q2, qP, qD⟩ := q
  exact ⟨q0, q1, q2.calling, qP, qD⟩
/-- contracts: of an int (boolean), a long, nothing, a reference -/
def Ki (G : GT) (l : Launch) (y : MethodName) (cc : ByteArray) (n : Nat) (ret : Option FieldType) (rm : Room) (av : List Value) (wc : va_W) {S : Type} (w1 : S → va_W) (post : Int32 → S → Prop) : Prop := ∀ sz, Met l y (WS y cc n ret) rm (va_Pc av (PB G wc sz)) (va_Qi post (fun u t => va_P G.1 vwCl (w1 u) t.heap) (va_A wc sz)) 0 0 (va_A wc sz)
def Kl (G : GT) (l : Launch) (y : MethodName) (cc : ByteArray) (n : Nat) (ret : Option FieldType) (rm : Room) (av : List Value) (wc : va_W) {S : Type} (w1 : S → va_W) (post : Int64 → S → Prop) : Prop := ∀ sz, Met l y (WS y cc n ret) rm (va_Pc av (PB G wc sz)) (va_Ql post (fun u t => va_P G.1 vwCl (w1 u) t.heap) (va_A wc sz)) 0 0 (va_A wc sz)
def Kv (G : GT) (l : Launch) (y : MethodName) (cc : ByteArray) (n : Nat) (ret : Option FieldType) (rm : Room) (av : List Value) (wc : va_W) {S : Type} (w1 : S → va_W) (post : S → Prop) : Prop := ∀ sz, Met l y (WS y cc n ret) rm (va_Pc av (PB G wc sz)) (va_Qv post (fun u t => va_P G.1 vwCl (w1 u) t.heap) (va_A wc sz)) 0 0 (va_A wc sz)
def Kr (G : GT) (l : Launch) (y : MethodName) (cc : ByteArray) (n : Nat) (ret : Option FieldType) (rm : Room) (av : List Value) (wc : va_W) {S : Type} (w1 : S → va_W) (ra : S → Nat) (post : S → Prop) : Prop := ∀ sz, Met l y (WS y cc n ret) rm (va_Pc av (PB G wc sz)) (va_Qr post (fun u a t => a = ra u ∧ va_P G.1 vwCl (w1 u) t.heap) (va_A wc sz)) 0 0 (va_A wc sz)
theorem va_A_adr {ws ws' : va_W} (h : ws'.map Prod.fst = ws.map Prod.fst) (sz q : Nat) : va_A ws' sz q ↔ va_A ws sz q := by
  have key : ∀ {a b : va_W}, a.map Prod.fst = b.map Prod.fst → va_A a sz q → va_A b sz q := by
    intro a b e hq
    rcases hq with ⟨k, x, hk⟩ | hq
    · have h1 : (a.map Prod.fst)[k]? = some q := by rw [List.getElem?_map, hk]; rfl
      rw [e, List.getElem?_map] at h1
      cases hb : b[k]? with
      | none => rw [hb] at h1; cases h1
      | some z => rw [hb] at h1; obtain ⟨z1, z2⟩ := z; cases h1; exact Or.inl ⟨k, z2, hb⟩
    · exact Or.inr hq
  exact ⟨key h, key h.symm⟩
theorem va_D_adr {A : Nat → Prop} {ws ws' : va_W} (h : ws'.map Prod.fst = ws.map Prod.fst) (hD : va_D A ws) : va_D A ws' := by
  have key : ∀ (i : Nat) (q : Nat × va_E), ws'[i]? = some q → ∃ e, ws[i]? = some (q.1, e) := by
    intro i q hq
    have h1 : (ws'.map Prod.fst)[i]? = some q.1 := by rw [List.getElem?_map, hq]; rfl
    rw [h, List.getElem?_map] at h1
    cases hb : ws[i]? with
    | none => rw [hb] at h1; cases h1
    | some z => rw [hb] at h1; obtain ⟨z1, z2⟩ := z; cases h1; exact ⟨z2, rfl⟩
  refine ⟨fun i j p q hp hq e => ?_, fun k q hq => ?_⟩
  · obtain ⟨e1, h1⟩ := key i p hp
    obtain ⟨e2, h2⟩ := key j q hq
    exact hD.1 i j _ _ h1 h2 e
  · obtain ⟨e1, h1⟩ := key k q hq
    exact hD.2 k (q.1, e1) h1
/-- another picture of the same cells -/
theorem WX.eq {G : GT} {A : Nat → Prop} {s : State} {H : Heap} {locs : List Loc} {ws ws' : va_W} (h : WX G A s H locs ws) (e : ws = ws') : WX G A s H locs ws' := e ▸ h
theorem WX.adr {G : GT} {A : Nat → Prop} {s : State} {H H1 : Heap} {locs locs1 : List Loc} {ws ws' : va_W} (h : WX G A s H locs ws) (e : ws'.map Prod.fst = ws.map Prod.fst) (hP : va_P G.1 vwCl ws' H1) (hS : va_S A s.heap H1 locs1) : WX G A s H1 locs1 ws' := ⟨hP, va_D_adr e h.2.1, hS⟩
theorem WX.fr {G : GT} {A : Nat → Prop} {s : State} {H : Heap} {locs : List Loc} {ws wc : va_W} (h : WX G A s H locs ws) (hA : ∀ q, s.heap.size ≤ q → A q) (isC : List Nat) (hC : isC.map (fun i => ws[i]?) = wc.map some) : ∀ q, va_A wc H.size q → A q := va_free h.2.1 h.2.2 hA isC hC
theorem WX.fr0 {G : GT} {A : Nat → Prop} {s : State} {H : Heap} {locs : List Loc} {ws : va_W} (h : WX G A s H locs ws) (hA : ∀ q, s.heap.size ≤ q → A q) : ∀ q, va_A ws H.size q → A q := by
  intro q hq
  rcases hq with ⟨k, e, hk⟩ | hq
  · exact h.2.1.2 k _ hk
  · exact hA q (Nat.le_trans h.2.2.1 hq)
theorem WX.frE {G : GT} {A : Nat → Prop} {s : State} {H : Heap} {locs : List Loc} {ws : va_W} (h : WX G A s H locs ws) (hA : ∀ q, s.heap.size ≤ q → A q) : ∀ q, va_A [] H.size q → A q := by
  intro q hq
  rcases hq with ⟨k, e, hk⟩ | hq
  · simp at hk
  · exact hA q (Nat.le_trans h.2.2.1 hq)
/-- what a call wants before it -/
theorem pre0 {G : GT} {A : Nat → Prop} {s : State} {H : Heap} {locs : List Loc} {ws : va_W} {av : List Value} (hG : GX G A s) (hA : ∀ q, s.heap.size ≤ q → A q) (h : WX G A s H locs ws) : PreS s H (va_Pc av (PB G ws H.size)) av :=
  ⟨PB.blind, fun _ hU hW => ⟨rfl, by rw [hU], hG.call h.2.2 hU hW (h.fr0 hA), by rw [hU]; exact h.1, h.2.1.weaken (fun _ _ _ _ => trivial)⟩⟩
theorem preE {G : GT} {A : Nat → Prop} {s : State} {H : Heap} {locs : List Loc} {ws : va_W} {av : List Value} (hG : GX G A s) (hA : ∀ q, s.heap.size ≤ q → A q) (h : WX G A s H locs ws) : PreS s H (va_Pc av (PB G [] H.size)) av :=
  ⟨PB.blind, fun _ hU hW => ⟨rfl, by rw [hU], hG.call h.2.2 hU hW (h.frE hA), fun k q hk => by simp at hk, ⟨fun i j p q hp => by simp at hp, fun k q hk => by simp at hk⟩⟩⟩
theorem preC {G : GT} {A : Nat → Prop} {s : State} {H : Heap} {locs : List Loc} {ws wc : va_W} {av : List Value} (hG : GX G A s) (hA : ∀ q, s.heap.size ≤ q → A q) (h : WX G A s H locs ws) (isC : List Nat) (hn : va_nd isC = true) (hC : isC.map (fun i => ws[i]?) = wc.map some) (hC2 : isC.filterMap (fun i => ws[i]?) = wc) : PreS s H (va_Pc av (PB G wc H.size)) av :=
  ⟨PB.blind, fun _ hU hW => ⟨rfl, by rw [hU], hG.call h.2.2 hU hW (h.fr hA isC hC), by rw [hU]; exact h.1.sub isC hC2, (h.2.1.sub isC hn hC).weaken (fun _ _ _ _ => trivial)⟩⟩
theorem preV {G : GT} {A : Nat → Prop} {s : State} {H : Heap} {locs : List Loc} {ws wc : va_W} {As : List Value} {b : Nat} (hG : GX G A s) (h : WX G A s H locs ws) (hp : PreS s H (va_Pc (.ref b :: As) (PB G wc H.size)) (.ref b :: As)) (ci q0 : Nat) {C : String} {T : u_T} {N : Nat} {fs : List Value} (hc : vwCl[ci]? = some (C, T, N)) (he : ws[q0]? = some (b, .inr (ci, fs))) : PreV s H C b (va_Pc (.ref b :: As) (PB G wc H.size)) As :=
  ⟨hp.1, va_recv hG.2.2.1 h.1 hc he, hp.2⟩
section CALLS
variable {p : Program} {l : Launch} {e : Env} {R : Room} {s : State} {m : MethodId} {args : Array Value} {below : List Frame} {meth : Method} {c : Code} {H : Heap} {locs : List Loc} {cells slots : Nat} {Q : State → Prop}
variable {pc : Nat} {ls : Array Slot} {rest st0 : List Value} {a : Array Value} {A : Nat → Prop} {G : GT} {ws wc : va_W} {S : Type} {w1 w2 : S → va_W}
theorem kc_i0 {post : Int32 → S → Prop} (hA : ∀ q, s.heap.size ≤ q → A q) (h : WX G A s H locs ws) (hr : va_Run p l e R s m args below meth c H locs cells slots 0 0 (F0 m pc ls st0) rest (va_Qi post (fun u t => va_P G.1 vwCl (w1 u) t.heap) (va_A ws H.size) a) (va_A ws H.size)) (hadr : ∀ u, (w1 u).map Prod.fst = ws.map Prod.fst)
    (kk : ∀ (r : Int32) (u : S) (H1 : Heap) (locs1 : List Loc), post r u → WX G A s H1 locs1 (w1 u) → W p l e R s m args below meth c H1 locs1 cells slots Q (F0 m (pc + 3) ls (.int r :: rest))) : W p l e R s m args below meth c H locs cells slots Q (F0 m pc ls st0) := by
  refine va_calli hr h.2.2 (fun q _ z => h.fr0 hA q z) (h.fr0 hA) (fun r u t H1 locs1 ht hvm hp hB hz hk hS => ?_)
  · exact kk r u H1 locs1 hp (h.adr (hadr u) (by rw [← ht]; exact hB) hS)
theorem kc_iE {post : Int32 → S → Prop} (hA : ∀ q, s.heap.size ≤ q → A q) (h : WX G A s H locs ws) (hr : va_Run p l e R s m args below meth c H locs cells slots 0 0 (F0 m pc ls st0) rest (va_Qi post (fun u t => va_P G.1 vwCl (w1 u) t.heap) (va_A [] H.size) a) (va_A [] H.size))
    (kk : ∀ (r : Int32) (u : S) (H1 : Heap) (locs1 : List Loc), post r u → WX G A s H1 locs1 ws → W p l e R s m args below meth c H1 locs1 cells slots Q (F0 m (pc + 3) ls (.int r :: rest))) : W p l e R s m args below meth c H locs cells slots Q (F0 m pc ls st0) := by
  refine va_calli hr h.2.2 (fun q _ z => h.frE hA q z) (h.frE hA) (fun r u t H1 locs1 ht hvm hp hB hz hk hS => ?_)
  · refine kk r u H1 locs1 hp ⟨h.1.kept (fun k q hq => hk q.1 (h.1 k q hq).lt (fun z => ?_)), h.2.1, hS⟩
    rcases z with ⟨j, x, hj⟩ | z
    · simp at hj
    · exact absurd (h.1 k q hq).lt (Nat.not_lt.mpr z)
theorem kc_iC {post : Int32 → S → Prop} (hA : ∀ q, s.heap.size ≤ q → A q) (h : WX G A s H locs ws) (isC : List Nat) (hC : isC.map (fun i => ws[i]?) = wc.map some) (hr : va_Run p l e R s m args below meth c H locs cells slots 0 0 (F0 m pc ls st0) rest (va_Qi post (fun u t => va_P G.1 vwCl (w1 u) t.heap) (va_A wc H.size) a) (va_A wc H.size))
    (jn : ∀ (u : S) (H1 : Heap), (∀ q : Nat, q < H.size → ¬ va_A wc H.size q → H1[q]? = H[q]?) → va_P G.1 vwCl (w1 u) H1 → va_P G.1 vwCl (w2 u) H1) (hadr : ∀ u, (w2 u).map Prod.fst = ws.map Prod.fst)
    (kk : ∀ (r : Int32) (u : S) (H1 : Heap) (locs1 : List Loc), post r u → WX G A s H1 locs1 (w2 u) → W p l e R s m args below meth c H1 locs1 cells slots Q (F0 m (pc + 3) ls (.int r :: rest))) : W p l e R s m args below meth c H locs cells slots Q (F0 m pc ls st0) := by
  refine va_calli hr h.2.2 (fun q _ z => h.fr hA isC hC q z) (h.fr hA isC hC) (fun r u t H1 locs1 ht hvm hp hB hz hk hS => ?_)
  · exact kk r u H1 locs1 hp (h.adr (hadr u) (jn u H1 hk (by rw [← ht]; exact hB)) hS)
theorem kc_l0 {post : Int64 → S → Prop} (hA : ∀ q, s.heap.size ≤ q → A q) (h : WX G A s H locs ws) (hr : va_Run p l e R s m args below meth c H locs cells slots 0 0 (F0 m pc ls st0) rest (va_Ql post (fun u t => va_P G.1 vwCl (w1 u) t.heap) (va_A ws H.size) a) (va_A ws H.size)) (hadr : ∀ u, (w1 u).map Prod.fst = ws.map Prod.fst)
    (kk : ∀ (r : Int64) (u : S) (H1 : Heap) (locs1 : List Loc), post r u → WX G A s H1 locs1 (w1 u) → W p l e R s m args below meth c H1 locs1 cells slots Q (F0 m (pc + 3) ls (.long r :: rest))) : W p l e R s m args below meth c H locs cells slots Q (F0 m pc ls st0) := by
  refine va_calll hr h.2.2 (fun q _ z => h.fr0 hA q z) (h.fr0 hA) (fun r u t H1 locs1 ht hvm hp hB hz hk hS => ?_)
  · exact kk r u H1 locs1 hp (h.adr (hadr u) (by rw [← ht]; exact hB) hS)
theorem kc_lE {post : Int64 → S → Prop} (hA : ∀ q, s.heap.size ≤ q → A q) (h : WX G A s H locs ws) (hr : va_Run p l e R s m args below meth c H locs cells slots 0 0 (F0 m pc ls st0) rest (va_Ql post (fun u t => va_P G.1 vwCl (w1 u) t.heap) (va_A [] H.size) a) (va_A [] H.size))
    (kk : ∀ (r : Int64) (u : S) (H1 : Heap) (locs1 : List Loc), post r u → WX G A s H1 locs1 ws → W p l e R s m args below meth c H1 locs1 cells slots Q (F0 m (pc + 3) ls (.long r :: rest))) : W p l e R s m args below meth c H locs cells slots Q (F0 m pc ls st0) := by
  refine va_calll hr h.2.2 (fun q _ z => h.frE hA q z) (h.frE hA) (fun r u t H1 locs1 ht hvm hp hB hz hk hS => ?_)
  · refine kk r u H1 locs1 hp ⟨h.1.kept (fun k q hq => hk q.1 (h.1 k q hq).lt (fun z => ?_)), h.2.1, hS⟩
    rcases z with ⟨j, x, hj⟩ | z
    · simp at hj
    · exact absurd (h.1 k q hq).lt (Nat.not_lt.mpr z)
theorem kc_lC {post : Int64 → S → Prop} (hA : ∀ q, s.heap.size ≤ q → A q) (h : WX G A s H locs ws) (isC : List Nat) (hC : isC.map (fun i => ws[i]?) = wc.map some) (hr : va_Run p l e R s m args below meth c H locs cells slots 0 0 (F0 m pc ls st0) rest (va_Ql post (fun u t => va_P G.1 vwCl (w1 u) t.heap) (va_A wc H.size) a) (va_A wc H.size))
    (jn : ∀ (u : S) (H1 : Heap), (∀ q : Nat, q < H.size → ¬ va_A wc H.size q → H1[q]? = H[q]?) → va_P G.1 vwCl (w1 u) H1 → va_P G.1 vwCl (w2 u) H1) (hadr : ∀ u, (w2 u).map Prod.fst = ws.map Prod.fst)
    (kk : ∀ (r : Int64) (u : S) (H1 : Heap) (locs1 : List Loc), post r u → WX G A s H1 locs1 (w2 u) → W p l e R s m args below meth c H1 locs1 cells slots Q (F0 m (pc + 3) ls (.long r :: rest))) : W p l e R s m args below meth c H locs cells slots Q (F0 m pc ls st0) := by
  refine va_calll hr h.2.2 (fun q _ z => h.fr hA isC hC q z) (h.fr hA isC hC) (fun r u t H1 locs1 ht hvm hp hB hz hk hS => ?_)
  · exact kk r u H1 locs1 hp (h.adr (hadr u) (jn u H1 hk (by rw [← ht]; exact hB)) hS)
theorem kc_v0 {post : S → Prop} (hA : ∀ q, s.heap.size ≤ q → A q) (h : WX G A s H locs ws) (hr : va_Run p l e R s m args below meth c H locs cells slots 0 0 (F0 m pc ls st0) rest (va_Qv post (fun u t => va_P G.1 vwCl (w1 u) t.heap) (va_A ws H.size) a) (va_A ws H.size)) (hadr : ∀ u, (w1 u).map Prod.fst = ws.map Prod.fst)
    (kk : ∀ (u : S) (H1 : Heap) (locs1 : List Loc), post u → WX G A s H1 locs1 (w1 u) → W p l e R s m args below meth c H1 locs1 cells slots Q (F0 m (pc + 3) ls rest)) : W p l e R s m args below meth c H locs cells slots Q (F0 m pc ls st0) := by
  refine va_callv hr h.2.2 (fun q _ z => h.fr0 hA q z) (h.fr0 hA) (fun u t H1 locs1 ht hvm hp hB hz hk hS => ?_)
  · exact kk u H1 locs1 hp (h.adr (hadr u) (by rw [← ht]; exact hB) hS)
theorem kc_vE {post : S → Prop} (hA : ∀ q, s.heap.size ≤ q → A q) (h : WX G A s H locs ws) (hr : va_Run p l e R s m args below meth c H locs cells slots 0 0 (F0 m pc ls st0) rest (va_Qv post (fun u t => va_P G.1 vwCl (w1 u) t.heap) (va_A [] H.size) a) (va_A [] H.size))
    (kk : ∀ (u : S) (H1 : Heap) (locs1 : List Loc), post u → WX G A s H1 locs1 ws → W p l e R s m args below meth c H1 locs1 cells slots Q (F0 m (pc + 3) ls rest)) : W p l e R s m args below meth c H locs cells slots Q (F0 m pc ls st0) := by
  refine va_callv hr h.2.2 (fun q _ z => h.frE hA q z) (h.frE hA) (fun u t H1 locs1 ht hvm hp hB hz hk hS => ?_)
  · refine kk u H1 locs1 hp ⟨h.1.kept (fun k q hq => hk q.1 (h.1 k q hq).lt (fun z => ?_)), h.2.1, hS⟩
    rcases z with ⟨j, x, hj⟩ | z
    · simp at hj
    · exact absurd (h.1 k q hq).lt (Nat.not_lt.mpr z)
theorem kc_vC {post : S → Prop} (hA : ∀ q, s.heap.size ≤ q → A q) (h : WX G A s H locs ws) (isC : List Nat) (hC : isC.map (fun i => ws[i]?) = wc.map some) (hr : va_Run p l e R s m args below meth c H locs cells slots 0 0 (F0 m pc ls st0) rest (va_Qv post (fun u t => va_P G.1 vwCl (w1 u) t.heap) (va_A wc H.size) a) (va_A wc H.size))
    (jn : ∀ (u : S) (H1 : Heap), (∀ q : Nat, q < H.size → ¬ va_A wc H.size q → H1[q]? = H[q]?) → va_P G.1 vwCl (w1 u) H1 → va_P G.1 vwCl (w2 u) H1) (hadr : ∀ u, (w2 u).map Prod.fst = ws.map Prod.fst)
    (kk : ∀ (u : S) (H1 : Heap) (locs1 : List Loc), post u → WX G A s H1 locs1 (w2 u) → W p l e R s m args below meth c H1 locs1 cells slots Q (F0 m (pc + 3) ls rest)) : W p l e R s m args below meth c H locs cells slots Q (F0 m pc ls st0) := by
  refine va_callv hr h.2.2 (fun q _ z => h.fr hA isC hC q z) (h.fr hA isC hC) (fun u t H1 locs1 ht hvm hp hB hz hk hS => ?_)
  · exact kk u H1 locs1 hp (h.adr (hadr u) (jn u H1 hk (by rw [← ht]; exact hB)) hS)
theorem kc_r0 {post : S → Prop} {rad : S → Nat} (hA : ∀ q, s.heap.size ≤ q → A q) (h : WX G A s H locs ws) (hr : va_Run p l e R s m args below meth c H locs cells slots 0 0 (F0 m pc ls st0) rest (va_Qr post (fun u a t => a = rad u ∧ va_P G.1 vwCl (w1 u) t.heap) (va_A ws H.size) a) (va_A ws H.size)) (hadr : ∀ u, (w1 u).map Prod.fst = ws.map Prod.fst)
    (kk : ∀ (u : S) (H1 : Heap) (locs1 : List Loc), post u → WX G A s H1 locs1 (w1 u) → W p l e R s m args below meth c H1 locs1 cells slots Q (F0 m (pc + 3) ls (.ref (rad u) :: rest))) : W p l e R s m args below meth c H locs cells slots Q (F0 m pc ls st0) := by
  refine va_callr hr h.2.2 (fun q _ z => h.fr0 hA q z) (h.fr0 hA) (fun u ra t H1 locs1 ht hvm hp hB hz hk hS => ?_)
  · obtain ⟨rfl, hB2⟩ := hB
    exact kk u H1 locs1 hp (h.adr (hadr u) (by rw [← ht]; exact hB2) hS)
theorem kc_rE {post : S → Prop} {rad : S → Nat} (hA : ∀ q, s.heap.size ≤ q → A q) (h : WX G A s H locs ws) (hr : va_Run p l e R s m args below meth c H locs cells slots 0 0 (F0 m pc ls st0) rest (va_Qr post (fun u a t => a = rad u ∧ va_P G.1 vwCl (w1 u) t.heap) (va_A [] H.size) a) (va_A [] H.size))
    (kk : ∀ (u : S) (H1 : Heap) (locs1 : List Loc), post u → WX G A s H1 locs1 ws → W p l e R s m args below meth c H1 locs1 cells slots Q (F0 m (pc + 3) ls (.ref (rad u) :: rest))) : W p l e R s m args below meth c H locs cells slots Q (F0 m pc ls st0) := by
  refine va_callr hr h.2.2 (fun q _ z => h.frE hA q z) (h.frE hA) (fun u ra t H1 locs1 ht hvm hp hB hz hk hS => ?_)
  · obtain ⟨rfl, hB2⟩ := hB
    refine kk u H1 locs1 hp ⟨h.1.kept (fun k q hq => hk q.1 (h.1 k q hq).lt (fun z => ?_)), h.2.1, hS⟩
    rcases z with ⟨j, x, hj⟩ | z
    · simp at hj
    · exact absurd (h.1 k q hq).lt (Nat.not_lt.mpr z)
theorem kc_rC {post : S → Prop} {rad : S → Nat} (hA : ∀ q, s.heap.size ≤ q → A q) (h : WX G A s H locs ws) (isC : List Nat) (hC : isC.map (fun i => ws[i]?) = wc.map some) (hr : va_Run p l e R s m args below meth c H locs cells slots 0 0 (F0 m pc ls st0) rest (va_Qr post (fun u a t => a = rad u ∧ va_P G.1 vwCl (w1 u) t.heap) (va_A wc H.size) a) (va_A wc H.size))
    (jn : ∀ (u : S) (H1 : Heap), (∀ q : Nat, q < H.size → ¬ va_A wc H.size q → H1[q]? = H[q]?) → va_P G.1 vwCl (w1 u) H1 → va_P G.1 vwCl (w2 u) H1) (hadr : ∀ u, (w2 u).map Prod.fst = ws.map Prod.fst)
    (kk : ∀ (u : S) (H1 : Heap) (locs1 : List Loc), post u → WX G A s H1 locs1 (w2 u) → W p l e R s m args below meth c H1 locs1 cells slots Q (F0 m (pc + 3) ls (.ref (rad u) :: rest))) : W p l e R s m args below meth c H locs cells slots Q (F0 m pc ls st0) := by
  refine va_callr hr h.2.2 (fun q _ z => h.fr hA isC hC q z) (h.fr hA isC hC) (fun u ra t H1 locs1 ht hvm hp hB hz hk hS => ?_)
  · obtain ⟨rfl, hB2⟩ := hB
    exact kk u H1 locs1 hp (h.adr (hadr u) (jn u H1 hk (by rw [← ht]; exact hB2)) hS)
end CALLS
/-- cells of a part came back, the others are as they were -/
theorem WX.back {G : GT} {A : Nat → Prop} {s : State} {H H1 : Heap} {locs : List Loc} {ws wc w1 w2 : va_W} (h : WX G A s H locs ws) (isC : List Nat) (hC : isC.map (fun i => ws[i]?) = wc.map some) (hk : ∀ q : Nat, q < H.size → ¬ va_A wc H.size q → H1[q]? = H[q]?) (hP1 : va_P G.1 vwCl w1 H1)
    (fit : ∀ (k : Nat) (q : Nat × va_E), w2[k]? = some q → (∃ j : Nat, w1[j]? = some q) ∨ (k ∉ isC ∧ ws[k]? = some q)) : va_P G.1 vwCl w2 H1 := by
  intro k q hq
  rcases fit k q hq with ⟨j, hj⟩ | ⟨hn, hw⟩
  · exact hP1 j q hj
  · refine (h.1 k q hw).kept (hk q.1 (h.1 k q hw).lt (fun z => ?_))
    rcases z with ⟨j, x, hj⟩ | z
    · have h1 : (isC.map (fun i => ws[i]?))[j]? = some (some (q.1, x)) := by rw [hC, List.getElem?_map, hj]; rfl
      rw [List.getElem?_map] at h1
      cases hi : isC[j]? with
      | none => rw [hi] at h1; cases h1
      | some i =>
        rw [hi] at h1
        have h2 : ws[i]? = some (q.1, x) := Option.some.inj h1
        have e := h.2.1.1 k i q (q.1, x) hw h2 rfl
        subst e
        exact hn (List.mem_of_getElem? hi)
    · exact absurd (h.1 k q hw).lt (Nat.not_lt.mpr z)
theorem arrV_ext {cI : ClassId} {N : Nat} {f g : Nat → Value} (h : ∀ j, j < N → f j = g j) : arrV cI N f = arrV cI N g := by
  have e : (fun j : Fin N => f j.val) = (fun j : Fin N => g j.val) := funext fun j => h j.val j.isLt
  unfold arrV
  rw [e]
/-- numbers of an array that lie below its length decide it -/
theorem va_at_i {D : va_G} {cl : List vw_C} {a : Nat} {cA : ClassId} {N : Nat} {f g : Nat → Int32} {H : Heap} (h : va_at D cl (a, .inl (cA, N, .inl f)) H) (e : ∀ j, j < N → f j = g j) : va_at D cl (a, .inl (cA, N, .inl g)) H := by
  have h1 : H[a]? = some (arrV cA N (fun j => .int (f j))) := h
  have h2 : arrV cA N (fun j => Value.int (f j)) = arrV cA N (fun j => Value.int (g j)) := arrV_ext (fun j hj => by rw [e j hj])
  rw [h2] at h1
  exact h1
theorem va_at_l {D : va_G} {cl : List vw_C} {a : Nat} {cA : ClassId} {N : Nat} {f g : Nat → Int64} {H : Heap} (h : va_at D cl (a, .inl (cA, N, .inr (.inl f))) H) (e : ∀ j, j < N → f j = g j) : va_at D cl (a, .inl (cA, N, .inr (.inl g))) H := by
  have h1 : H[a]? = some (arrV cA N (fun j => .long (f j))) := h
  have h2 : arrV cA N (fun j => Value.long (f j)) = arrV cA N (fun j => Value.long (g j)) := arrV_ext (fun j hj => by rw [e j hj])
  rw [h2] at h1
  exact h1
/-- worlds that agree, cell by cell, but for what lies behind an array's end -/
theorem va_P_ext {D : va_G} {cl : List vw_C} {ws ws' : va_W} {H : Heap} (h : va_P D cl ws H) (e : ∀ (k : Nat) (q : Nat × va_E), ws'[k]? = some q → ws[k]? = some q ∨ (∃ (cA : ClassId) (N : Nat) (f g : Nat → Int32), q = (q.1, .inl (cA, N, .inl g)) ∧ ws[k]? = some (q.1, .inl (cA, N, .inl f)) ∧ ∀ j, j < N → f j = g j) ∨ (∃ (cA : ClassId) (N : Nat) (f g : Nat → Int64), q = (q.1, .inl (cA, N, .inr (.inl g))) ∧ ws[k]? = some (q.1, .inl (cA, N, .inr (.inl f))) ∧ ∀ j, j < N → f j = g j)) : va_P D cl ws' H := by
  intro k q hq
  rcases e k q hq with h1 | ⟨cA, N, f, g, h1, h2, h3⟩ | ⟨cA, N, f, g, h1, h2, h3⟩
  · exact h k q h1
  · rw [h1]; exact va_at_i (h k _ h2) h3
  · rw [h1]; exact va_at_l (h k _ h2) h3
end
section
/-! contracts from walks, and calls by contract -/
abbrev RM (d L : Nat) : Room := { frames := d, cells := 0, slots := 0, locals := L }
/-- what a walk has all along -/
abbrev CF (p : Program) (m : MethodId) (c : Code) (cc : ByteArray) (nL : Nat) (s : State) (args : Array Value) (own : String) : Prop := CallFix p m c cc nL s args wsL_law own
theorem Ki.of {G : GT} {l : Launch} {y : MethodName} {cc : ByteArray} {n : Nat} {rm : Room} {av : List Value} {wc : va_W} {S : Type} {w1 : S → va_W} {post : Int32 → S → Prop} (hy : plainName y.cls = true) (hnL : (lg_sl av).length ≤ n)
    (body : ∀ (p : Program) (e : Env) (s : State) (m : MethodId) (args : Array Value) (below : List Frame) (meth : Method) (c : Code) (A : Nat → Prop) (Q : State → Prop) (ls : Array Slot), p.tables.exec = Jvm.exec → c.code = cc → CF p m c cc n s args y.cls → GX G A s → (∀ q : Nat, s.heap.size ≤ q → A q) → WX G A s s.heap [] wc →
      (∀ (r : Int32) (u : S) (H : Heap) (locs : List Loc) (pc : Nat) (ls : Array Slot), post r u → WX G A s H locs (w1 u) → decode cc pc = .ok (.ireturn, 1) → W p l e rm s m args below meth c H locs 0 0 Q (F0 m pc ls [.int r])) → lv_has ls n (lv_args 0 av) → W p l e rm s m args below meth c s.heap [] 0 0 Q (F0 m 0 ls [])) : Ki G l y cc n (some .int) rm av wc w1 post := by
  intro sz
  refine Met.ofW (cc := cc) (maxL := n) (ret := (some .int)) hy rfl ?_
  intro p e s m args below meth c s₁ B hml hv
  obtain ⟨rfl, hsz, hG, hP, hD0⟩ := hv
  have hx := B.exec
  have hb := B.bytes
  have hr := B.returns
  have hts := atoms_spec (ws := WS y cc n (some .int)) B.pre
  have hown : s.vm.findClass y.cls = some m.cls := findClass_of_methodNamed B.named
  have hlocks := B.notSynchronized
  have hin : meth.name = y.name := (name_of_methodNamed B.named B.method).1
  subst hsz
  have hD := hD0.self (sz := s.heap.size)
  have hl := lv_entry av (n := n) hnL
  rw [lg_entry_eq]
  generalize (lg_sl av ++ List.replicate (n - (lg_sl av).length) Slot.unset).toArray = ls at hl ⊢
  have hA : ∀ q : Nat, s.heap.size ≤ q → va_A wc s.heap.size q := fun q h => Or.inr h
  have hS : va_S (va_A wc s.heap.size) s.heap s.heap [] := va_S.rf
  refine body p e s m av.toArray below meth c _ _ ls hx hb ⟨hx, hb, hml, hown, fun w h => hts w (List.mem_cons_of_mem _ h)⟩ hG hA ⟨hP, hD, hS⟩ ?_ hl
  intro r u H locs pc ls hq h hd
  exact W.iret hx hb hr (fun t ht hW => ⟨⟨r, u, rfl, hq, by show va_P G.1 vwCl (w1 u) t.heap; rw [ht]; exact h.1⟩, h.2.2.F ht⟩) h.2.2.2.2 hd
theorem nz_bool {r : Int32} (h : r = 0 ∨ r = 1) : narrow .boolean (.int r) = .int r := by
  rcases h with rfl | rfl <;> decide
theorem Ki.ofz {G : GT} {l : Launch} {y : MethodName} {cc : ByteArray} {n : Nat} {rm : Room} {av : List Value} {wc : va_W} {S : Type} {w1 : S → va_W} {post : Int32 → S → Prop} (hy : plainName y.cls = true) (hnL : (lg_sl av).length ≤ n)
    (body : ∀ (p : Program) (e : Env) (s : State) (m : MethodId) (args : Array Value) (below : List Frame) (meth : Method) (c : Code) (A : Nat → Prop) (Q : State → Prop) (ls : Array Slot), p.tables.exec = Jvm.exec → c.code = cc → CF p m c cc n s args y.cls → GX G A s → (∀ q : Nat, s.heap.size ≤ q → A q) → WX G A s s.heap [] wc →
      (∀ (r : Int32) (u : S) (H : Heap) (locs : List Loc) (pc : Nat) (ls : Array Slot), r = 0 ∨ r = 1 → post r u → WX G A s H locs (w1 u) → decode cc pc = .ok (.ireturn, 1) → W p l e rm s m args below meth c H locs 0 0 Q (F0 m pc ls [.int r])) → lv_has ls n (lv_args 0 av) → W p l e rm s m args below meth c s.heap [] 0 0 Q (F0 m 0 ls [])) : Ki G l y cc n (some .boolean) rm av wc w1 post := by
  intro sz
  refine Met.ofW (cc := cc) (maxL := n) (ret := (some .boolean)) hy rfl ?_
  intro p e s m args below meth c s₁ B hml hv
  obtain ⟨rfl, hsz, hG, hP, hD0⟩ := hv
  have hx := B.exec
  have hb := B.bytes
  have hr := B.returns
  have hts := atoms_spec (ws := WS y cc n (some .boolean)) B.pre
  have hown : s.vm.findClass y.cls = some m.cls := findClass_of_methodNamed B.named
  have hlocks := B.notSynchronized
  have hin : meth.name = y.name := (name_of_methodNamed B.named B.method).1
  subst hsz
  have hD := hD0.self (sz := s.heap.size)
  have hl := lv_entry av (n := n) hnL
  rw [lg_entry_eq]
  generalize (lg_sl av ++ List.replicate (n - (lg_sl av).length) Slot.unset).toArray = ls at hl ⊢
  have hA : ∀ q : Nat, s.heap.size ≤ q → va_A wc s.heap.size q := fun q h => Or.inr h
  have hS : va_S (va_A wc s.heap.size) s.heap s.heap [] := va_S.rf
  refine body p e s m av.toArray below meth c _ _ ls hx hb ⟨hx, hb, hml, hown, fun w h => hts w (List.mem_cons_of_mem _ h)⟩ hG hA ⟨hP, hD, hS⟩ ?_ hl
  intro r u H locs pc ls h01 hq h hd
  exact W.zret hx hb hr (nz_bool h01) (fun t ht hW => ⟨⟨r, u, rfl, hq, by show va_P G.1 vwCl (w1 u) t.heap; rw [ht]; exact h.1⟩, h.2.2.F ht⟩) h.2.2.2.2 hd
theorem Kl.of {G : GT} {l : Launch} {y : MethodName} {cc : ByteArray} {n : Nat} {rm : Room} {av : List Value} {wc : va_W} {S : Type} {w1 : S → va_W} {post : Int64 → S → Prop} (hy : plainName y.cls = true) (hnL : (lg_sl av).length ≤ n)
    (body : ∀ (p : Program) (e : Env) (s : State) (m : MethodId) (args : Array Value) (below : List Frame) (meth : Method) (c : Code) (A : Nat → Prop) (Q : State → Prop) (ls : Array Slot), p.tables.exec = Jvm.exec → c.code = cc → CF p m c cc n s args y.cls → GX G A s → (∀ q : Nat, s.heap.size ≤ q → A q) → WX G A s s.heap [] wc →
      (∀ (r : Int64) (u : S) (H : Heap) (locs : List Loc) (pc : Nat) (ls : Array Slot), post r u → WX G A s H locs (w1 u) → decode cc pc = .ok (.lreturn, 1) → W p l e rm s m args below meth c H locs 0 0 Q (F0 m pc ls [.long r])) → lv_has ls n (lv_args 0 av) → W p l e rm s m args below meth c s.heap [] 0 0 Q (F0 m 0 ls [])) : Kl G l y cc n (some .long) rm av wc w1 post := by
  intro sz
  refine Met.ofW (cc := cc) (maxL := n) (ret := (some .long)) hy rfl ?_
  intro p e s m args below meth c s₁ B hml hv
  obtain ⟨rfl, hsz, hG, hP, hD0⟩ := hv
  have hx := B.exec
  have hb := B.bytes
  have hr := B.returns
  have hts := atoms_spec (ws := WS y cc n (some .long)) B.pre
  have hown : s.vm.findClass y.cls = some m.cls := findClass_of_methodNamed B.named
  have hlocks := B.notSynchronized
  have hin : meth.name = y.name := (name_of_methodNamed B.named B.method).1
  subst hsz
  have hD := hD0.self (sz := s.heap.size)
  have hl := lv_entry av (n := n) hnL
  rw [lg_entry_eq]
  generalize (lg_sl av ++ List.replicate (n - (lg_sl av).length) Slot.unset).toArray = ls at hl ⊢
  have hA : ∀ q : Nat, s.heap.size ≤ q → va_A wc s.heap.size q := fun q h => Or.inr h
  have hS : va_S (va_A wc s.heap.size) s.heap s.heap [] := va_S.rf
  refine body p e s m av.toArray below meth c _ _ ls hx hb ⟨hx, hb, hml, hown, fun w h => hts w (List.mem_cons_of_mem _ h)⟩ hG hA ⟨hP, hD, hS⟩ ?_ hl
  intro r u H locs pc ls hq h hd
  exact W.lret hx hb hr (fun t ht hW => ⟨⟨r, u, rfl, hq, by show va_P G.1 vwCl (w1 u) t.heap; rw [ht]; exact h.1⟩, h.2.2.F ht⟩) h.2.2.2.2 hd
theorem Kv.of {G : GT} {l : Launch} {y : MethodName} {cc : ByteArray} {n : Nat} {rm : Room} {av : List Value} {wc : va_W} {S : Type} {w1 : S → va_W} {post : S → Prop} (hy : plainName y.cls = true) (hnL : (lg_sl av).length ≤ n)
    (body : ∀ (p : Program) (e : Env) (s : State) (m : MethodId) (args : Array Value) (below : List Frame) (meth : Method) (c : Code) (A : Nat → Prop) (Q : State → Prop) (ls : Array Slot), p.tables.exec = Jvm.exec → c.code = cc → CF p m c cc n s args y.cls → GX G A s → (∀ q : Nat, s.heap.size ≤ q → A q) → WX G A s s.heap [] wc →
      (∀ (u : S) (H : Heap) (locs : List Loc) (pc : Nat) (ls : Array Slot), post u → WX G A s H locs (w1 u) → decode cc pc = .ok (.return_, 1) → W p l e rm s m args below meth c H locs 0 0 Q (F0 m pc ls [])) → lv_has ls n (lv_args 0 av) → W p l e rm s m args below meth c s.heap [] 0 0 Q (F0 m 0 ls [])) : Kv G l y cc n none rm av wc w1 post := by
  intro sz
  refine Met.ofW (cc := cc) (maxL := n) (ret := none) hy rfl ?_
  intro p e s m args below meth c s₁ B hml hv
  obtain ⟨rfl, hsz, hG, hP, hD0⟩ := hv
  have hx := B.exec
  have hb := B.bytes
  have hr := B.returns
  have hts := atoms_spec (ws := WS y cc n none) B.pre
  have hown : s.vm.findClass y.cls = some m.cls := findClass_of_methodNamed B.named
  have hlocks := B.notSynchronized
  have hin : meth.name = y.name := (name_of_methodNamed B.named B.method).1
  subst hsz
  have hD := hD0.self (sz := s.heap.size)
  have hl := lv_entry av (n := n) hnL
  rw [lg_entry_eq]
  generalize (lg_sl av ++ List.replicate (n - (lg_sl av).length) Slot.unset).toArray = ls at hl ⊢
  have hA : ∀ q : Nat, s.heap.size ≤ q → va_A wc s.heap.size q := fun q h => Or.inr h
  have hS : va_S (va_A wc s.heap.size) s.heap s.heap [] := va_S.rf
  refine body p e s m av.toArray below meth c _ _ ls hx hb ⟨hx, hb, hml, hown, fun w h => hts w (List.mem_cons_of_mem _ h)⟩ hG hA ⟨hP, hD, hS⟩ ?_ hl
  intro u H locs pc ls hq h hd
  exact W.vret hx hb hr (fun t ht hW => ⟨⟨u, rfl, hq, by show va_P G.1 vwCl (w1 u) t.heap; rw [ht]; exact h.1⟩, h.2.2.F ht⟩) h.2.2.2.2 hd
theorem Kr.of {G : GT} {l : Launch} {y : MethodName} {cc : ByteArray} {n : Nat} {rt : String} {rm : Room} {av : List Value} {wc : va_W} {S : Type} {w1 : S → va_W} {ra : S → Nat} {post : S → Prop} (hy : plainName y.cls = true) (hnL : (lg_sl av).length ≤ n)
    (body : ∀ (p : Program) (e : Env) (s : State) (m : MethodId) (args : Array Value) (below : List Frame) (meth : Method) (c : Code) (A : Nat → Prop) (Q : State → Prop) (ls : Array Slot), p.tables.exec = Jvm.exec → c.code = cc → CF p m c cc n s args y.cls → GX G A s → (∀ q : Nat, s.heap.size ≤ q → A q) → WX G A s s.heap [] wc →
      (∀ (u : S) (H : Heap) (locs : List Loc) (pc : Nat) (ls : Array Slot), post u → WX G A s H locs (w1 u) → decode cc pc = .ok (.areturn, 1) → W p l e rm s m args below meth c H locs 0 0 Q (F0 m pc ls [.ref (ra u)])) → lv_has ls n (lv_args 0 av) → W p l e rm s m args below meth c s.heap [] 0 0 Q (F0 m 0 ls [])) : Kr G l y cc n (some (.object rt)) rm av wc w1 ra post := by
  intro sz
  refine Met.ofW (cc := cc) (maxL := n) (ret := (some (.object rt))) hy rfl ?_
  intro p e s m args below meth c s₁ B hml hv
  obtain ⟨rfl, hsz, hG, hP, hD0⟩ := hv
  have hx := B.exec
  have hb := B.bytes
  have hr := B.returns
  have hts := atoms_spec (ws := WS y cc n (some (.object rt))) B.pre
  have hown : s.vm.findClass y.cls = some m.cls := findClass_of_methodNamed B.named
  have hlocks := B.notSynchronized
  have hin : meth.name = y.name := (name_of_methodNamed B.named B.method).1
  subst hsz
  have hD := hD0.self (sz := s.heap.size)
  have hl := lv_entry av (n := n) hnL
  rw [lg_entry_eq]
  generalize (lg_sl av ++ List.replicate (n - (lg_sl av).length) Slot.unset).toArray = ls at hl ⊢
  have hA : ∀ q : Nat, s.heap.size ≤ q → va_A wc s.heap.size q := fun q h => Or.inr h
  have hS : va_S (va_A wc s.heap.size) s.heap s.heap [] := va_S.rf
  refine body p e s m av.toArray below meth c _ _ ls hx hb ⟨hx, hb, hml, hown, fun w h => hts w (List.mem_cons_of_mem _ h)⟩ hG hA ⟨hP, hD, hS⟩ ?_ hl
  intro u H locs pc ls hq h hd
  exact W.aret hx hb hr (Or.inl ⟨_, rfl⟩) (Or.inr ⟨_, rfl⟩) (fun t ht hW => ⟨⟨u, _, rfl, hq, rfl, by show va_P G.1 vwCl (w1 u) t.heap; rw [ht]; exact h.1⟩, h.2.2.F ht⟩) h.2.2.2.2 hd
section CALL2
variable {p : Program} {l : Launch} {e : Env} {R : Room} {s : State} {m : MethodId} {args : Array Value} {below : List Frame} {meth : Method} {c : Code} {H : Heap} {locs : List Loc} {cells slots : Nat} {Q : State → Prop}
variable {pc : Nat} {ls : Array Slot} {rest st0 : List Value} {A : Nat → Prop} {G : GT} {ws wc : va_W} {S : Type} {w1 w2 : S → va_W}
variable {cc ccY : ByteArray} {nL nY idx n : Nat} {own C host owner : String} {x y : MethodName} {ret : Option FieldType} {rmY : Room} {As : List Value} {b : Nat} {T : u_T} {N : Nat} {fs : List Value}
/-- the callee's room -/
abbrev RmOk (rmY R : Room) (nY : Nat) (cells slots : Nat) : Prop := rmY.cells = 0 ∧ rmY.slots = 0 ∧ rmY.frames + 1 ≤ R.frames ∧ 8 + (nY + 11) + rmY.locals ≤ R.locals ∧ cells ≤ R.cells ∧ slots ≤ R.slots
theorem cV_i0 {post : Int32 → S → Prop} (S0 : CF p m c cc nL s args own) (hG : GX G A s) (hA : ∀ q, s.heap.size ≤ q → A q) (h : WX G A s H locs ws) (hl : ls.size = nL) (gw : GoodIn wsL_law (wsV own idx C y (WS y ccY nY ret))) (hd : y.cls = C ∧ y.cls ≠ "java/lang/invoke/MethodHandle" ∧ y.cls ≠ "java/lang/invoke/VarHandle" ∧ (parseMethodDescriptor y.desc).map (fun d => d.parameters.length) = some n) (hK : Ki G l y ccY nY ret rmY (.ref b :: As) ws w1 post) (hR : RmOk rmY R nY cells slots) (hn : As.length = n) (ci q0 : Nat) (hc : vwCl[ci]? = some (C, T, N)) (he : ws[q0]? = some (b, .inr (ci, fs))) (hst : st0 = As.reverse ++ .ref b :: rest) (hw : (rest.map fun v => v.category).sum ≤ 8) (hdg : decode cc pc = .ok (.invokevirtual idx, 3)) (hadr : ∀ u, (w1 u).map Prod.fst = ws.map Prod.fst)
    (kk : ∀ (r : Int32) (u : S) (H1 : Heap) (locs1 : List Loc), post r u → WX G A s H1 locs1 (w1 u) → W p l e R s m args below meth c H1 locs1 cells slots Q (F0 m (pc + 3) ls (.int r :: rest))) : W p l e R s m args below meth c H locs cells slots Q (F0 m pc ls st0) := by
  subst hst
  exact kc_i0 hA h (va_runV S0 (hK H.size) (cwV n S0.2.2.2.2 gw rfl hR.1 hR.2.1 hd ⟨hR.2.2.1, hR.2.2.2.1⟩) (preV hG h (pre0 hG hA h) ci q0 hc he) rfl hn hl rfl (lv_room hw) hdg ⟨hR.2.2.2.2.1, hR.2.2.2.2.2⟩) hadr kk
theorem cN_i0 {post : Int32 → S → Prop} (S0 : CF p m c cc nL s args own) (hG : GX G A s) (hA : ∀ q, s.heap.size ≤ q → A q) (h : WX G A s H locs ws) (hl : ls.size = nL) (gw : GoodIn wsL_law (WS y ccY nY ret)) (gi : Cond.initialized y.cls ∈ wsL_law) (gm : Cond.instanceMethod y ∈ wsL_law) (gs : Cond.selects C y y ∈ wsL_law) (gn : Cond.methodLinkNest own idx y host ∈ NW) (hd : y.cls ≠ "java/lang/invoke/MethodHandle" ∧ y.cls ≠ "java/lang/invoke/VarHandle" ∧ (parseMethodDescriptor y.desc).map (fun d => d.parameters.length) = some n) (hK : Ki G l y ccY nY ret rmY (.ref b :: As) ws w1 post) (hR : RmOk rmY R nY cells slots) (hn : As.length = n) (ci q0 : Nat) (hc : vwCl[ci]? = some (C, T, N)) (he : ws[q0]? = some (b, .inr (ci, fs))) (hst : st0 = As.reverse ++ .ref b :: rest) (hw : (rest.map fun v => v.category).sum ≤ 8) (hdg : decode cc pc = .ok (.invokevirtual idx, 3)) (hadr : ∀ u, (w1 u).map Prod.fst = ws.map Prod.fst)
    (kk : ∀ (r : Int32) (u : S) (H1 : Heap) (locs1 : List Loc), post r u → WX G A s H1 locs1 (w1 u) → W p l e R s m args below meth c H1 locs1 cells slots Q (F0 m (pc + 3) ls (.int r :: rest))) : W p l e R s m args below meth c H locs cells slots Q (F0 m pc ls st0) := by
  subst hst
  exact kc_i0 hA h (va_runVN S0 (hK H.size) ⟨va_cnB n S0.2.2.2.2 gw rfl hR.1 hR.2.1 (hG.1 _ gn) (S0.2.2.2.2 _ gi) hd ⟨hR.2.2.1, hR.2.2.2.1⟩, S0.2.2.2.2 _ gm, S0.2.2.2.2 _ gs⟩ (preV hG h (pre0 hG hA h) ci q0 hc he) rfl hn hl rfl (lv_room hw) hdg ⟨hR.2.2.2.2.1, hR.2.2.2.2.2⟩) hadr kk
theorem cS_i0 {post : Int32 → S → Prop} (S0 : CF p m c cc nL s args own) (hG : GX G A s) (hA : ∀ q, s.heap.size ≤ q → A q) (h : WX G A s H locs ws) (hl : ls.size = nL) (gw : GoodIn wsL_law (va_wsS own idx y (WS y ccY nY ret))) (hd : y.cls ≠ "java/lang/invoke/MethodHandle" ∧ y.cls ≠ "java/lang/invoke/VarHandle" ∧ (parseMethodDescriptor y.desc).map (fun d => d.parameters.length) = some n) (hK : Ki G l y ccY nY ret rmY As ws w1 post) (hR : RmOk rmY R nY cells slots) (hn : As.length = n) (hst : st0 = As.reverse ++ rest) (hw : (rest.map fun v => v.category).sum ≤ 8) (hdg : decode cc pc = .ok (.invokestatic idx, 3)) (hadr : ∀ u, (w1 u).map Prod.fst = ws.map Prod.fst)
    (kk : ∀ (r : Int32) (u : S) (H1 : Heap) (locs1 : List Loc), post r u → WX G A s H1 locs1 (w1 u) → W p l e R s m args below meth c H1 locs1 cells slots Q (F0 m (pc + 3) ls (.int r :: rest))) : W p l e R s m args below meth c H locs cells slots Q (F0 m pc ls st0) := by
  subst hst
  exact kc_i0 hA h (va_runS S0 (hK H.size) (va_cwS n S0.2.2.2.2 gw rfl hR.1 hR.2.1 hd ⟨hR.2.2.1, hR.2.2.2.1⟩) (pre0 hG hA h) rfl hn hl rfl (lv_room hw) hdg ⟨hR.2.2.2.2.1, hR.2.2.2.2.2⟩) hadr kk
theorem cSN_i0 {post : Int32 → S → Prop} (S0 : CF p m c cc nL s args own) (hG : GX G A s) (hA : ∀ q, s.heap.size ≤ q → A q) (h : WX G A s H locs ws) (hl : ls.size = nL) (gw : GoodIn wsL_law (WS y ccY nY ret)) (gi : Cond.initialized y.cls ∈ wsL_law) (gm : Cond.static y ∈ wsL_law) (gn : Cond.methodLinkNest own idx y host ∈ NW) (hd : y.cls ≠ "java/lang/invoke/MethodHandle" ∧ y.cls ≠ "java/lang/invoke/VarHandle" ∧ (parseMethodDescriptor y.desc).map (fun d => d.parameters.length) = some n) (hK : Ki G l y ccY nY ret rmY As ws w1 post) (hR : RmOk rmY R nY cells slots) (hn : As.length = n) (hst : st0 = As.reverse ++ rest) (hw : (rest.map fun v => v.category).sum ≤ 8) (hdg : decode cc pc = .ok (.invokestatic idx, 3)) (hadr : ∀ u, (w1 u).map Prod.fst = ws.map Prod.fst)
    (kk : ∀ (r : Int32) (u : S) (H1 : Heap) (locs1 : List Loc), post r u → WX G A s H1 locs1 (w1 u) → W p l e R s m args below meth c H1 locs1 cells slots Q (F0 m (pc + 3) ls (.int r :: rest))) : W p l e R s m args below meth c H locs cells slots Q (F0 m pc ls st0) := by
  subst hst
  exact kc_i0 hA h (va_runSN S0 (hK H.size) ⟨va_cnB n S0.2.2.2.2 gw rfl hR.1 hR.2.1 (hG.1 _ gn) (S0.2.2.2.2 _ gi) hd ⟨hR.2.2.1, hR.2.2.2.1⟩, S0.2.2.2.2 _ gm, trivial⟩ (pre0 hG hA h) rfl hn hl rfl (lv_room hw) hdg ⟨hR.2.2.2.2.1, hR.2.2.2.2.2⟩) hadr kk
theorem cSU_i0 {post : Int32 → S → Prop} (S0 : CF p m c cc nL s args own) (hG : GX G A s) (hA : ∀ q, s.heap.size ≤ q → A q) (h : WX G A s H locs ws) (hl : ls.size = nL) (gw : GoodIn wsL_law (va_wsSU own idx y (WS y ccY nY ret))) (hd : y.name ≠ "<init>" ∧ (parseMethodDescriptor y.desc).map (fun d => d.parameters.length) = some n) (hK : Ki G l y ccY nY ret rmY (.ref b :: As) ws w1 post) (hR : RmOk rmY R nY cells slots) (hn : As.length = n) (ci q0 : Nat) (hc : vwCl[ci]? = some (C, T, N)) (he : ws[q0]? = some (b, .inr (ci, fs))) (hst : st0 = As.reverse ++ .ref b :: rest) (hw : (rest.map fun v => v.category).sum ≤ 8) (hdg : decode cc pc = .ok (.invokespecial idx, 3)) (hadr : ∀ u, (w1 u).map Prod.fst = ws.map Prod.fst)
    (kk : ∀ (r : Int32) (u : S) (H1 : Heap) (locs1 : List Loc), post r u → WX G A s H1 locs1 (w1 u) → W p l e R s m args below meth c H1 locs1 cells slots Q (F0 m (pc + 3) ls (.int r :: rest))) : W p l e R s m args below meth c H locs cells slots Q (F0 m pc ls st0) := by
  subst hst
  exact kc_i0 hA h (va_runSU (hG.2.2.1.1 ci _ hc).2 S0 (hK H.size) (va_cwSU n S0.2.2.2.2 gw rfl hR.1 hR.2.1 hd ⟨hR.2.2.1, hR.2.2.2.1⟩) (preV hG h (pre0 hG hA h) ci q0 hc he) rfl hn hl rfl (lv_room hw) hdg ⟨hR.2.2.2.2.1, hR.2.2.2.2.2⟩) hadr kk
theorem cU_i0 {post : Int32 → S → Prop} (S0 : CF p m c cc nL s args own) (hG : GX G A s) (hA : ∀ q, s.heap.size ≤ q → A q) (h : WX G A s H locs ws) (hl : ls.size = nL) (gw : GoodIn wsL_law (va_wsU own idx C owner x y (WS y ccY nY ret))) (hyx : y = ⟨owner, x.name, x.desc⟩) (hd : owner ≠ "java/lang/invoke/MethodHandle" ∧ owner ≠ "java/lang/invoke/VarHandle" ∧ (parseMethodDescriptor x.desc).map (fun d => d.parameters.length) = some n) (hK : Ki G l y ccY nY ret rmY (.ref b :: As) ws w1 post) (hR : RmOk rmY R nY cells slots) (hn : As.length = n) (ci q0 : Nat) (hc : vwCl[ci]? = some (C, T, N)) (he : ws[q0]? = some (b, .inr (ci, fs))) (hst : st0 = As.reverse ++ .ref b :: rest) (hw : (rest.map fun v => v.category).sum ≤ 8) (hdg : decode cc pc = .ok (.invokevirtual idx, 3)) (hadr : ∀ u, (w1 u).map Prod.fst = ws.map Prod.fst)
    (kk : ∀ (r : Int32) (u : S) (H1 : Heap) (locs1 : List Loc), post r u → WX G A s H1 locs1 (w1 u) → W p l e R s m args below meth c H1 locs1 cells slots Q (F0 m (pc + 3) ls (.int r :: rest))) : W p l e R s m args below meth c H locs cells slots Q (F0 m pc ls st0) := by
  subst hst
  exact kc_i0 hA h (va_runU S0 (hK H.size) (va_cwU n S0.2.2.2.2 gw rfl hR.1 hR.2.1 hyx hd ⟨hR.2.2.1, hR.2.2.2.1⟩) (preV hG h (pre0 hG hA h) ci q0 hc he) rfl hn hl rfl (lv_room hw) hdg ⟨hR.2.2.2.2.1, hR.2.2.2.2.2⟩) hadr kk
theorem cO_i0 {post : Int32 → S → Prop} (S0 : CF p m c cc nL s args own) (hG : GX G A s) (hA : ∀ q, s.heap.size ≤ q → A q) (h : WX G A s H locs ws) (hl : ls.size = nL) (gw : GoodIn wsL_law (va_wsO own idx C owner x y (WS y ccY nY ret))) {b0 : ByteArray} {m0 : Nat} {r0 : Option FieldType} (h0 : Cond.code ⟨owner, x.name, x.desc⟩ b0 m0 r0 ∈ wsL_law) (hd : owner ≠ "java/lang/invoke/MethodHandle" ∧ owner ≠ "java/lang/invoke/VarHandle" ∧ (parseMethodDescriptor x.desc).map (fun d => d.parameters.length) = some n) (hK : Ki G l y ccY nY ret rmY (.ref b :: As) ws w1 post) (hR : RmOk rmY R nY cells slots) (hn : As.length = n) (ci q0 : Nat) (hc : vwCl[ci]? = some (C, T, N)) (he : ws[q0]? = some (b, .inr (ci, fs))) (hst : st0 = As.reverse ++ .ref b :: rest) (hw : (rest.map fun v => v.category).sum ≤ 8) (hdg : decode cc pc = .ok (.invokevirtual idx, 3)) (hadr : ∀ u, (w1 u).map Prod.fst = ws.map Prod.fst)
    (kk : ∀ (r : Int32) (u : S) (H1 : Heap) (locs1 : List Loc), post r u → WX G A s H1 locs1 (w1 u) → W p l e R s m args below meth c H1 locs1 cells slots Q (F0 m (pc + 3) ls (.int r :: rest))) : W p l e R s m args below meth c H locs cells slots Q (F0 m pc ls st0) := by
  subst hst
  exact kc_i0 hA h (va_runU S0 (hK H.size) (va_cwO n S0.2.2.2.2 gw rfl hR.1 hR.2.1 h0 hd ⟨hR.2.2.1, hR.2.2.2.1⟩) (preV hG h (pre0 hG hA h) ci q0 hc he) rfl hn hl rfl (lv_room hw) hdg ⟨hR.2.2.2.2.1, hR.2.2.2.2.2⟩) hadr kk
theorem cV_iE {post : Int32 → S → Prop} (S0 : CF p m c cc nL s args own) (hG : GX G A s) (hA : ∀ q, s.heap.size ≤ q → A q) (h : WX G A s H locs ws) (hl : ls.size = nL) (gw : GoodIn wsL_law (wsV own idx C y (WS y ccY nY ret))) (hd : y.cls = C ∧ y.cls ≠ "java/lang/invoke/MethodHandle" ∧ y.cls ≠ "java/lang/invoke/VarHandle" ∧ (parseMethodDescriptor y.desc).map (fun d => d.parameters.length) = some n) (hK : Ki G l y ccY nY ret rmY (.ref b :: As) [] w1 post) (hR : RmOk rmY R nY cells slots) (hn : As.length = n) (ci q0 : Nat) (hc : vwCl[ci]? = some (C, T, N)) (he : ws[q0]? = some (b, .inr (ci, fs))) (hst : st0 = As.reverse ++ .ref b :: rest) (hw : (rest.map fun v => v.category).sum ≤ 8) (hdg : decode cc pc = .ok (.invokevirtual idx, 3))
    (kk : ∀ (r : Int32) (u : S) (H1 : Heap) (locs1 : List Loc), post r u → WX G A s H1 locs1 ws → W p l e R s m args below meth c H1 locs1 cells slots Q (F0 m (pc + 3) ls (.int r :: rest))) : W p l e R s m args below meth c H locs cells slots Q (F0 m pc ls st0) := by
  subst hst
  exact kc_iE hA h (va_runV S0 (hK H.size) (cwV n S0.2.2.2.2 gw rfl hR.1 hR.2.1 hd ⟨hR.2.2.1, hR.2.2.2.1⟩) (preV hG h (preE hG hA h) ci q0 hc he) rfl hn hl rfl (lv_room hw) hdg ⟨hR.2.2.2.2.1, hR.2.2.2.2.2⟩) kk
theorem cN_iE {post : Int32 → S → Prop} (S0 : CF p m c cc nL s args own) (hG : GX G A s) (hA : ∀ q, s.heap.size ≤ q → A q) (h : WX G A s H locs ws) (hl : ls.size = nL) (gw : GoodIn wsL_law (WS y ccY nY ret)) (gi : Cond.initialized y.cls ∈ wsL_law) (gm : Cond.instanceMethod y ∈ wsL_law) (gs : Cond.selects C y y ∈ wsL_law) (gn : Cond.methodLinkNest own idx y host ∈ NW) (hd : y.cls ≠ "java/lang/invoke/MethodHandle" ∧ y.cls ≠ "java/lang/invoke/VarHandle" ∧ (parseMethodDescriptor y.desc).map (fun d => d.parameters.length) = some n) (hK : Ki G l y ccY nY ret rmY (.ref b :: As) [] w1 post) (hR : RmOk rmY R nY cells slots) (hn : As.length = n) (ci q0 : Nat) (hc : vwCl[ci]? = some (C, T, N)) (he : ws[q0]? = some (b, .inr (ci, fs))) (hst : st0 = As.reverse ++ .ref b :: rest) (hw : (rest.map fun v => v.category).sum ≤ 8) (hdg : decode cc pc = .ok (.invokevirtual idx, 3))
    (kk : ∀ (r : Int32) (u : S) (H1 : Heap) (locs1 : List Loc), post r u → WX G A s H1 locs1 ws → W p l e R s m args below meth c H1 locs1 cells slots Q (F0 m (pc + 3) ls (.int r :: rest))) : W p l e R s m args below meth c H locs cells slots Q (F0 m pc ls st0) := by
  subst hst
  exact kc_iE hA h (va_runVN S0 (hK H.size) ⟨va_cnB n S0.2.2.2.2 gw rfl hR.1 hR.2.1 (hG.1 _ gn) (S0.2.2.2.2 _ gi) hd ⟨hR.2.2.1, hR.2.2.2.1⟩, S0.2.2.2.2 _ gm, S0.2.2.2.2 _ gs⟩ (preV hG h (preE hG hA h) ci q0 hc he) rfl hn hl rfl (lv_room hw) hdg ⟨hR.2.2.2.2.1, hR.2.2.2.2.2⟩) kk
theorem cS_iE {post : Int32 → S → Prop} (S0 : CF p m c cc nL s args own) (hG : GX G A s) (hA : ∀ q, s.heap.size ≤ q → A q) (h : WX G A s H locs ws) (hl : ls.size = nL) (gw : GoodIn wsL_law (va_wsS own idx y (WS y ccY nY ret))) (hd : y.cls ≠ "java/lang/invoke/MethodHandle" ∧ y.cls ≠ "java/lang/invoke/VarHandle" ∧ (parseMethodDescriptor y.desc).map (fun d => d.parameters.length) = some n) (hK : Ki G l y ccY nY ret rmY As [] w1 post) (hR : RmOk rmY R nY cells slots) (hn : As.length = n) (hst : st0 = As.reverse ++ rest) (hw : (rest.map fun v => v.category).sum ≤ 8) (hdg : decode cc pc = .ok (.invokestatic idx, 3))
    (kk : ∀ (r : Int32) (u : S) (H1 : Heap) (locs1 : List Loc), post r u → WX G A s H1 locs1 ws → W p l e R s m args below meth c H1 locs1 cells slots Q (F0 m (pc + 3) ls (.int r :: rest))) : W p l e R s m args below meth c H locs cells slots Q (F0 m pc ls st0) := by
  subst hst
  exact kc_iE hA h (va_runS S0 (hK H.size) (va_cwS n S0.2.2.2.2 gw rfl hR.1 hR.2.1 hd ⟨hR.2.2.1, hR.2.2.2.1⟩) (preE hG hA h) rfl hn hl rfl (lv_room hw) hdg ⟨hR.2.2.2.2.1, hR.2.2.2.2.2⟩) kk
theorem cSN_iE {post : Int32 → S → Prop} (S0 : CF p m c cc nL s args own) (hG : GX G A s) (hA : ∀ q, s.heap.size ≤ q → A q) (h : WX G A s H locs ws) (hl : ls.size = nL) (gw : GoodIn wsL_law (WS y ccY nY ret)) (gi : Cond.initialized y.cls ∈ wsL_law) (gm : Cond.static y ∈ wsL_law) (gn : Cond.methodLinkNest own idx y host ∈ NW) (hd : y.cls ≠ "java/lang/invoke/MethodHandle" ∧ y.cls ≠ "java/lang/invoke/VarHandle" ∧ (parseMethodDescriptor y.desc).map (fun d => d.parameters.length) = some n) (hK : Ki G l y ccY nY ret rmY As [] w1 post) (hR : RmOk rmY R nY cells slots) (hn : As.length = n) (hst : st0 = As.reverse ++ rest) (hw : (rest.map fun v => v.category).sum ≤ 8) (hdg : decode cc pc = .ok (.invokestatic idx, 3))
    (kk : ∀ (r : Int32) (u : S) (H1 : Heap) (locs1 : List Loc), post r u → WX G A s H1 locs1 ws → W p l e R s m args below meth c H1 locs1 cells slots Q (F0 m (pc + 3) ls (.int r :: rest))) : W p l e R s m args below meth c H locs cells slots Q (F0 m pc ls st0) := by
  subst hst
  exact kc_iE hA h (va_runSN S0 (hK H.size) ⟨va_cnB n S0.2.2.2.2 gw rfl hR.1 hR.2.1 (hG.1 _ gn) (S0.2.2.2.2 _ gi) hd ⟨hR.2.2.1, hR.2.2.2.1⟩, S0.2.2.2.2 _ gm, trivial⟩ (preE hG hA h) rfl hn hl rfl (lv_room hw) hdg ⟨hR.2.2.2.2.1, hR.2.2.2.2.2⟩) kk
theorem cU_iE {post : Int32 → S → Prop} (S0 : CF p m c cc nL s args own) (hG : GX G A s) (hA : ∀ q, s.heap.size ≤ q → A q) (h : WX G A s H locs ws) (hl : ls.size = nL) (gw : GoodIn wsL_law (va_wsU own idx C owner x y (WS y ccY nY ret))) (hyx : y = ⟨owner, x.name, x.desc⟩) (hd : owner ≠ "java/lang/invoke/MethodHandle" ∧ owner ≠ "java/lang/invoke/VarHandle" ∧ (parseMethodDescriptor x.desc).map (fun d => d.parameters.length) = some n) (hK : Ki G l y ccY nY ret rmY (.ref b :: As) [] w1 post) (hR : RmOk rmY R nY cells slots) (hn : As.length = n) (ci q0 : Nat) (hc : vwCl[ci]? = some (C, T, N)) (he : ws[q0]? = some (b, .inr (ci, fs))) (hst : st0 = As.reverse ++ .ref b :: rest) (hw : (rest.map fun v => v.category).sum ≤ 8) (hdg : decode cc pc = .ok (.invokevirtual idx, 3))
    (kk : ∀ (r : Int32) (u : S) (H1 : Heap) (locs1 : List Loc), post r u → WX G A s H1 locs1 ws → W p l e R s m args below meth c H1 locs1 cells slots Q (F0 m (pc + 3) ls (.int r :: rest))) : W p l e R s m args below meth c H locs cells slots Q (F0 m pc ls st0) := by
  subst hst
  exact kc_iE hA h (va_runU S0 (hK H.size) (va_cwU n S0.2.2.2.2 gw rfl hR.1 hR.2.1 hyx hd ⟨hR.2.2.1, hR.2.2.2.1⟩) (preV hG h (preE hG hA h) ci q0 hc he) rfl hn hl rfl (lv_room hw) hdg ⟨hR.2.2.2.2.1, hR.2.2.2.2.2⟩) kk
theorem cO_iE {post : Int32 → S → Prop} (S0 : CF p m c cc nL s args own) (hG : GX G A s) (hA : ∀ q, s.heap.size ≤ q → A q) (h : WX G A s H locs ws) (hl : ls.size = nL) (gw : GoodIn wsL_law (va_wsO own idx C owner x y (WS y ccY nY ret))) {b0 : ByteArray} {m0 : Nat} {r0 : Option FieldType} (h0 : Cond.code ⟨owner, x.name, x.desc⟩ b0 m0 r0 ∈ wsL_law) (hd : owner ≠ "java/lang/invoke/MethodHandle" ∧ owner ≠ "java/lang/invoke/VarHandle" ∧ (parseMethodDescriptor x.desc).map (fun d => d.parameters.length) = some n) (hK : Ki G l y ccY nY ret rmY (.ref b :: As) [] w1 post) (hR : RmOk rmY R nY cells slots) (hn : As.length = n) (ci q0 : Nat) (hc : vwCl[ci]? = some (C, T, N)) (he : ws[q0]? = some (b, .inr (ci, fs))) (hst : st0 = As.reverse ++ .ref b :: rest) (hw : (rest.map fun v => v.category).sum ≤ 8) (hdg : decode cc pc = .ok (.invokevirtual idx, 3))
    (kk : ∀ (r : Int32) (u : S) (H1 : Heap) (locs1 : List Loc), post r u → WX G A s H1 locs1 ws → W p l e R s m args below meth c H1 locs1 cells slots Q (F0 m (pc + 3) ls (.int r :: rest))) : W p l e R s m args below meth c H locs cells slots Q (F0 m pc ls st0) := by
  subst hst
  exact kc_iE hA h (va_runU S0 (hK H.size) (va_cwO n S0.2.2.2.2 gw rfl hR.1 hR.2.1 h0 hd ⟨hR.2.2.1, hR.2.2.2.1⟩) (preV hG h (preE hG hA h) ci q0 hc he) rfl hn hl rfl (lv_room hw) hdg ⟨hR.2.2.2.2.1, hR.2.2.2.2.2⟩) kk
theorem cV_iC {post : Int32 → S → Prop} (S0 : CF p m c cc nL s args own) (hG : GX G A s) (hA : ∀ q, s.heap.size ≤ q → A q) (h : WX G A s H locs ws) (hl : ls.size = nL) (gw : GoodIn wsL_law (wsV own idx C y (WS y ccY nY ret))) (hd : y.cls = C ∧ y.cls ≠ "java/lang/invoke/MethodHandle" ∧ y.cls ≠ "java/lang/invoke/VarHandle" ∧ (parseMethodDescriptor y.desc).map (fun d => d.parameters.length) = some n) (hK : Ki G l y ccY nY ret rmY (.ref b :: As) wc w1 post) (hR : RmOk rmY R nY cells slots) (hn : As.length = n) (ci q0 : Nat) (hc : vwCl[ci]? = some (C, T, N)) (he : ws[q0]? = some (b, .inr (ci, fs))) (isC : List Nat) (hnd : va_nd isC = true) (hC : isC.map (fun i => ws[i]?) = wc.map some) (hC2 : isC.filterMap (fun i => ws[i]?) = wc) (hst : st0 = As.reverse ++ .ref b :: rest) (hw : (rest.map fun v => v.category).sum ≤ 8) (hdg : decode cc pc = .ok (.invokevirtual idx, 3)) (jn : ∀ (u : S) (H1 : Heap), (∀ q : Nat, q < H.size → ¬ va_A wc H.size q → H1[q]? = H[q]?) → va_P G.1 vwCl (w1 u) H1 → va_P G.1 vwCl (w2 u) H1) (hadr : ∀ u, (w2 u).map Prod.fst = ws.map Prod.fst)
    (kk : ∀ (r : Int32) (u : S) (H1 : Heap) (locs1 : List Loc), post r u → WX G A s H1 locs1 (w2 u) → W p l e R s m args below meth c H1 locs1 cells slots Q (F0 m (pc + 3) ls (.int r :: rest))) : W p l e R s m args below meth c H locs cells slots Q (F0 m pc ls st0) := by
  subst hst
  exact kc_iC hA h isC hC (va_runV S0 (hK H.size) (cwV n S0.2.2.2.2 gw rfl hR.1 hR.2.1 hd ⟨hR.2.2.1, hR.2.2.2.1⟩) (preV hG h (preC hG hA h isC hnd hC hC2) ci q0 hc he) rfl hn hl rfl (lv_room hw) hdg ⟨hR.2.2.2.2.1, hR.2.2.2.2.2⟩) jn hadr kk
theorem cN_iC {post : Int32 → S → Prop} (S0 : CF p m c cc nL s args own) (hG : GX G A s) (hA : ∀ q, s.heap.size ≤ q → A q) (h : WX G A s H locs ws) (hl : ls.size = nL) (gw : GoodIn wsL_law (WS y ccY nY ret)) (gi : Cond.initialized y.cls ∈ wsL_law) (gm : Cond.instanceMethod y ∈ wsL_law) (gs : Cond.selects C y y ∈ wsL_law) (gn : Cond.methodLinkNest own idx y host ∈ NW) (hd : y.cls ≠ "java/lang/invoke/MethodHandle" ∧ y.cls ≠ "java/lang/invoke/VarHandle" ∧ (parseMethodDescriptor y.desc).map (fun d => d.parameters.length) = some n) (hK : Ki G l y ccY nY ret rmY (.ref b :: As) wc w1 post) (hR : RmOk rmY R nY cells slots) (hn : As.length = n) (ci q0 : Nat) (hc : vwCl[ci]? = some (C, T, N)) (he : ws[q0]? = some (b, .inr (ci, fs))) (isC : List Nat) (hnd : va_nd isC = true) (hC : isC.map (fun i => ws[i]?) = wc.map some) (hC2 : isC.filterMap (fun i => ws[i]?) = wc) (hst : st0 = As.reverse ++ .ref b :: rest) (hw : (rest.map fun v => v.category).sum ≤ 8) (hdg : decode cc pc = .ok (.invokevirtual idx, 3)) (jn : ∀ (u : S) (H1 : Heap), (∀ q : Nat, q < H.size → ¬ va_A wc H.size q → H1[q]? = H[q]?) → va_P G.1 vwCl (w1 u) H1 → va_P G.1 vwCl (w2 u) H1) (hadr : ∀ u, (w2 u).map Prod.fst = ws.map Prod.fst)
    (kk : ∀ (r : Int32) (u : S) (H1 : Heap) (locs1 : List Loc), post r u → WX G A s H1 locs1 (w2 u) → W p l e R s m args below meth c H1 locs1 cells slots Q (F0 m (pc + 3) ls (.int r :: rest))) : W p l e R s m args below meth c H locs cells slots Q (F0 m pc ls st0) := by
  subst hst
  exact kc_iC hA h isC hC (va_runVN S0 (hK H.size) ⟨va_cnB n S0.2.2.2.2 gw rfl hR.1 hR.2.1 (hG.1 _ gn) (S0.2.2.2.2 _ gi) hd ⟨hR.2.2.1, hR.2.2.2.1⟩, S0.2.2.2.2 _ gm, S0.2.2.2.2 _ gs⟩ (preV hG h (preC hG hA h isC hnd hC hC2) ci q0 hc he) rfl hn hl rfl (lv_room hw) hdg ⟨hR.2.2.2.2.1, hR.2.2.2.2.2⟩) jn hadr kk
theorem cS_iC {post : Int32 → S → Prop} (S0 : CF p m c cc nL s args own) (hG : GX G A s) (hA : ∀ q, s.heap.size ≤ q → A q) (h : WX G A s H locs ws) (hl : ls.size = nL) (gw : GoodIn wsL_law (va_wsS own idx y (WS y ccY nY ret))) (hd : y.cls ≠ "java/lang/invoke/MethodHandle" ∧ y.cls ≠ "java/lang/invoke/VarHandle" ∧ (parseMethodDescriptor y.desc).map (fun d => d.parameters.length) = some n) (hK : Ki G l y ccY nY ret rmY As wc w1 post) (hR : RmOk rmY R nY cells slots) (hn : As.length = n) (isC : List Nat) (hnd : va_nd isC = true) (hC : isC.map (fun i => ws[i]?) = wc.map some) (hC2 : isC.filterMap (fun i => ws[i]?) = wc) (hst : st0 = As.reverse ++ rest) (hw : (rest.map fun v => v.category).sum ≤ 8) (hdg : decode cc pc = .ok (.invokestatic idx, 3)) (jn : ∀ (u : S) (H1 : Heap), (∀ q : Nat, q < H.size → ¬ va_A wc H.size q → H1[q]? = H[q]?) → va_P G.1 vwCl (w1 u) H1 → va_P G.1 vwCl (w2 u) H1) (hadr : ∀ u, (w2 u).map Prod.fst = ws.map Prod.fst)
    (kk : ∀ (r : Int32) (u : S) (H1 : Heap) (locs1 : List Loc), post r u → WX G A s H1 locs1 (w2 u) → W p l e R s m args below meth c H1 locs1 cells slots Q (F0 m (pc + 3) ls (.int r :: rest))) : W p l e R s m args below meth c H locs cells slots Q (F0 m pc ls st0) := by
  subst hst
  exact kc_iC hA h isC hC (va_runS S0 (hK H.size) (va_cwS n S0.2.2.2.2 gw rfl hR.1 hR.2.1 hd ⟨hR.2.2.1, hR.2.2.2.1⟩) (preC hG hA h isC hnd hC hC2) rfl hn hl rfl (lv_room hw) hdg ⟨hR.2.2.2.2.1, hR.2.2.2.2.2⟩) jn hadr kk
theorem cSN_iC {post : Int32 → S → Prop} (S0 : CF p m c cc nL s args own) (hG : GX G A s) (hA : ∀ q, s.heap.size ≤ q → A q) (h : WX G A s H locs ws) (hl : ls.size = nL) (gw : GoodIn wsL_law (WS y ccY nY ret)) (gi : Cond.initialized y.cls ∈ wsL_law) (gm : Cond.static y ∈ wsL_law) (gn : Cond.methodLinkNest own idx y host ∈ NW) (hd : y.cls ≠ "java/lang/invoke/MethodHandle" ∧ y.cls ≠ "java/lang/invoke/VarHandle" ∧ (parseMethodDescriptor y.desc).map (fun d => d.parameters.length) = some n) (hK : Ki G l y ccY nY ret rmY As wc w1 post) (hR : RmOk rmY R nY cells slots) (hn : As.length = n) (isC : List Nat) (hnd : va_nd isC = true) (hC : isC.map (fun i => ws[i]?) = wc.map some) (hC2 : isC.filterMap (fun i => ws[i]?) = wc) (hst : st0 = As.reverse ++ rest) (hw : (rest.map fun v => v.category).sum ≤ 8) (hdg : decode cc pc = .ok (.invokestatic idx, 3)) (jn : ∀ (u : S) (H1 : Heap), (∀ q : Nat, q < H.size → ¬ va_A wc H.size q → H1[q]? = H[q]?) → va_P G.1 vwCl (w1 u) H1 → va_P G.1 vwCl (w2 u) H1) (hadr : ∀ u, (w2 u).map Prod.fst = ws.map Prod.fst)
    (kk : ∀ (r : Int32) (u : S) (H1 : Heap) (locs1 : List Loc), post r u → WX G A s H1 locs1 (w2 u) → W p l e R s m args below meth c H1 locs1 cells slots Q (F0 m (pc + 3) ls (.int r :: rest))) : W p l e R s m args below meth c H locs cells slots Q (F0 m pc ls st0) := by
  subst hst
  exact kc_iC hA h isC hC (va_runSN S0 (hK H.size) ⟨va_cnB n S0.2.2.2.2 gw rfl hR.1 hR.2.1 (hG.1 _ gn) (S0.2.2.2.2 _ gi) hd ⟨hR.2.2.1, hR.2.2.2.1⟩, S0.2.2.2.2 _ gm, trivial⟩ (preC hG hA h isC hnd hC hC2) rfl hn hl rfl (lv_room hw) hdg ⟨hR.2.2.2.2.1, hR.2.2.2.2.2⟩) jn hadr kk
theorem cU_iC {post : Int32 → S → Prop} (S0 : CF p m c cc nL s args own) (hG : GX G A s) (hA : ∀ q, s.heap.size ≤ q → A q) (h : WX G A s H locs ws) (hl : ls.size = nL) (gw : GoodIn wsL_law (va_wsU own idx C owner x y (WS y ccY nY ret))) (hyx : y = ⟨owner, x.name, x.desc⟩) (hd : owner ≠ "java/lang/invoke/MethodHandle" ∧ owner ≠ "java/lang/invoke/VarHandle" ∧ (parseMethodDescriptor x.desc).map (fun d => d.parameters.length) = some n) (hK : Ki G l y ccY nY ret rmY (.ref b :: As) wc w1 post) (hR : RmOk rmY R nY cells slots) (hn : As.length = n) (ci q0 : Nat) (hc : vwCl[ci]? = some (C, T, N)) (he : ws[q0]? = some (b, .inr (ci, fs))) (isC : List Nat) (hnd : va_nd isC = true) (hC : isC.map (fun i => ws[i]?) = wc.map some) (hC2 : isC.filterMap (fun i => ws[i]?) = wc) (hst : st0 = As.reverse ++ .ref b :: rest) (hw : (rest.map fun v => v.category).sum ≤ 8) (hdg : decode cc pc = .ok (.invokevirtual idx, 3)) (jn : ∀ (u : S) (H1 : Heap), (∀ q : Nat, q < H.size → ¬ va_A wc H.size q → H1[q]? = H[q]?) → va_P G.1 vwCl (w1 u) H1 → va_P G.1 vwCl (w2 u) H1) (hadr : ∀ u, (w2 u).map Prod.fst = ws.map Prod.fst)
    (kk : ∀ (r : Int32) (u : S) (H1 : Heap) (locs1 : List Loc), post r u → WX G A s H1 locs1 (w2 u) → W p l e R s m args below meth c H1 locs1 cells slots Q (F0 m (pc + 3) ls (.int r :: rest))) : W p l e R s m args below meth c H locs cells slots Q (F0 m pc ls st0) := by
  subst hst
  exact kc_iC hA h isC hC (va_runU S0 (hK H.size) (va_cwU n S0.2.2.2.2 gw rfl hR.1 hR.2.1 hyx hd ⟨hR.2.2.1, hR.2.2.2.1⟩) (preV hG h (preC hG hA h isC hnd hC hC2) ci q0 hc he) rfl hn hl rfl (lv_room hw) hdg ⟨hR.2.2.2.2.1, hR.2.2.2.2.2⟩) jn hadr kk
theorem cO_iC {post : Int32 → S → Prop} (S0 : CF p m c cc nL s args own) (hG : GX G A s) (hA : ∀ q, s.heap.size ≤ q → A q) (h : WX G A s H locs ws) (hl : ls.size = nL) (gw : GoodIn wsL_law (va_wsO own idx C owner x y (WS y ccY nY ret))) {b0 : ByteArray} {m0 : Nat} {r0 : Option FieldType} (h0 : Cond.code ⟨owner, x.name, x.desc⟩ b0 m0 r0 ∈ wsL_law) (hd : owner ≠ "java/lang/invoke/MethodHandle" ∧ owner ≠ "java/lang/invoke/VarHandle" ∧ (parseMethodDescriptor x.desc).map (fun d => d.parameters.length) = some n) (hK : Ki G l y ccY nY ret rmY (.ref b :: As) wc w1 post) (hR : RmOk rmY R nY cells slots) (hn : As.length = n) (ci q0 : Nat) (hc : vwCl[ci]? = some (C, T, N)) (he : ws[q0]? = some (b, .inr (ci, fs))) (isC : List Nat) (hnd : va_nd isC = true) (hC : isC.map (fun i => ws[i]?) = wc.map some) (hC2 : isC.filterMap (fun i => ws[i]?) = wc) (hst : st0 = As.reverse ++ .ref b :: rest) (hw : (rest.map fun v => v.category).sum ≤ 8) (hdg : decode cc pc = .ok (.invokevirtual idx, 3)) (jn : ∀ (u : S) (H1 : Heap), (∀ q : Nat, q < H.size → ¬ va_A wc H.size q → H1[q]? = H[q]?) → va_P G.1 vwCl (w1 u) H1 → va_P G.1 vwCl (w2 u) H1) (hadr : ∀ u, (w2 u).map Prod.fst = ws.map Prod.fst)
    (kk : ∀ (r : Int32) (u : S) (H1 : Heap) (locs1 : List Loc), post r u → WX G A s H1 locs1 (w2 u) → W p l e R s m args below meth c H1 locs1 cells slots Q (F0 m (pc + 3) ls (.int r :: rest))) : W p l e R s m args below meth c H locs cells slots Q (F0 m pc ls st0) := by
  subst hst
  exact kc_iC hA h isC hC (va_runU S0 (hK H.size) (va_cwO n S0.2.2.2.2 gw rfl hR.1 hR.2.1 h0 hd ⟨hR.2.2.1, hR.2.2.2.1⟩) (preV hG h (preC hG hA h isC hnd hC hC2) ci q0 hc he) rfl hn hl rfl (lv_room hw) hdg ⟨hR.2.2.2.2.1, hR.2.2.2.2.2⟩) jn hadr kk
theorem cV_l0 {post : Int64 → S → Prop} (S0 : CF p m c cc nL s args own) (hG : GX G A s) (hA : ∀ q, s.heap.size ≤ q → A q) (h : WX G A s H locs ws) (hl : ls.size = nL) (gw : GoodIn wsL_law (wsV own idx C y (WS y ccY nY ret))) (hd : y.cls = C ∧ y.cls ≠ "java/lang/invoke/MethodHandle" ∧ y.cls ≠ "java/lang/invoke/VarHandle" ∧ (parseMethodDescriptor y.desc).map (fun d => d.parameters.length) = some n) (hK : Kl G l y ccY nY ret rmY (.ref b :: As) ws w1 post) (hR : RmOk rmY R nY cells slots) (hn : As.length = n) (ci q0 : Nat) (hc : vwCl[ci]? = some (C, T, N)) (he : ws[q0]? = some (b, .inr (ci, fs))) (hst : st0 = As.reverse ++ .ref b :: rest) (hw : (rest.map fun v => v.category).sum ≤ 8) (hdg : decode cc pc = .ok (.invokevirtual idx, 3)) (hadr : ∀ u, (w1 u).map Prod.fst = ws.map Prod.fst)
    (kk : ∀ (r : Int64) (u : S) (H1 : Heap) (locs1 : List Loc), post r u → WX G A s H1 locs1 (w1 u) → W p l e R s m args below meth c H1 locs1 cells slots Q (F0 m (pc + 3) ls (.long r :: rest))) : W p l e R s m args below meth c H locs cells slots Q (F0 m pc ls st0) := by
  subst hst
  exact kc_l0 hA h (va_runV S0 (hK H.size) (cwV n S0.2.2.2.2 gw rfl hR.1 hR.2.1 hd ⟨hR.2.2.1, hR.2.2.2.1⟩) (preV hG h (pre0 hG hA h) ci q0 hc he) rfl hn hl rfl (lv_room hw) hdg ⟨hR.2.2.2.2.1, hR.2.2.2.2.2⟩) hadr kk
theorem cN_l0 {post : Int64 → S → Prop} (S0 : CF p m c cc nL s args own) (hG : GX G A s) (hA : ∀ q, s.heap.size ≤ q → A q) (h : WX G A s H locs ws) (hl : ls.size = nL) (gw : GoodIn wsL_law (WS y ccY nY ret)) (gi : Cond.initialized y.cls ∈ wsL_law) (gm : Cond.instanceMethod y ∈ wsL_law) (gs : Cond.selects C y y ∈ wsL_law) (gn : Cond.methodLinkNest own idx y host ∈ NW) (hd : y.cls ≠ "java/lang/invoke/MethodHandle" ∧ y.cls ≠ "java/lang/invoke/VarHandle" ∧ (parseMethodDescriptor y.desc).map (fun d => d.parameters.length) = some n) (hK : Kl G l y ccY nY ret rmY (.ref b :: As) ws w1 post) (hR : RmOk rmY R nY cells slots) (hn : As.length = n) (ci q0 : Nat) (hc : vwCl[ci]? = some (C, T, N)) (he : ws[q0]? = some (b, .inr (ci, fs))) (hst : st0 = As.reverse ++ .ref b :: rest) (hw : (rest.map fun v => v.category).sum ≤ 8) (hdg : decode cc pc = .ok (.invokevirtual idx, 3)) (hadr : ∀ u, (w1 u).map Prod.fst = ws.map Prod.fst)
    (kk : ∀ (r : Int64) (u : S) (H1 : Heap) (locs1 : List Loc), post r u → WX G A s H1 locs1 (w1 u) → W p l e R s m args below meth c H1 locs1 cells slots Q (F0 m (pc + 3) ls (.long r :: rest))) : W p l e R s m args below meth c H locs cells slots Q (F0 m pc ls st0) := by
  subst hst
  exact kc_l0 hA h (va_runVN S0 (hK H.size) ⟨va_cnB n S0.2.2.2.2 gw rfl hR.1 hR.2.1 (hG.1 _ gn) (S0.2.2.2.2 _ gi) hd ⟨hR.2.2.1, hR.2.2.2.1⟩, S0.2.2.2.2 _ gm, S0.2.2.2.2 _ gs⟩ (preV hG h (pre0 hG hA h) ci q0 hc he) rfl hn hl rfl (lv_room hw) hdg ⟨hR.2.2.2.2.1, hR.2.2.2.2.2⟩) hadr kk
theorem cS_l0 {post : Int64 → S → Prop} (S0 : CF p m c cc nL s args own) (hG : GX G A s) (hA : ∀ q, s.heap.size ≤ q → A q) (h : WX G A s H locs ws) (hl : ls.size = nL) (gw : GoodIn wsL_law (va_wsS own idx y (WS y ccY nY ret))) (hd : y.cls ≠ "java/lang/invoke/MethodHandle" ∧ y.cls ≠ "java/lang/invoke/VarHandle" ∧ (parseMethodDescriptor y.desc).map (fun d => d.parameters.length) = some n) (hK : Kl G l y ccY nY ret rmY As ws w1 post) (hR : RmOk rmY R nY cells slots) (hn : As.length = n) (hst : st0 = As.reverse ++ rest) (hw : (rest.map fun v => v.category).sum ≤ 8) (hdg : decode cc pc = .ok (.invokestatic idx, 3)) (hadr : ∀ u, (w1 u).map Prod.fst = ws.map Prod.fst)
    (kk : ∀ (r : Int64) (u : S) (H1 : Heap) (locs1 : List Loc), post r u → WX G A s H1 locs1 (w1 u) → W p l e R s m args below meth c H1 locs1 cells slots Q (F0 m (pc + 3) ls (.long r :: rest))) : W p l e R s m args below meth c H locs cells slots Q (F0 m pc ls st0) := by
  subst hst
  exact kc_l0 hA h (va_runS S0 (hK H.size) (va_cwS n S0.2.2.2.2 gw rfl hR.1 hR.2.1 hd ⟨hR.2.2.1, hR.2.2.2.1⟩) (pre0 hG hA h) rfl hn hl rfl (lv_room hw) hdg ⟨hR.2.2.2.2.1, hR.2.2.2.2.2⟩) hadr kk
theorem cSN_l0 {post : Int64 → S → Prop} (S0 : CF p m c cc nL s args own) (hG : GX G A s) (hA : ∀ q, s.heap.size ≤ q → A q) (h : WX G A s H locs ws) (hl : ls.size = nL) (gw : GoodIn wsL_law (WS y ccY nY ret)) (gi : Cond.initialized y.cls ∈ wsL_law) (gm : Cond.static y ∈ wsL_law) (gn : Cond.methodLinkNest own idx y host ∈ NW) (hd : y.cls ≠ "java/lang/invoke/MethodHandle" ∧ y.cls ≠ "java/lang/invoke/VarHandle" ∧ (parseMethodDescriptor y.desc).map (fun d => d.parameters.length) = some n) (hK : Kl G l y ccY nY ret rmY As ws w1 post) (hR : RmOk rmY R nY cells slots) (hn : As.length = n) (hst : st0 = As.reverse ++ rest) (hw : (rest.map fun v => v.category).sum ≤ 8) (hdg : decode cc pc = .ok (.invokestatic idx, 3)) (hadr : ∀ u, (w1 u).map Prod.fst = ws.map Prod.fst)
    (kk : ∀ (r : Int64) (u : S) (H1 : Heap) (locs1 : List Loc), post r u → WX G A s H1 locs1 (w1 u) → W p l e R s m args below meth c H1 locs1 cells slots Q (F0 m (pc + 3) ls (.long r :: rest))) : W p l e R s m args below meth c H locs cells slots Q (F0 m pc ls st0) := by
  subst hst
  exact kc_l0 hA h (va_runSN S0 (hK H.size) ⟨va_cnB n S0.2.2.2.2 gw rfl hR.1 hR.2.1 (hG.1 _ gn) (S0.2.2.2.2 _ gi) hd ⟨hR.2.2.1, hR.2.2.2.1⟩, S0.2.2.2.2 _ gm, trivial⟩ (pre0 hG hA h) rfl hn hl rfl (lv_room hw) hdg ⟨hR.2.2.2.2.1, hR.2.2.2.2.2⟩) hadr kk
theorem cSU_l0 {post : Int64 → S → Prop} (S0 : CF p m c cc nL s args own) (hG : GX G A s) (hA : ∀ q, s.heap.size ≤ q → A q) (h : WX G A s H locs ws) (hl : ls.size = nL) (gw : GoodIn wsL_law (va_wsSU own idx y (WS y ccY nY ret))) (hd : y.name ≠ "<init>" ∧ (parseMethodDescriptor y.desc).map (fun d => d.parameters.length) = some n) (hK : Kl G l y ccY nY ret rmY (.ref b :: As) ws w1 post) (hR : RmOk rmY R nY cells slots) (hn : As.length = n) (ci q0 : Nat) (hc : vwCl[ci]? = some (C, T, N)) (he : ws[q0]? = some (b, .inr (ci, fs))) (hst : st0 = As.reverse ++ .ref b :: rest) (hw : (rest.map fun v => v.category).sum ≤ 8) (hdg : decode cc pc = .ok (.invokespecial idx, 3)) (hadr : ∀ u, (w1 u).map Prod.fst = ws.map Prod.fst)
    (kk : ∀ (r : Int64) (u : S) (H1 : Heap) (locs1 : List Loc), post r u → WX G A s H1 locs1 (w1 u) → W p l e R s m args below meth c H1 locs1 cells slots Q (F0 m (pc + 3) ls (.long r :: rest))) : W p l e R s m args below meth c H locs cells slots Q (F0 m pc ls st0) := by
  subst hst
  exact kc_l0 hA h (va_runSU (hG.2.2.1.1 ci _ hc).2 S0 (hK H.size) (va_cwSU n S0.2.2.2.2 gw rfl hR.1 hR.2.1 hd ⟨hR.2.2.1, hR.2.2.2.1⟩) (preV hG h (pre0 hG hA h) ci q0 hc he) rfl hn hl rfl (lv_room hw) hdg ⟨hR.2.2.2.2.1, hR.2.2.2.2.2⟩) hadr kk
theorem cU_l0 {post : Int64 → S → Prop} (S0 : CF p m c cc nL s args own) (hG : GX G A s) (hA : ∀ q, s.heap.size ≤ q → A q) (h : WX G A s H locs ws) (hl : ls.size = nL) (gw : GoodIn wsL_law (va_wsU own idx C owner x y (WS y ccY nY ret))) (hyx : y = ⟨owner, x.name, x.desc⟩) (hd : owner ≠ "java/lang/invoke/MethodHandle" ∧ owner ≠ "java/lang/invoke/VarHandle" ∧ (parseMethodDescriptor x.desc).map (fun d => d.parameters.length) = some n) (hK : Kl G l y ccY nY ret rmY (.ref b :: As) ws w1 post) (hR : RmOk rmY R nY cells slots) (hn : As.length = n) (ci q0 : Nat) (hc : vwCl[ci]? = some (C, T, N)) (he : ws[q0]? = some (b, .inr (ci, fs))) (hst : st0 = As.reverse ++ .ref b :: rest) (hw : (rest.map fun v => v.category).sum ≤ 8) (hdg : decode cc pc = .ok (.invokevirtual idx, 3)) (hadr : ∀ u, (w1 u).map Prod.fst = ws.map Prod.fst)
    (kk : ∀ (r : Int64) (u : S) (H1 : Heap) (locs1 : List Loc), post r u → WX G A s H1 locs1 (w1 u) → W p l e R s m args below meth c H1 locs1 cells slots Q (F0 m (pc + 3) ls (.long r :: rest))) : W p l e R s m args below meth c H locs cells slots Q (F0 m pc ls st0) := by
  subst hst
  exact kc_l0 hA h (va_runU S0 (hK H.size) (va_cwU n S0.2.2.2.2 gw rfl hR.1 hR.2.1 hyx hd ⟨hR.2.2.1, hR.2.2.2.1⟩) (preV hG h (pre0 hG hA h) ci q0 hc he) rfl hn hl rfl (lv_room hw) hdg ⟨hR.2.2.2.2.1, hR.2.2.2.2.2⟩) hadr kk
theorem cO_l0 {post : Int64 → S → Prop} (S0 : CF p m c cc nL s args own) (hG : GX G A s) (hA : ∀ q, s.heap.size ≤ q → A q) (h : WX G A s H locs ws) (hl : ls.size = nL) (gw : GoodIn wsL_law (va_wsO own idx C owner x y (WS y ccY nY ret))) {b0 : ByteArray} {m0 : Nat} {r0 : Option FieldType} (h0 : Cond.code ⟨owner, x.name, x.desc⟩ b0 m0 r0 ∈ wsL_law) (hd : owner ≠ "java/lang/invoke/MethodHandle" ∧ owner ≠ "java/lang/invoke/VarHandle" ∧ (parseMethodDescriptor x.desc).map (fun d => d.parameters.length) = some n) (hK : Kl G l y ccY nY ret rmY (.ref b :: As) ws w1 post) (hR : RmOk rmY R nY cells slots) (hn : As.length = n) (ci q0 : Nat) (hc : vwCl[ci]? = some (C, T, N)) (he : ws[q0]? = some (b, .inr (ci, fs))) (hst : st0 = As.reverse ++ .ref b :: rest) (hw : (rest.map fun v => v.category).sum ≤ 8) (hdg : decode cc pc = .ok (.invokevirtual idx, 3)) (hadr : ∀ u, (w1 u).map Prod.fst = ws.map Prod.fst)
    (kk : ∀ (r : Int64) (u : S) (H1 : Heap) (locs1 : List Loc), post r u → WX G A s H1 locs1 (w1 u) → W p l e R s m args below meth c H1 locs1 cells slots Q (F0 m (pc + 3) ls (.long r :: rest))) : W p l e R s m args below meth c H locs cells slots Q (F0 m pc ls st0) := by
  subst hst
  exact kc_l0 hA h (va_runU S0 (hK H.size) (va_cwO n S0.2.2.2.2 gw rfl hR.1 hR.2.1 h0 hd ⟨hR.2.2.1, hR.2.2.2.1⟩) (preV hG h (pre0 hG hA h) ci q0 hc he) rfl hn hl rfl (lv_room hw) hdg ⟨hR.2.2.2.2.1, hR.2.2.2.2.2⟩) hadr kk
theorem cV_lE {post : Int64 → S → Prop} (S0 : CF p m c cc nL s args own) (hG : GX G A s) (hA : ∀ q, s.heap.size ≤ q → A q) (h : WX G A s H locs ws) (hl : ls.size = nL) (gw : GoodIn wsL_law (wsV own idx C y (WS y ccY nY ret))) (hd : y.cls = C ∧ y.cls ≠ "java/lang/invoke/MethodHandle" ∧ y.cls ≠ "java/lang/invoke/VarHandle" ∧ (parseMethodDescriptor y.desc).map (fun d => d.parameters.length) = some n) (hK : Kl G l y ccY nY ret rmY (.ref b :: As) [] w1 post) (hR : RmOk rmY R nY cells slots) (hn : As.length = n) (ci q0 : Nat) (hc : vwCl[ci]? = some (C, T, N)) (he : ws[q0]? = some (b, .inr (ci, fs))) (hst : st0 = As.reverse ++ .ref b :: rest) (hw : (rest.map fun v => v.category).sum ≤ 8) (hdg : decode cc pc = .ok (.invokevirtual idx, 3))
    (kk : ∀ (r : Int64) (u : S) (H1 : Heap) (locs1 : List Loc), post r u → WX G A s H1 locs1 ws → W p l e R s m args below meth c H1 locs1 cells slots Q (F0 m (pc + 3) ls (.long r :: rest))) : W p l e R s m args below meth c H locs cells slots Q (F0 m pc ls st0) := by
  subst hst
  exact kc_lE hA h (va_runV S0 (hK H.size) (cwV n S0.2.2.2.2 gw rfl hR.1 hR.2.1 hd ⟨hR.2.2.1, hR.2.2.2.1⟩) (preV hG h (preE hG hA h) ci q0 hc he) rfl hn hl rfl (lv_room hw) hdg ⟨hR.2.2.2.2.1, hR.2.2.2.2.2⟩) kk
theorem cN_lE {post : Int64 → S → Prop} (S0 : CF p m c cc nL s args own) (hG : GX G A s) (hA : ∀ q, s.heap.size ≤ q → A q) (h : WX G A s H locs ws) (hl : ls.size = nL) (gw : GoodIn wsL_law (WS y ccY nY ret)) (gi : Cond.initialized y.cls ∈ wsL_law) (gm : Cond.instanceMethod y ∈ wsL_law) (gs : Cond.selects C y y ∈ wsL_law) (gn : Cond.methodLinkNest own idx y host ∈ NW) (hd : y.cls ≠ "java/lang/invoke/MethodHandle" ∧ y.cls ≠ "java/lang/invoke/VarHandle" ∧ (parseMethodDescriptor y.desc).map (fun d => d.parameters.length) = some n) (hK : Kl G l y ccY nY ret rmY (.ref b :: As) [] w1 post) (hR : RmOk rmY R nY cells slots) (hn : As.length = n) (ci q0 : Nat) (hc : vwCl[ci]? = some (C, T, N)) (he : ws[q0]? = some (b, .inr (ci, fs))) (hst : st0 = As.reverse ++ .ref b :: rest) (hw : (rest.map fun v => v.category).sum ≤ 8) (hdg : decode cc pc = .ok (.invokevirtual idx, 3))
    (kk : ∀ (r : Int64) (u : S) (H1 : Heap) (locs1 : List Loc), post r u → WX G A s H1 locs1 ws → W p l e R s m args below meth c H1 locs1 cells slots Q (F0 m (pc + 3) ls (.long r :: rest))) : W p l e R s m args below meth c H locs cells slots Q (F0 m pc ls st0) := by
  subst hst
  exact kc_lE hA h (va_runVN S0 (hK H.size) ⟨va_cnB n S0.2.2.2.2 gw rfl hR.1 hR.2.1 (hG.1 _ gn) (S0.2.2.2.2 _ gi) hd ⟨hR.2.2.1, hR.2.2.2.1⟩, S0.2.2.2.2 _ gm, S0.2.2.2.2 _ gs⟩ (preV hG h (preE hG hA h) ci q0 hc he) rfl hn hl rfl (lv_room hw) hdg ⟨hR.2.2.2.2.1, hR.2.2.2.2.2⟩) kk
theorem cS_lE {post : Int64 → S → Prop} (S0 : CF p m c cc nL s args own) (hG : GX G A s) (hA : ∀ q, s.heap.size ≤ q → A q) (h : WX G A s H locs ws) (hl : ls.size = nL) (gw : GoodIn wsL_law (va_wsS own idx y (WS y ccY nY ret))) (hd : y.cls ≠ "java/lang/invoke/MethodHandle" ∧ y.cls ≠ "java/lang/invoke/VarHandle" ∧ (parseMethodDescriptor y.desc).map (fun d => d.parameters.length) = some n) (hK : Kl G l y ccY nY ret rmY As [] w1 post) (hR : RmOk rmY R nY cells slots) (hn : As.length = n) (hst : st0 = As.reverse ++ rest) (hw : (rest.map fun v => v.category).sum ≤ 8) (hdg : decode cc pc = .ok (.invokestatic idx, 3))
    (kk : ∀ (r : Int64) (u : S) (H1 : Heap) (locs1 : List Loc), post r u → WX G A s H1 locs1 ws → W p l e R s m args below meth c H1 locs1 cells slots Q (F0 m (pc + 3) ls (.long r :: rest))) : W p l e R s m args below meth c H locs cells slots Q (F0 m pc ls st0) := by
  subst hst
  exact kc_lE hA h (va_runS S0 (hK H.size) (va_cwS n S0.2.2.2.2 gw rfl hR.1 hR.2.1 hd ⟨hR.2.2.1, hR.2.2.2.1⟩) (preE hG hA h) rfl hn hl rfl (lv_room hw) hdg ⟨hR.2.2.2.2.1, hR.2.2.2.2.2⟩) kk
theorem cSN_lE {post : Int64 → S → Prop} (S0 : CF p m c cc nL s args own) (hG : GX G A s) (hA : ∀ q, s.heap.size ≤ q → A q) (h : WX G A s H locs ws) (hl : ls.size = nL) (gw : GoodIn wsL_law (WS y ccY nY ret)) (gi : Cond.initialized y.cls ∈ wsL_law) (gm : Cond.static y ∈ wsL_law) (gn : Cond.methodLinkNest own idx y host ∈ NW) (hd : y.cls ≠ "java/lang/invoke/MethodHandle" ∧ y.cls ≠ "java/lang/invoke/VarHandle" ∧ (parseMethodDescriptor y.desc).map (fun d => d.parameters.length) = some n) (hK : Kl G l y ccY nY ret rmY As [] w1 post) (hR : RmOk rmY R nY cells slots) (hn : As.length = n) (hst : st0 = As.reverse ++ rest) (hw : (rest.map fun v => v.category).sum ≤ 8) (hdg : decode cc pc = .ok (.invokestatic idx, 3))
    (kk : ∀ (r : Int64) (u : S) (H1 : Heap) (locs1 : List Loc), post r u → WX G A s H1 locs1 ws → W p l e R s m args below meth c H1 locs1 cells slots Q (F0 m (pc + 3) ls (.long r :: rest))) : W p l e R s m args below meth c H locs cells slots Q (F0 m pc ls st0) := by
  subst hst
  exact kc_lE hA h (va_runSN S0 (hK H.size) ⟨va_cnB n S0.2.2.2.2 gw rfl hR.1 hR.2.1 (hG.1 _ gn) (S0.2.2.2.2 _ gi) hd ⟨hR.2.2.1, hR.2.2.2.1⟩, S0.2.2.2.2 _ gm, trivial⟩ (preE hG hA h) rfl hn hl rfl (lv_room hw) hdg ⟨hR.2.2.2.2.1, hR.2.2.2.2.2⟩) kk
theorem cU_lE {post : Int64 → S → Prop} (S0 : CF p m c cc nL s args own) (hG : GX G A s) (hA : ∀ q, s.heap.size ≤ q → A q) (h : WX G A s H locs ws) (hl : ls.size = nL) (gw : GoodIn wsL_law (va_wsU own idx C owner x y (WS y ccY nY ret))) (hyx : y = ⟨owner, x.name, x.desc⟩) (hd : owner ≠ "java/lang/invoke/MethodHandle" ∧ owner ≠ "java/lang/invoke/VarHandle" ∧ (parseMethodDescriptor x.desc).map (fun d => d.parameters.length) = some n) (hK : Kl G l y ccY nY ret rmY (.ref b :: As) [] w1 post) (hR : RmOk rmY R nY cells slots) (hn : As.length = n) (ci q0 : Nat) (hc : vwCl[ci]? = some (C, T, N)) (he : ws[q0]? = some (b, .inr (ci, fs))) (hst : st0 = As.reverse ++ .ref b :: rest) (hw : (rest.map fun v => v.category).sum ≤ 8) (hdg : decode cc pc = .ok (.invokevirtual idx, 3))
    (kk : ∀ (r : Int64) (u : S) (H1 : Heap) (locs1 : List Loc), post r u → WX G A s H1 locs1 ws → W p l e R s m args below meth c H1 locs1 cells slots Q (F0 m (pc + 3) ls (.long r :: rest))) : W p l e R s m args below meth c H locs cells slots Q (F0 m pc ls st0) := by
  subst hst
  exact kc_lE hA h (va_runU S0 (hK H.size) (va_cwU n S0.2.2.2.2 gw rfl hR.1 hR.2.1 hyx hd ⟨hR.2.2.1, hR.2.2.2.1⟩) (preV hG h (preE hG hA h) ci q0 hc he) rfl hn hl rfl (lv_room hw) hdg ⟨hR.2.2.2.2.1, hR.2.2.2.2.2⟩) kk
theorem cO_lE {post : Int64 → S → Prop} (S0 : CF p m c cc nL s args own) (hG : GX G A s) (hA : ∀ q, s.heap.size ≤ q → A q) (h : WX G A s H locs ws) (hl : ls.size = nL) (gw : GoodIn wsL_law (va_wsO own idx C owner x y (WS y ccY nY ret))) {b0 : ByteArray} {m0 : Nat} {r0 : Option FieldType} (h0 : Cond.code ⟨owner, x.name, x.desc⟩ b0 m0 r0 ∈ wsL_law) (hd : owner ≠ "java/lang/invoke/MethodHandle" ∧ owner ≠ "java/lang/invoke/VarHandle" ∧ (parseMethodDescriptor x.desc).map (fun d => d.parameters.length) = some n) (hK : Kl G l y ccY nY ret rmY (.ref b :: As) [] w1 post) (hR : RmOk rmY R nY cells slots) (hn : As.length = n) (ci q0 : Nat) (hc : vwCl[ci]? = some (C, T, N)) (he : ws[q0]? = some (b, .inr (ci, fs))) (hst : st0 = As.reverse ++ .ref b :: rest) (hw : (rest.map fun v => v.category).sum ≤ 8) (hdg : decode cc pc = .ok (.invokevirtual idx, 3))
    (kk : ∀ (r : Int64) (u : S) (H1 : Heap) (locs1 : List Loc), post r u → WX G A s H1 locs1 ws → W p l e R s m args below meth c H1 locs1 cells slots Q (F0 m (pc + 3) ls (.long r :: rest))) : W p l e R s m args below meth c H locs cells slots Q (F0 m pc ls st0) := by
  subst hst
  exact kc_lE hA h (va_runU S0 (hK H.size) (va_cwO n S0.2.2.2.2 gw rfl hR.1 hR.2.1 h0 hd ⟨hR.2.2.1, hR.2.2.2.1⟩) (preV hG h (preE hG hA h) ci q0 hc he) rfl hn hl rfl (lv_room hw) hdg ⟨hR.2.2.2.2.1, hR.2.2.2.2.2⟩) kk
theorem cV_lC {post : Int64 → S → Prop} (S0 : CF p m c cc nL s args own) (hG : GX G A s) (hA : ∀ q, s.heap.size ≤ q → A q) (h : WX G A s H locs ws) (hl : ls.size = nL) (gw : GoodIn wsL_law (wsV own idx C y (WS y ccY nY ret))) (hd : y.cls = C ∧ y.cls ≠ "java/lang/invoke/MethodHandle" ∧ y.cls ≠ "java/lang/invoke/VarHandle" ∧ (parseMethodDescriptor y.desc).map (fun d => d.parameters.length) = some n) (hK : Kl G l y ccY nY ret rmY (.ref b :: As) wc w1 post) (hR : RmOk rmY R nY cells slots) (hn : As.length = n) (ci q0 : Nat) (hc : vwCl[ci]? = some (C, T, N)) (he : ws[q0]? = some (b, .inr (ci, fs))) (isC : List Nat) (hnd : va_nd isC = true) (hC : isC.map (fun i => ws[i]?) = wc.map some) (hC2 : isC.filterMap (fun i => ws[i]?) = wc) (hst : st0 = As.reverse ++ .ref b :: rest) (hw : (rest.map fun v => v.category).sum ≤ 8) (hdg : decode cc pc = .ok (.invokevirtual idx, 3)) (jn : ∀ (u : S) (H1 : Heap), (∀ q : Nat, q < H.size → ¬ va_A wc H.size q → H1[q]? = H[q]?) → va_P G.1 vwCl (w1 u) H1 → va_P G.1 vwCl (w2 u) H1) (hadr : ∀ u, (w2 u).map Prod.fst = ws.map Prod.fst)
    (kk : ∀ (r : Int64) (u : S) (H1 : Heap) (locs1 : List Loc), post r u → WX G A s H1 locs1 (w2 u) → W p l e R s m args below meth c H1 locs1 cells slots Q (F0 m (pc + 3) ls (.long r :: rest))) : W p l e R s m args below meth c H locs cells slots Q (F0 m pc ls st0) := by
  subst hst
  exact kc_lC hA h isC hC (va_runV S0 (hK H.size) (cwV n S0.2.2.2.2 gw rfl hR.1 hR.2.1 hd ⟨hR.2.2.1, hR.2.2.2.1⟩) (preV hG h (preC hG hA h isC hnd hC hC2) ci q0 hc he) rfl hn hl rfl (lv_room hw) hdg ⟨hR.2.2.2.2.1, hR.2.2.2.2.2⟩) jn hadr kk
theorem cN_lC {post : Int64 → S → Prop} (S0 : CF p m c cc nL s args own) (hG : GX G A s) (hA : ∀ q, s.heap.size ≤ q → A q) (h : WX G A s H locs ws) (hl : ls.size = nL) (gw : GoodIn wsL_law (WS y ccY nY ret)) (gi : Cond.initialized y.cls ∈ wsL_law) (gm : Cond.instanceMethod y ∈ wsL_law) (gs : Cond.selects C y y ∈ wsL_law) (gn : Cond.methodLinkNest own idx y host ∈ NW) (hd : y.cls ≠ "java/lang/invoke/MethodHandle" ∧ y.cls ≠ "java/lang/invoke/VarHandle" ∧ (parseMethodDescriptor y.desc).map (fun d => d.parameters.length) = some n) (hK : Kl G l y ccY nY ret rmY (.ref b :: As) wc w1 post) (hR : RmOk rmY R nY cells slots) (hn : As.length = n) (ci q0 : Nat) (hc : vwCl[ci]? = some (C, T, N)) (he : ws[q0]? = some (b, .inr (ci, fs))) (isC : List Nat) (hnd : va_nd isC = true) (hC : isC.map (fun i => ws[i]?) = wc.map some) (hC2 : isC.filterMap (fun i => ws[i]?) = wc) (hst : st0 = As.reverse ++ .ref b :: rest) (hw : (rest.map fun v => v.category).sum ≤ 8) (hdg : decode cc pc = .ok (.invokevirtual idx, 3)) (jn : ∀ (u : S) (H1 : Heap), (∀ q : Nat, q < H.size → ¬ va_A wc H.size q → H1[q]? = H[q]?) → va_P G.1 vwCl (w1 u) H1 → va_P G.1 vwCl (w2 u) H1) (hadr : ∀ u, (w2 u).map Prod.fst = ws.map Prod.fst)
    (kk : ∀ (r : Int64) (u : S) (H1 : Heap) (locs1 : List Loc), post r u → WX G A s H1 locs1 (w2 u) → W p l e R s m args below meth c H1 locs1 cells slots Q (F0 m (pc + 3) ls (.long r :: rest))) : W p l e R s m args below meth c H locs cells slots Q (F0 m pc ls st0) := by
  subst hst
  exact kc_lC hA h isC hC (va_runVN S0 (hK H.size) ⟨va_cnB n S0.2.2.2.2 gw rfl hR.1 hR.2.1 (hG.1 _ gn) (S0.2.2.2.2 _ gi) hd ⟨hR.2.2.1, hR.2.2.2.1⟩, S0.2.2.2.2 _ gm, S0.2.2.2.2 _ gs⟩ (preV hG h (preC hG hA h isC hnd hC hC2) ci q0 hc he) rfl hn hl rfl (lv_room hw) hdg ⟨hR.2.2.2.2.1, hR.2.2.2.2.2⟩) jn hadr kk
theorem cS_lC {post : Int64 → S → Prop} (S0 : CF p m c cc nL s args own) (hG : GX G A s) (hA : ∀ q, s.heap.size ≤ q → A q) (h : WX G A s H locs ws) (hl : ls.size = nL) (gw : GoodIn wsL_law (va_wsS own idx y (WS y ccY nY ret))) (hd : y.cls ≠ "java/lang/invoke/MethodHandle" ∧ y.cls ≠ "java/lang/invoke/VarHandle" ∧ (parseMethodDescriptor y.desc).map (fun d => d.parameters.length) = some n) (hK : Kl G l y ccY nY ret rmY As wc w1 post) (hR : RmOk rmY R nY cells slots) (hn : As.length = n) (isC : List Nat) (hnd : va_nd isC = true) (hC : isC.map (fun i => ws[i]?) = wc.map some) (hC2 : isC.filterMap (fun i => ws[i]?) = wc) (hst : st0 = As.reverse ++ rest) (hw : (rest.map fun v => v.category).sum ≤ 8) (hdg : decode cc pc = .ok (.invokestatic idx, 3)) (jn : ∀ (u : S) (H1 : Heap), (∀ q : Nat, q < H.size → ¬ va_A wc H.size q → H1[q]? = H[q]?) → va_P G.1 vwCl (w1 u) H1 → va_P G.1 vwCl (w2 u) H1) (hadr : ∀ u, (w2 u).map Prod.fst = ws.map Prod.fst)
    (kk : ∀ (r : Int64) (u : S) (H1 : Heap) (locs1 : List Loc), post r u → WX G A s H1 locs1 (w2 u) → W p l e R s m args below meth c H1 locs1 cells slots Q (F0 m (pc + 3) ls (.long r :: rest))) : W p l e R s m args below meth c H locs cells slots Q (F0 m pc ls st0) := by
  subst hst
  exact kc_lC hA h isC hC (va_runS S0 (hK H.size) (va_cwS n S0.2.2.2.2 gw rfl hR.1 hR.2.1 hd ⟨hR.2.2.1, hR.2.2.2.1⟩) (preC hG hA h isC hnd hC hC2) rfl hn hl rfl (lv_room hw) hdg ⟨hR.2.2.2.2.1, hR.2.2.2.2.2⟩) jn hadr kk
theorem cSN_lC {post : Int64 → S → Prop} (S0 : CF p m c cc nL s args own) (hG : GX G A s) (hA : ∀ q, s.heap.size ≤ q → A q) (h : WX G A s H locs ws) (hl : ls.size = nL) (gw : GoodIn wsL_law (WS y ccY nY ret)) (gi : Cond.initialized y.cls ∈ wsL_law) (gm : Cond.static y ∈ wsL_law) (gn : Cond.methodLinkNest own idx y host ∈ NW) (hd : y.cls ≠ "java/lang/invoke/MethodHandle" ∧ y.cls ≠ "java/lang/invoke/VarHandle" ∧ (parseMethodDescriptor y.desc).map (fun d => d.parameters.length) = some n) (hK : Kl G l y ccY nY ret rmY As wc w1 post) (hR : RmOk rmY R nY cells slots) (hn : As.length = n) (isC : List Nat) (hnd : va_nd isC = true) (hC : isC.map (fun i => ws[i]?) = wc.map some) (hC2 : isC.filterMap (fun i => ws[i]?) = wc) (hst : st0 = As.reverse ++ rest) (hw : (rest.map fun v => v.category).sum ≤ 8) (hdg : decode cc pc = .ok (.invokestatic idx, 3)) (jn : ∀ (u : S) (H1 : Heap), (∀ q : Nat, q < H.size → ¬ va_A wc H.size q → H1[q]? = H[q]?) → va_P G.1 vwCl (w1 u) H1 → va_P G.1 vwCl (w2 u) H1) (hadr : ∀ u, (w2 u).map Prod.fst = ws.map Prod.fst)
    (kk : ∀ (r : Int64) (u : S) (H1 : Heap) (locs1 : List Loc), post r u → WX G A s H1 locs1 (w2 u) → W p l e R s m args below meth c H1 locs1 cells slots Q (F0 m (pc + 3) ls (.long r :: rest))) : W p l e R s m args below meth c H locs cells slots Q (F0 m pc ls st0) := by
  subst hst
  exact kc_lC hA h isC hC (va_runSN S0 (hK H.size) ⟨va_cnB n S0.2.2.2.2 gw rfl hR.1 hR.2.1 (hG.1 _ gn) (S0.2.2.2.2 _ gi) hd ⟨hR.2.2.1, hR.2.2.2.1⟩, S0.2.2.2.2 _ gm, trivial⟩ (preC hG hA h isC hnd hC hC2) rfl hn hl rfl (lv_room hw) hdg ⟨hR.2.2.2.2.1, hR.2.2.2.2.2⟩) jn hadr kk
theorem cU_lC {post : Int64 → S → Prop} (S0 : CF p m c cc nL s args own) (hG : GX G A s) (hA : ∀ q, s.heap.size ≤ q → A q) (h : WX G A s H locs ws) (hl : ls.size = nL) (gw : GoodIn wsL_law (va_wsU own idx C owner x y (WS y ccY nY ret))) (hyx : y = ⟨owner, x.name, x.desc⟩) (hd : owner ≠ "java/lang/invoke/MethodHandle" ∧ owner ≠ "java/lang/invoke/VarHandle" ∧ (parseMethodDescriptor x.desc).map (fun d => d.parameters.length) = some n) (hK : Kl G l y ccY nY ret rmY (.ref b :: As) wc w1 post) (hR : RmOk rmY R nY cells slots) (hn : As.length = n) (ci q0 : Nat) (hc : vwCl[ci]? = some (C, T, N)) (he : ws[q0]? = some (b, .inr (ci, fs))) (isC : List Nat) (hnd : va_nd isC = true) (hC : isC.map (fun i => ws[i]?) = wc.map some) (hC2 : isC.filterMap (fun i => ws[i]?) = wc) (hst : st0 = As.reverse ++ .ref b :: rest) (hw : (rest.map fun v => v.category).sum ≤ 8) (hdg : decode cc pc = .ok (.invokevirtual idx, 3)) (jn : ∀ (u : S) (H1 : Heap), (∀ q : Nat, q < H.size → ¬ va_A wc H.size q → H1[q]? = H[q]?) → va_P G.1 vwCl (w1 u) H1 → va_P G.1 vwCl (w2 u) H1) (hadr : ∀ u, (w2 u).map Prod.fst = ws.map Prod.fst)
    (kk : ∀ (r : Int64) (u : S) (H1 : Heap) (locs1 : List Loc), post r u → WX G A s H1 locs1 (w2 u) → W p l e R s m args below meth c H1 locs1 cells slots Q (F0 m (pc + 3) ls (.long r :: rest))) : W p l e R s m args below meth c H locs cells slots Q (F0 m pc ls st0) := by
  subst hst
  exact kc_lC hA h isC hC (va_runU S0 (hK H.size) (va_cwU n S0.2.2.2.2 gw rfl hR.1 hR.2.1 hyx hd ⟨hR.2.2.1, hR.2.2.2.1⟩) (preV hG h (preC hG hA h isC hnd hC hC2) ci q0 hc he) rfl hn hl rfl (lv_room hw) hdg ⟨hR.2.2.2.2.1, hR.2.2.2.2.2⟩) jn hadr kk
theorem cO_lC {post : Int64 → S → Prop} (S0 : CF p m c cc nL s args own) (hG : GX G A s) (hA : ∀ q, s.heap.size ≤ q → A q) (h : WX G A s H locs ws) (hl : ls.size = nL) (gw : GoodIn wsL_law (va_wsO own idx C owner x y (WS y ccY nY ret))) {b0 : ByteArray} {m0 : Nat} {r0 : Option FieldType} (h0 : Cond.code ⟨owner, x.name, x.desc⟩ b0 m0 r0 ∈ wsL_law) (hd : owner ≠ "java/lang/invoke/MethodHandle" ∧ owner ≠ "java/lang/invoke/VarHandle" ∧ (parseMethodDescriptor x.desc).map (fun d => d.parameters.length) = some n) (hK : Kl G l y ccY nY ret rmY (.ref b :: As) wc w1 post) (hR : RmOk rmY R nY cells slots) (hn : As.length = n) (ci q0 : Nat) (hc : vwCl[ci]? = some (C, T, N)) (he : ws[q0]? = some (b, .inr (ci, fs))) (isC : List Nat) (hnd : va_nd isC = true) (hC : isC.map (fun i => ws[i]?) = wc.map some) (hC2 : isC.filterMap (fun i => ws[i]?) = wc) (hst : st0 = As.reverse ++ .ref b :: rest) (hw : (rest.map fun v => v.category).sum ≤ 8) (hdg : decode cc pc = .ok (.invokevirtual idx, 3)) (jn : ∀ (u : S) (H1 : Heap), (∀ q : Nat, q < H.size → ¬ va_A wc H.size q → H1[q]? = H[q]?) → va_P G.1 vwCl (w1 u) H1 → va_P G.1 vwCl (w2 u) H1) (hadr : ∀ u, (w2 u).map Prod.fst = ws.map Prod.fst)
    (kk : ∀ (r : Int64) (u : S) (H1 : Heap) (locs1 : List Loc), post r u → WX G A s H1 locs1 (w2 u) → W p l e R s m args below meth c H1 locs1 cells slots Q (F0 m (pc + 3) ls (.long r :: rest))) : W p l e R s m args below meth c H locs cells slots Q (F0 m pc ls st0) := by
  subst hst
  exact kc_lC hA h isC hC (va_runU S0 (hK H.size) (va_cwO n S0.2.2.2.2 gw rfl hR.1 hR.2.1 h0 hd ⟨hR.2.2.1, hR.2.2.2.1⟩) (preV hG h (preC hG hA h isC hnd hC hC2) ci q0 hc he) rfl hn hl rfl (lv_room hw) hdg ⟨hR.2.2.2.2.1, hR.2.2.2.2.2⟩) jn hadr kk
theorem cV_v0 {post : S → Prop} (S0 : CF p m c cc nL s args own) (hG : GX G A s) (hA : ∀ q, s.heap.size ≤ q → A q) (h : WX G A s H locs ws) (hl : ls.size = nL) (gw : GoodIn wsL_law (wsV own idx C y (WS y ccY nY ret))) (hd : y.cls = C ∧ y.cls ≠ "java/lang/invoke/MethodHandle" ∧ y.cls ≠ "java/lang/invoke/VarHandle" ∧ (parseMethodDescriptor y.desc).map (fun d => d.parameters.length) = some n) (hK : Kv G l y ccY nY ret rmY (.ref b :: As) ws w1 post) (hR : RmOk rmY R nY cells slots) (hn : As.length = n) (ci q0 : Nat) (hc : vwCl[ci]? = some (C, T, N)) (he : ws[q0]? = some (b, .inr (ci, fs))) (hst : st0 = As.reverse ++ .ref b :: rest) (hw : (rest.map fun v => v.category).sum ≤ 8) (hdg : decode cc pc = .ok (.invokevirtual idx, 3)) (hadr : ∀ u, (w1 u).map Prod.fst = ws.map Prod.fst)
    (kk : ∀ (u : S) (H1 : Heap) (locs1 : List Loc), post u → WX G A s H1 locs1 (w1 u) → W p l e R s m args below meth c H1 locs1 cells slots Q (F0 m (pc + 3) ls rest)) : W p l e R s m args below meth c H locs cells slots Q (F0 m pc ls st0) := by
  subst hst
  exact kc_v0 hA h (va_runV S0 (hK H.size) (cwV n S0.2.2.2.2 gw rfl hR.1 hR.2.1 hd ⟨hR.2.2.1, hR.2.2.2.1⟩) (preV hG h (pre0 hG hA h) ci q0 hc he) rfl hn hl rfl (lv_room hw) hdg ⟨hR.2.2.2.2.1, hR.2.2.2.2.2⟩) hadr kk
theorem cN_v0 {post : S → Prop} (S0 : CF p m c cc nL s args own) (hG : GX G A s) (hA : ∀ q, s.heap.size ≤ q → A q) (h : WX G A s H locs ws) (hl : ls.size = nL) (gw : GoodIn wsL_law (WS y ccY nY ret)) (gi : Cond.initialized y.cls ∈ wsL_law) (gm : Cond.instanceMethod y ∈ wsL_law) (gs : Cond.selects C y y ∈ wsL_law) (gn : Cond.methodLinkNest own idx y host ∈ NW) (hd : y.cls ≠ "java/lang/invoke/MethodHandle" ∧ y.cls ≠ "java/lang/invoke/VarHandle" ∧ (parseMethodDescriptor y.desc).map (fun d => d.parameters.length) = some n) (hK : Kv G l y ccY nY ret rmY (.ref b :: As) ws w1 post) (hR : RmOk rmY R nY cells slots) (hn : As.length = n) (ci q0 : Nat) (hc : vwCl[ci]? = some (C, T, N)) (he : ws[q0]? = some (b, .inr (ci, fs))) (hst : st0 = As.reverse ++ .ref b :: rest) (hw : (rest.map fun v => v.category).sum ≤ 8) (hdg : decode cc pc = .ok (.invokevirtual idx, 3)) (hadr : ∀ u, (w1 u).map Prod.fst = ws.map Prod.fst)
    (kk : ∀ (u : S) (H1 : Heap) (locs1 : List Loc), post u → WX G A s H1 locs1 (w1 u) → W p l e R s m args below meth c H1 locs1 cells slots Q (F0 m (pc + 3) ls rest)) : W p l e R s m args below meth c H locs cells slots Q (F0 m pc ls st0) := by
  subst hst
  exact kc_v0 hA h (va_runVN S0 (hK H.size) ⟨va_cnB n S0.2.2.2.2 gw rfl hR.1 hR.2.1 (hG.1 _ gn) (S0.2.2.2.2 _ gi) hd ⟨hR.2.2.1, hR.2.2.2.1⟩, S0.2.2.2.2 _ gm, S0.2.2.2.2 _ gs⟩ (preV hG h (pre0 hG hA h) ci q0 hc he) rfl hn hl rfl (lv_room hw) hdg ⟨hR.2.2.2.2.1, hR.2.2.2.2.2⟩) hadr kk
theorem cS_v0 {post : S → Prop} (S0 : CF p m c cc nL s args own) (hG : GX G A s) (hA : ∀ q, s.heap.size ≤ q → A q) (h : WX G A s H locs ws) (hl : ls.size = nL) (gw : GoodIn wsL_law (va_wsS own idx y (WS y ccY nY ret))) (hd : y.cls ≠ "java/lang/invoke/MethodHandle" ∧ y.cls ≠ "java/lang/invoke/VarHandle" ∧ (parseMethodDescriptor y.desc).map (fun d => d.parameters.length) = some n) (hK : Kv G l y ccY nY ret rmY As ws w1 post) (hR : RmOk rmY R nY cells slots) (hn : As.length = n) (hst : st0 = As.reverse ++ rest) (hw : (rest.map fun v => v.category).sum ≤ 8) (hdg : decode cc pc = .ok (.invokestatic idx, 3)) (hadr : ∀ u, (w1 u).map Prod.fst = ws.map Prod.fst)
    (kk : ∀ (u : S) (H1 : Heap) (locs1 : List Loc), post u → WX G A s H1 locs1 (w1 u) → W p l e R s m args below meth c H1 locs1 cells slots Q (F0 m (pc + 3) ls rest)) : W p l e R s m args below meth c H locs cells slots Q (F0 m pc ls st0) := by
  subst hst
  exact kc_v0 hA h (va_runS S0 (hK H.size) (va_cwS n S0.2.2.2.2 gw rfl hR.1 hR.2.1 hd ⟨hR.2.2.1, hR.2.2.2.1⟩) (pre0 hG hA h) rfl hn hl rfl (lv_room hw) hdg ⟨hR.2.2.2.2.1, hR.2.2.2.2.2⟩) hadr kk
theorem cSN_v0 {post : S → Prop} (S0 : CF p m c cc nL s args own) (hG : GX G A s) (hA : ∀ q, s.heap.size ≤ q → A q) (h : WX G A s H locs ws) (hl : ls.size = nL) (gw : GoodIn wsL_law (WS y ccY nY ret)) (gi : Cond.initialized y.cls ∈ wsL_law) (gm : Cond.static y ∈ wsL_law) (gn : Cond.methodLinkNest own idx y host ∈ NW) (hd : y.cls ≠ "java/lang/invoke/MethodHandle" ∧ y.cls ≠ "java/lang/invoke/VarHandle" ∧ (parseMethodDescriptor y.desc).map (fun d => d.parameters.length) = some n) (hK : Kv G l y ccY nY ret rmY As ws w1 post) (hR : RmOk rmY R nY cells slots) (hn : As.length = n) (hst : st0 = As.reverse ++ rest) (hw : (rest.map fun v => v.category).sum ≤ 8) (hdg : decode cc pc = .ok (.invokestatic idx, 3)) (hadr : ∀ u, (w1 u).map Prod.fst = ws.map Prod.fst)
    (kk : ∀ (u : S) (H1 : Heap) (locs1 : List Loc), post u → WX G A s H1 locs1 (w1 u) → W p l e R s m args below meth c H1 locs1 cells slots Q (F0 m (pc + 3) ls rest)) : W p l e R s m args below meth c H locs cells slots Q (F0 m pc ls st0) := by
  subst hst
  exact kc_v0 hA h (va_runSN S0 (hK H.size) ⟨va_cnB n S0.2.2.2.2 gw rfl hR.1 hR.2.1 (hG.1 _ gn) (S0.2.2.2.2 _ gi) hd ⟨hR.2.2.1, hR.2.2.2.1⟩, S0.2.2.2.2 _ gm, trivial⟩ (pre0 hG hA h) rfl hn hl rfl (lv_room hw) hdg ⟨hR.2.2.2.2.1, hR.2.2.2.2.2⟩) hadr kk
theorem cSU_v0 {post : S → Prop} (S0 : CF p m c cc nL s args own) (hG : GX G A s) (hA : ∀ q, s.heap.size ≤ q → A q) (h : WX G A s H locs ws) (hl : ls.size = nL) (gw : GoodIn wsL_law (va_wsSU own idx y (WS y ccY nY ret))) (hd : y.name ≠ "<init>" ∧ (parseMethodDescriptor y.desc).map (fun d => d.parameters.length) = some n) (hK : Kv G l y ccY nY ret rmY (.ref b :: As) ws w1 post) (hR : RmOk rmY R nY cells slots) (hn : As.length = n) (ci q0 : Nat) (hc : vwCl[ci]? = some (C, T, N)) (he : ws[q0]? = some (b, .inr (ci, fs))) (hst : st0 = As.reverse ++ .ref b :: rest) (hw : (rest.map fun v => v.category).sum ≤ 8) (hdg : decode cc pc = .ok (.invokespecial idx, 3)) (hadr : ∀ u, (w1 u).map Prod.fst = ws.map Prod.fst)
    (kk : ∀ (u : S) (H1 : Heap) (locs1 : List Loc), post u → WX G A s H1 locs1 (w1 u) → W p l e R s m args below meth c H1 locs1 cells slots Q (F0 m (pc + 3) ls rest)) : W p l e R s m args below meth c H locs cells slots Q (F0 m pc ls st0) := by
  subst hst
  exact kc_v0 hA h (va_runSU (hG.2.2.1.1 ci _ hc).2 S0 (hK H.size) (va_cwSU n S0.2.2.2.2 gw rfl hR.1 hR.2.1 hd ⟨hR.2.2.1, hR.2.2.2.1⟩) (preV hG h (pre0 hG hA h) ci q0 hc he) rfl hn hl rfl (lv_room hw) hdg ⟨hR.2.2.2.2.1, hR.2.2.2.2.2⟩) hadr kk
theorem cU_v0 {post : S → Prop} (S0 : CF p m c cc nL s args own) (hG : GX G A s) (hA : ∀ q, s.heap.size ≤ q → A q) (h : WX G A s H locs ws) (hl : ls.size = nL) (gw : GoodIn wsL_law (va_wsU own idx C owner x y (WS y ccY nY ret))) (hyx : y = ⟨owner, x.name, x.desc⟩) (hd : owner ≠ "java/lang/invoke/MethodHandle" ∧ owner ≠ "java/lang/invoke/VarHandle" ∧ (parseMethodDescriptor x.desc).map (fun d => d.parameters.length) = some n) (hK : Kv G l y ccY nY ret rmY (.ref b :: As) ws w1 post) (hR : RmOk rmY R nY cells slots) (hn : As.length = n) (ci q0 : Nat) (hc : vwCl[ci]? = some (C, T, N)) (he : ws[q0]? = some (b, .inr (ci, fs))) (hst : st0 = As.reverse ++ .ref b :: rest) (hw : (rest.map fun v => v.category).sum ≤ 8) (hdg : decode cc pc = .ok (.invokevirtual idx, 3)) (hadr : ∀ u, (w1 u).map Prod.fst = ws.map Prod.fst)
    (kk : ∀ (u : S) (H1 : Heap) (locs1 : List Loc), post u → WX G A s H1 locs1 (w1 u) → W p l e R s m args below meth c H1 locs1 cells slots Q (F0 m (pc + 3) ls rest)) : W p l e R s m args below meth c H locs cells slots Q (F0 m pc ls st0) := by
  subst hst
  exact kc_v0 hA h (va_runU S0 (hK H.size) (va_cwU n S0.2.2.2.2 gw rfl hR.1 hR.2.1 hyx hd ⟨hR.2.2.1, hR.2.2.2.1⟩) (preV hG h (pre0 hG hA h) ci q0 hc he) rfl hn hl rfl (lv_room hw) hdg ⟨hR.2.2.2.2.1, hR.2.2.2.2.2⟩) hadr kk
theorem cO_v0 {post : S → Prop} (S0 : CF p m c cc nL s args own) (hG : GX G A s) (hA : ∀ q, s.heap.size ≤ q → A q) (h : WX G A s H locs ws) (hl : ls.size = nL) (gw : GoodIn wsL_law (va_wsO own idx C owner x y (WS y ccY nY ret))) {b0 : ByteArray} {m0 : Nat} {r0 : Option FieldType} (h0 : Cond.code ⟨owner, x.name, x.desc⟩ b0 m0 r0 ∈ wsL_law) (hd : owner ≠ "java/lang/invoke/MethodHandle" ∧ owner ≠ "java/lang/invoke/VarHandle" ∧ (parseMethodDescriptor x.desc).map (fun d => d.parameters.length) = some n) (hK : Kv G l y ccY nY ret rmY (.ref b :: As) ws w1 post) (hR : RmOk rmY R nY cells slots) (hn : As.length = n) (ci q0 : Nat) (hc : vwCl[ci]? = some (C, T, N)) (he : ws[q0]? = some (b, .inr (ci, fs))) (hst : st0 = As.reverse ++ .ref b :: rest) (hw : (rest.map fun v => v.category).sum ≤ 8) (hdg : decode cc pc = .ok (.invokevirtual idx, 3)) (hadr : ∀ u, (w1 u).map Prod.fst = ws.map Prod.fst)
    (kk : ∀ (u : S) (H1 : Heap) (locs1 : List Loc), post u → WX G A s H1 locs1 (w1 u) → W p l e R s m args below meth c H1 locs1 cells slots Q (F0 m (pc + 3) ls rest)) : W p l e R s m args below meth c H locs cells slots Q (F0 m pc ls st0) := by
  subst hst
  exact kc_v0 hA h (va_runU S0 (hK H.size) (va_cwO n S0.2.2.2.2 gw rfl hR.1 hR.2.1 h0 hd ⟨hR.2.2.1, hR.2.2.2.1⟩) (preV hG h (pre0 hG hA h) ci q0 hc he) rfl hn hl rfl (lv_room hw) hdg ⟨hR.2.2.2.2.1, hR.2.2.2.2.2⟩) hadr kk
theorem cV_vE {post : S → Prop} (S0 : CF p m c cc nL s args own) (hG : GX G A s) (hA : ∀ q, s.heap.size ≤ q → A q) (h : WX G A s H locs ws) (hl : ls.size = nL) (gw : GoodIn wsL_law (wsV own idx C y (WS y ccY nY ret))) (hd : y.cls = C ∧ y.cls ≠ "java/lang/invoke/MethodHandle" ∧ y.cls ≠ "java/lang/invoke/VarHandle" ∧ (parseMethodDescriptor y.desc).map (fun d => d.parameters.length) = some n) (hK : Kv G l y ccY nY ret rmY (.ref b :: As) [] w1 post) (hR : RmOk rmY R nY cells slots) (hn : As.length = n) (ci q0 : Nat) (hc : vwCl[ci]? = some (C, T, N)) (he : ws[q0]? = some (b, .inr (ci, fs))) (hst : st0 = As.reverse ++ .ref b :: rest) (hw : (rest.map fun v => v.category).sum ≤ 8) (hdg : decode cc pc = .ok (.invokevirtual idx, 3))
    (kk : ∀ (u : S) (H1 : Heap) (locs1 : List Loc), post u → WX G A s H1 locs1 ws → W p l e R s m args below meth c H1 locs1 cells slots Q (F0 m (pc + 3) ls rest)) : W p l e R s m args below meth c H locs cells slots Q (F0 m pc ls st0) := by
  subst hst
  exact kc_vE hA h (va_runV S0 (hK H.size) (cwV n S0.2.2.2.2 gw rfl hR.1 hR.2.1 hd ⟨hR.2.2.1, hR.2.2.2.1⟩) (preV hG h (preE hG hA h) ci q0 hc he) rfl hn hl rfl (lv_room hw) hdg ⟨hR.2.2.2.2.1, hR.2.2.2.2.2⟩) kk
theorem cN_vE {post : S → Prop} (S0 : CF p m c cc nL s args own) (hG : GX G A s) (hA : ∀ q, s.heap.size ≤ q → A q) (h : WX G A s H locs ws) (hl : ls.size = nL) (gw : GoodIn wsL_law (WS y ccY nY ret)) (gi : Cond.initialized y.cls ∈ wsL_law) (gm : Cond.instanceMethod y ∈ wsL_law) (gs : Cond.selects C y y ∈ wsL_law) (gn : Cond.methodLinkNest own idx y host ∈ NW) (hd : y.cls ≠ "java/lang/invoke/MethodHandle" ∧ y.cls ≠ "java/lang/invoke/VarHandle" ∧ (parseMethodDescriptor y.desc).map (fun d => d.parameters.length) = some n) (hK : Kv G l y ccY nY ret rmY (.ref b :: As) [] w1 post) (hR : RmOk rmY R nY cells slots) (hn : As.length = n) (ci q0 : Nat) (hc : vwCl[ci]? = some (C, T, N)) (he : ws[q0]? = some (b, .inr (ci, fs))) (hst : st0 = As.reverse ++ .ref b :: rest) (hw : (rest.map fun v => v.category).sum ≤ 8) (hdg : decode cc pc = .ok (.invokevirtual idx, 3))
    (kk : ∀ (u : S) (H1 : Heap) (locs1 : List Loc), post u → WX G A s H1 locs1 ws → W p l e R s m args below meth c H1 locs1 cells slots Q (F0 m (pc + 3) ls rest)) : W p l e R s m args below meth c H locs cells slots Q (F0 m pc ls st0) := by
  subst hst
  exact kc_vE hA h (va_runVN S0 (hK H.size) ⟨va_cnB n S0.2.2.2.2 gw rfl hR.1 hR.2.1 (hG.1 _ gn) (S0.2.2.2.2 _ gi) hd ⟨hR.2.2.1, hR.2.2.2.1⟩, S0.2.2.2.2 _ gm, S0.2.2.2.2 _ gs⟩ (preV hG h (preE hG hA h) ci q0 hc he) rfl hn hl rfl (lv_room hw) hdg ⟨hR.2.2.2.2.1, hR.2.2.2.2.2⟩) kk
theorem cS_vE {post : S → Prop} (S0 : CF p m c cc nL s args own) (hG : GX G A s) (hA : ∀ q, s.heap.size ≤ q → A q) (h : WX G A s H locs ws) (hl : ls.size = nL) (gw : GoodIn wsL_law (va_wsS own idx y (WS y ccY nY ret))) (hd : y.cls ≠ "java/lang/invoke/MethodHandle" ∧ y.cls ≠ "java/lang/invoke/VarHandle" ∧ (parseMethodDescriptor y.desc).map (fun d => d.parameters.length) = some n) (hK : Kv G l y ccY nY ret rmY As [] w1 post) (hR : RmOk rmY R nY cells slots) (hn : As.length = n) (hst : st0 = As.reverse ++ rest) (hw : (rest.map fun v => v.category).sum ≤ 8) (hdg : decode cc pc = .ok (.invokestatic idx, 3))
    (kk : ∀ (u : S) (H1 : Heap) (locs1 : List Loc), post u → WX G A s H1 locs1 ws → W p l e R s m args below meth c H1 locs1 cells slots Q (F0 m (pc + 3) ls rest)) : W p l e R s m args below meth c H locs cells slots Q (F0 m pc ls st0) := by
  subst hst
  exact kc_vE hA h (va_runS S0 (hK H.size) (va_cwS n S0.2.2.2.2 gw rfl hR.1 hR.2.1 hd ⟨hR.2.2.1, hR.2.2.2.1⟩) (preE hG hA h) rfl hn hl rfl (lv_room hw) hdg ⟨hR.2.2.2.2.1, hR.2.2.2.2.2⟩) kk
theorem cSN_vE {post : S → Prop} (S0 : CF p m c cc nL s args own) (hG : GX G A s) (hA : ∀ q, s.heap.size ≤ q → A q) (h : WX G A s H locs ws) (hl : ls.size = nL) (gw : GoodIn wsL_law (WS y ccY nY ret)) (gi : Cond.initialized y.cls ∈ wsL_law) (gm : Cond.static y ∈ wsL_law) (gn : Cond.methodLinkNest own idx y host ∈ NW) (hd : y.cls ≠ "java/lang/invoke/MethodHandle" ∧ y.cls ≠ "java/lang/invoke/VarHandle" ∧ (parseMethodDescriptor y.desc).map (fun d => d.parameters.length) = some n) (hK : Kv G l y ccY nY ret rmY As [] w1 post) (hR : RmOk rmY R nY cells slots) (hn : As.length = n) (hst : st0 = As.reverse ++ rest) (hw : (rest.map fun v => v.category).sum ≤ 8) (hdg : decode cc pc = .ok (.invokestatic idx, 3))
    (kk : ∀ (u : S) (H1 : Heap) (locs1 : List Loc), post u → WX G A s H1 locs1 ws → W p l e R s m args below meth c H1 locs1 cells slots Q (F0 m (pc + 3) ls rest)) : W p l e R s m args below meth c H locs cells slots Q (F0 m pc ls st0) := by
  subst hst
  exact kc_vE hA h (va_runSN S0 (hK H.size) ⟨va_cnB n S0.2.2.2.2 gw rfl hR.1 hR.2.1 (hG.1 _ gn) (S0.2.2.2.2 _ gi) hd ⟨hR.2.2.1, hR.2.2.2.1⟩, S0.2.2.2.2 _ gm, trivial⟩ (preE hG hA h) rfl hn hl rfl (lv_room hw) hdg ⟨hR.2.2.2.2.1, hR.2.2.2.2.2⟩) kk
theorem cU_vE {post : S → Prop} (S0 : CF p m c cc nL s args own) (hG : GX G A s) (hA : ∀ q, s.heap.size ≤ q → A q) (h : WX G A s H locs ws) (hl : ls.size = nL) (gw : GoodIn wsL_law (va_wsU own idx C owner x y (WS y ccY nY ret))) (hyx : y = ⟨owner, x.name, x.desc⟩) (hd : owner ≠ "java/lang/invoke/MethodHandle" ∧ owner ≠ "java/lang/invoke/VarHandle" ∧ (parseMethodDescriptor x.desc).map (fun d => d.parameters.length) = some n) (hK : Kv G l y ccY nY ret rmY (.ref b :: As) [] w1 post) (hR : RmOk rmY R nY cells slots) (hn : As.length = n) (ci q0 : Nat) (hc : vwCl[ci]? = some (C, T, N)) (he : ws[q0]? = some (b, .inr (ci, fs))) (hst : st0 = As.reverse ++ .ref b :: rest) (hw : (rest.map fun v => v.category).sum ≤ 8) (hdg : decode cc pc = .ok (.invokevirtual idx, 3))
    (kk : ∀ (u : S) (H1 : Heap) (locs1 : List Loc), post u → WX G A s H1 locs1 ws → W p l e R s m args below meth c H1 locs1 cells slots Q (F0 m (pc + 3) ls rest)) : W p l e R s m args below meth c H locs cells slots Q (F0 m pc ls st0) := by
  subst hst
  exact kc_vE hA h (va_runU S0 (hK H.size) (va_cwU n S0.2.2.2.2 gw rfl hR.1 hR.2.1 hyx hd ⟨hR.2.2.1, hR.2.2.2.1⟩) (preV hG h (preE hG hA h) ci q0 hc he) rfl hn hl rfl (lv_room hw) hdg ⟨hR.2.2.2.2.1, hR.2.2.2.2.2⟩) kk
theorem cO_vE {post : S → Prop} (S0 : CF p m c cc nL s args own) (hG : GX G A s) (hA : ∀ q, s.heap.size ≤ q → A q) (h : WX G A s H locs ws) (hl : ls.size = nL) (gw : GoodIn wsL_law (va_wsO own idx C owner x y (WS y ccY nY ret))) {b0 : ByteArray} {m0 : Nat} {r0 : Option FieldType} (h0 : Cond.code ⟨owner, x.name, x.desc⟩ b0 m0 r0 ∈ wsL_law) (hd : owner ≠ "java/lang/invoke/MethodHandle" ∧ owner ≠ "java/lang/invoke/VarHandle" ∧ (parseMethodDescriptor x.desc).map (fun d => d.parameters.length) = some n) (hK : Kv G l y ccY nY ret rmY (.ref b :: As) [] w1 post) (hR : RmOk rmY R nY cells slots) (hn : As.length = n) (ci q0 : Nat) (hc : vwCl[ci]? = some (C, T, N)) (he : ws[q0]? = some (b, .inr (ci, fs))) (hst : st0 = As.reverse ++ .ref b :: rest) (hw : (rest.map fun v => v.category).sum ≤ 8) (hdg : decode cc pc = .ok (.invokevirtual idx, 3))
    (kk : ∀ (u : S) (H1 : Heap) (locs1 : List Loc), post u → WX G A s H1 locs1 ws → W p l e R s m args below meth c H1 locs1 cells slots Q (F0 m (pc + 3) ls rest)) : W p l e R s m args below meth c H locs cells slots Q (F0 m pc ls st0) := by
  subst hst
  exact kc_vE hA h (va_runU S0 (hK H.size) (va_cwO n S0.2.2.2.2 gw rfl hR.1 hR.2.1 h0 hd ⟨hR.2.2.1, hR.2.2.2.1⟩) (preV hG h (preE hG hA h) ci q0 hc he) rfl hn hl rfl (lv_room hw) hdg ⟨hR.2.2.2.2.1, hR.2.2.2.2.2⟩) kk
theorem cV_vC {post : S → Prop} (S0 : CF p m c cc nL s args own) (hG : GX G A s) (hA : ∀ q, s.heap.size ≤ q → A q) (h : WX G A s H locs ws) (hl : ls.size = nL) (gw : GoodIn wsL_law (wsV own idx C y (WS y ccY nY ret))) (hd : y.cls = C ∧ y.cls ≠ "java/lang/invoke/MethodHandle" ∧ y.cls ≠ "java/lang/invoke/VarHandle" ∧ (parseMethodDescriptor y.desc).map (fun d => d.parameters.length) = some n) (hK : Kv G l y ccY nY ret rmY (.ref b :: As) wc w1 post) (hR : RmOk rmY R nY cells slots) (hn : As.length = n) (ci q0 : Nat) (hc : vwCl[ci]? = some (C, T, N)) (he : ws[q0]? = some (b, .inr (ci, fs))) (isC : List Nat) (hnd : va_nd isC = true) (hC : isC.map (fun i => ws[i]?) = wc.map some) (hC2 : isC.filterMap (fun i => ws[i]?) = wc) (hst : st0 = As.reverse ++ .ref b :: rest) (hw : (rest.map fun v => v.category).sum ≤ 8) (hdg : decode cc pc = .ok (.invokevirtual idx, 3)) (jn : ∀ (u : S) (H1 : Heap), (∀ q : Nat, q < H.size → ¬ va_A wc H.size q → H1[q]? = H[q]?) → va_P G.1 vwCl (w1 u) H1 → va_P G.1 vwCl (w2 u) H1) (hadr : ∀ u, (w2 u).map Prod.fst = ws.map Prod.fst)
    (kk : ∀ (u : S) (H1 : Heap) (locs1 : List Loc), post u → WX G A s H1 locs1 (w2 u) → W p l e R s m args below meth c H1 locs1 cells slots Q (F0 m (pc + 3) ls rest)) : W p l e R s m args below meth c H locs cells slots Q (F0 m pc ls st0) := by
  subst hst
  exact kc_vC hA h isC hC (va_runV S0 (hK H.size) (cwV n S0.2.2.2.2 gw rfl hR.1 hR.2.1 hd ⟨hR.2.2.1, hR.2.2.2.1⟩) (preV hG h (preC hG hA h isC hnd hC hC2) ci q0 hc he) rfl hn hl rfl (lv_room hw) hdg ⟨hR.2.2.2.2.1, hR.2.2.2.2.2⟩) jn hadr kk
theorem cN_vC {post : S → Prop} (S0 : CF p m c cc nL s args own) (hG : GX G A s) (hA : ∀ q, s.heap.size ≤ q → A q) (h : WX G A s H locs ws) (hl : ls.size = nL) (gw : GoodIn wsL_law (WS y ccY nY ret)) (gi : Cond.initialized y.cls ∈ wsL_law) (gm : Cond.instanceMethod y ∈ wsL_law) (gs : Cond.selects C y y ∈ wsL_law) (gn : Cond.methodLinkNest own idx y host ∈ NW) (hd : y.cls ≠ "java/lang/invoke/MethodHandle" ∧ y.cls ≠ "java/lang/invoke/VarHandle" ∧ (parseMethodDescriptor y.desc).map (fun d => d.parameters.length) = some n) (hK : Kv G l y ccY nY ret rmY (.ref b :: As) wc w1 post) (hR : RmOk rmY R nY cells slots) (hn : As.length = n) (ci q0 : Nat) (hc : vwCl[ci]? = some (C, T, N)) (he : ws[q0]? = some (b, .inr (ci, fs))) (isC : List Nat) (hnd : va_nd isC = true) (hC : isC.map (fun i => ws[i]?) = wc.map some) (hC2 : isC.filterMap (fun i => ws[i]?) = wc) (hst : st0 = As.reverse ++ .ref b :: rest) (hw : (rest.map fun v => v.category).sum ≤ 8) (hdg : decode cc pc = .ok (.invokevirtual idx, 3)) (jn : ∀ (u : S) (H1 : Heap), (∀ q : Nat, q < H.size → ¬ va_A wc H.size q → H1[q]? = H[q]?) → va_P G.1 vwCl (w1 u) H1 → va_P G.1 vwCl (w2 u) H1) (hadr : ∀ u, (w2 u).map Prod.fst = ws.map Prod.fst)
    (kk : ∀ (u : S) (H1 : Heap) (locs1 : List Loc), post u → WX G A s H1 locs1 (w2 u) → W p l e R s m args below meth c H1 locs1 cells slots Q (F0 m (pc + 3) ls rest)) : W p l e R s m args below meth c H locs cells slots Q (F0 m pc ls st0) := by
  subst hst
  exact kc_vC hA h isC hC (va_runVN S0 (hK H.size) ⟨va_cnB n S0.2.2.2.2 gw rfl hR.1 hR.2.1 (hG.1 _ gn) (S0.2.2.2.2 _ gi) hd ⟨hR.2.2.1, hR.2.2.2.1⟩, S0.2.2.2.2 _ gm, S0.2.2.2.2 _ gs⟩ (preV hG h (preC hG hA h isC hnd hC hC2) ci q0 hc he) rfl hn hl rfl (lv_room hw) hdg ⟨hR.2.2.2.2.1, hR.2.2.2.2.2⟩) jn hadr kk
theorem cS_vC {post : S → Prop} (S0 : CF p m c cc nL s args own) (hG : GX G A s) (hA : ∀ q, s.heap.size ≤ q → A q) (h : WX G A s H locs ws) (hl : ls.size = nL) (gw : GoodIn wsL_law (va_wsS own idx y (WS y ccY nY ret))) (hd : y.cls ≠ "java/lang/invoke/MethodHandle" ∧ y.cls ≠ "java/lang/invoke/VarHandle" ∧ (parseMethodDescriptor y.desc).map (fun d => d.parameters.length) = some n) (hK : Kv G l y ccY nY ret rmY As wc w1 post) (hR : RmOk rmY R nY cells slots) (hn : As.length = n) (isC : List Nat) (hnd : va_nd isC = true) (hC : isC.map (fun i => ws[i]?) = wc.map some) (hC2 : isC.filterMap (fun i => ws[i]?) = wc) (hst : st0 = As.reverse ++ rest) (hw : (rest.map fun v => v.category).sum ≤ 8) (hdg : decode cc pc = .ok (.invokestatic idx, 3)) (jn : ∀ (u : S) (H1 : Heap), (∀ q : Nat, q < H.size → ¬ va_A wc H.size q → H1[q]? = H[q]?) → va_P G.1 vwCl (w1 u) H1 → va_P G.1 vwCl (w2 u) H1) (hadr : ∀ u, (w2 u).map Prod.fst = ws.map Prod.fst)
    (kk : ∀ (u : S) (H1 : Heap) (locs1 : List Loc), post u → WX G A s H1 locs1 (w2 u) → W p l e R s m args below meth c H1 locs1 cells slots Q (F0 m (pc + 3) ls rest)) : W p l e R s m args below meth c H locs cells slots Q (F0 m pc ls st0) := by
  subst hst
  exact kc_vC hA h isC hC (va_runS S0 (hK H.size) (va_cwS n S0.2.2.2.2 gw rfl hR.1 hR.2.1 hd ⟨hR.2.2.1, hR.2.2.2.1⟩) (preC hG hA h isC hnd hC hC2) rfl hn hl rfl (lv_room hw) hdg ⟨hR.2.2.2.2.1, hR.2.2.2.2.2⟩) jn hadr kk
theorem cSN_vC {post : S → Prop} (S0 : CF p m c cc nL s args own) (hG : GX G A s) (hA : ∀ q, s.heap.size ≤ q → A q) (h : WX G A s H locs ws) (hl : ls.size = nL) (gw : GoodIn wsL_law (WS y ccY nY ret)) (gi : Cond.initialized y.cls ∈ wsL_law) (gm : Cond.static y ∈ wsL_law) (gn : Cond.methodLinkNest own idx y host ∈ NW) (hd : y.cls ≠ "java/lang/invoke/MethodHandle" ∧ y.cls ≠ "java/lang/invoke/VarHandle" ∧ (parseMethodDescriptor y.desc).map (fun d => d.parameters.length) = some n) (hK : Kv G l y ccY nY ret rmY As wc w1 post) (hR : RmOk rmY R nY cells slots) (hn : As.length = n) (isC : List Nat) (hnd : va_nd isC = true) (hC : isC.map (fun i => ws[i]?) = wc.map some) (hC2 : isC.filterMap (fun i => ws[i]?) = wc) (hst : st0 = As.reverse ++ rest) (hw : (rest.map fun v => v.category).sum ≤ 8) (hdg : decode cc pc = .ok (.invokestatic idx, 3)) (jn : ∀ (u : S) (H1 : Heap), (∀ q : Nat, q < H.size → ¬ va_A wc H.size q → H1[q]? = H[q]?) → va_P G.1 vwCl (w1 u) H1 → va_P G.1 vwCl (w2 u) H1) (hadr : ∀ u, (w2 u).map Prod.fst = ws.map Prod.fst)
    (kk : ∀ (u : S) (H1 : Heap) (locs1 : List Loc), post u → WX G A s H1 locs1 (w2 u) → W p l e R s m args below meth c H1 locs1 cells slots Q (F0 m (pc + 3) ls rest)) : W p l e R s m args below meth c H locs cells slots Q (F0 m pc ls st0) := by
  subst hst
  exact kc_vC hA h isC hC (va_runSN S0 (hK H.size) ⟨va_cnB n S0.2.2.2.2 gw rfl hR.1 hR.2.1 (hG.1 _ gn) (S0.2.2.2.2 _ gi) hd ⟨hR.2.2.1, hR.2.2.2.1⟩, S0.2.2.2.2 _ gm, trivial⟩ (preC hG hA h isC hnd hC hC2) rfl hn hl rfl (lv_room hw) hdg ⟨hR.2.2.2.2.1, hR.2.2.2.2.2⟩) jn hadr kk
theorem cU_vC {post : S → Prop} (S0 : CF p m c cc nL s args own) (hG : GX G A s) (hA : ∀ q, s.heap.size ≤ q → A q) (h : WX G A s H locs ws) (hl : ls.size = nL) (gw : GoodIn wsL_law (va_wsU own idx C owner x y (WS y ccY nY ret))) (hyx : y = ⟨owner, x.name, x.desc⟩) (hd : owner ≠ "java/lang/invoke/MethodHandle" ∧ owner ≠ "java/lang/invoke/VarHandle" ∧ (parseMethodDescriptor x.desc).map (fun d => d.parameters.length) = some n) (hK : Kv G l y ccY nY ret rmY (.ref b :: As) wc w1 post) (hR : RmOk rmY R nY cells slots) (hn : As.length = n) (ci q0 : Nat) (hc : vwCl[ci]? = some (C, T, N)) (he : ws[q0]? = some (b, .inr (ci, fs))) (isC : List Nat) (hnd : va_nd isC = true) (hC : isC.map (fun i => ws[i]?) = wc.map some) (hC2 : isC.filterMap (fun i => ws[i]?) = wc) (hst : st0 = As.reverse ++ .ref b :: rest) (hw : (rest.map fun v => v.category).sum ≤ 8) (hdg : decode cc pc = .ok (.invokevirtual idx, 3)) (jn : ∀ (u : S) (H1 : Heap), (∀ q : Nat, q < H.size → ¬ va_A wc H.size q → H1[q]? = H[q]?) → va_P G.1 vwCl (w1 u) H1 → va_P G.1 vwCl (w2 u) H1) (hadr : ∀ u, (w2 u).map Prod.fst = ws.map Prod.fst)
    (kk : ∀ (u : S) (H1 : Heap) (locs1 : List Loc), post u → WX G A s H1 locs1 (w2 u) → W p l e R s m args below meth c H1 locs1 cells slots Q (F0 m (pc + 3) ls rest)) : W p l e R s m args below meth c H locs cells slots Q (F0 m pc ls st0) := by
  subst hst
  exact kc_vC hA h isC hC (va_runU S0 (hK H.size) (va_cwU n S0.2.2.2.2 gw rfl hR.1 hR.2.1 hyx hd ⟨hR.2.2.1, hR.2.2.2.1⟩) (preV hG h (preC hG hA h isC hnd hC hC2) ci q0 hc he) rfl hn hl rfl (lv_room hw) hdg ⟨hR.2.2.2.2.1, hR.2.2.2.2.2⟩) jn hadr kk
theorem cO_vC {post : S → Prop} (S0 : CF p m c cc nL s args own) (hG : GX G A s) (hA : ∀ q, s.heap.size ≤ q → A q) (h : WX G A s H locs ws) (hl : ls.size = nL) (gw : GoodIn wsL_law (va_wsO own idx C owner x y (WS y ccY nY ret))) {b0 : ByteArray} {m0 : Nat} {r0 : Option FieldType} (h0 : Cond.code ⟨owner, x.name, x.desc⟩ b0 m0 r0 ∈ wsL_law) (hd : owner ≠ "java/lang/invoke/MethodHandle" ∧ owner ≠ "java/lang/invoke/VarHandle" ∧ (parseMethodDescriptor x.desc).map (fun d => d.parameters.length) = some n) (hK : Kv G l y ccY nY ret rmY (.ref b :: As) wc w1 post) (hR : RmOk rmY R nY cells slots) (hn : As.length = n) (ci q0 : Nat) (hc : vwCl[ci]? = some (C, T, N)) (he : ws[q0]? = some (b, .inr (ci, fs))) (isC : List Nat) (hnd : va_nd isC = true) (hC : isC.map (fun i => ws[i]?) = wc.map some) (hC2 : isC.filterMap (fun i => ws[i]?) = wc) (hst : st0 = As.reverse ++ .ref b :: rest) (hw : (rest.map fun v => v.category).sum ≤ 8) (hdg : decode cc pc = .ok (.invokevirtual idx, 3)) (jn : ∀ (u : S) (H1 : Heap), (∀ q : Nat, q < H.size → ¬ va_A wc H.size q → H1[q]? = H[q]?) → va_P G.1 vwCl (w1 u) H1 → va_P G.1 vwCl (w2 u) H1) (hadr : ∀ u, (w2 u).map Prod.fst = ws.map Prod.fst)
    (kk : ∀ (u : S) (H1 : Heap) (locs1 : List Loc), post u → WX G A s H1 locs1 (w2 u) → W p l e R s m args below meth c H1 locs1 cells slots Q (F0 m (pc + 3) ls rest)) : W p l e R s m args below meth c H locs cells slots Q (F0 m pc ls st0) := by
  subst hst
  exact kc_vC hA h isC hC (va_runU S0 (hK H.size) (va_cwO n S0.2.2.2.2 gw rfl hR.1 hR.2.1 h0 hd ⟨hR.2.2.1, hR.2.2.2.1⟩) (preV hG h (preC hG hA h isC hnd hC hC2) ci q0 hc he) rfl hn hl rfl (lv_room hw) hdg ⟨hR.2.2.2.2.1, hR.2.2.2.2.2⟩) jn hadr kk
theorem cV_r0 {post : S → Prop} {rad : S → Nat} (S0 : CF p m c cc nL s args own) (hG : GX G A s) (hA : ∀ q, s.heap.size ≤ q → A q) (h : WX G A s H locs ws) (hl : ls.size = nL) (gw : GoodIn wsL_law (wsV own idx C y (WS y ccY nY ret))) (hd : y.cls = C ∧ y.cls ≠ "java/lang/invoke/MethodHandle" ∧ y.cls ≠ "java/lang/invoke/VarHandle" ∧ (parseMethodDescriptor y.desc).map (fun d => d.parameters.length) = some n) (hK : Kr G l y ccY nY ret rmY (.ref b :: As) ws w1 rad post) (hR : RmOk rmY R nY cells slots) (hn : As.length = n) (ci q0 : Nat) (hc : vwCl[ci]? = some (C, T, N)) (he : ws[q0]? = some (b, .inr (ci, fs))) (hst : st0 = As.reverse ++ .ref b :: rest) (hw : (rest.map fun v => v.category).sum ≤ 8) (hdg : decode cc pc = .ok (.invokevirtual idx, 3)) (hadr : ∀ u, (w1 u).map Prod.fst = ws.map Prod.fst)
    (kk : ∀ (u : S) (H1 : Heap) (locs1 : List Loc), post u → WX G A s H1 locs1 (w1 u) → W p l e R s m args below meth c H1 locs1 cells slots Q (F0 m (pc + 3) ls (.ref (rad u) :: rest))) : W p l e R s m args below meth c H locs cells slots Q (F0 m pc ls st0) := by
  subst hst
  exact kc_r0 hA h (va_runV S0 (hK H.size) (cwV n S0.2.2.2.2 gw rfl hR.1 hR.2.1 hd ⟨hR.2.2.1, hR.2.2.2.1⟩) (preV hG h (pre0 hG hA h) ci q0 hc he) rfl hn hl rfl (lv_room hw) hdg ⟨hR.2.2.2.2.1, hR.2.2.2.2.2⟩) hadr kk
theorem cN_r0 {post : S → Prop} {rad : S → Nat} (S0 : CF p m c cc nL s args own) (hG : GX G A s) (hA : ∀ q, s.heap.size ≤ q → A q) (h : WX G A s H locs ws) (hl : ls.size = nL) (gw : GoodIn wsL_law (WS y ccY nY ret)) (gi : Cond.initialized y.cls ∈ wsL_law) (gm : Cond.instanceMethod y ∈ wsL_law) (gs : Cond.selects C y y ∈ wsL_law) (gn : Cond.methodLinkNest own idx y host ∈ NW) (hd : y.cls ≠ "java/lang/invoke/MethodHandle" ∧ y.cls ≠ "java/lang/invoke/VarHandle" ∧ (parseMethodDescriptor y.desc).map (fun d => d.parameters.length) = some n) (hK : Kr G l y ccY nY ret rmY (.ref b :: As) ws w1 rad post) (hR : RmOk rmY R nY cells slots) (hn : As.length = n) (ci q0 : Nat) (hc : vwCl[ci]? = some (C, T, N)) (he : ws[q0]? = some (b, .inr (ci, fs))) (hst : st0 = As.reverse ++ .ref b :: rest) (hw : (rest.map fun v => v.category).sum ≤ 8) (hdg : decode cc pc = .ok (.invokevirtual idx, 3)) (hadr : ∀ u, (w1 u).map Prod.fst = ws.map Prod.fst)
    (kk : ∀ (u : S) (H1 : Heap) (locs1 : List Loc), post u → WX G A s H1 locs1 (w1 u) → W p l e R s m args below meth c H1 locs1 cells slots Q (F0 m (pc + 3) ls (.ref (rad u) :: rest))) : W p l e R s m args below meth c H locs cells slots Q (F0 m pc ls st0) := by
  subst hst
  exact kc_r0 hA h (va_runVN S0 (hK H.size) ⟨va_cnB n S0.2.2.2.2 gw rfl hR.1 hR.2.1 (hG.1 _ gn) (S0.2.2.2.2 _ gi) hd ⟨hR.2.2.1, hR.2.2.2.1⟩, S0.2.2.2.2 _ gm, S0.2.2.2.2 _ gs⟩ (preV hG h (pre0 hG hA h) ci q0 hc he) rfl hn hl rfl (lv_room hw) hdg ⟨hR.2.2.2.2.1, hR.2.2.2.2.2⟩) hadr kk
theorem cS_r0 {post : S → Prop} {rad : S → Nat} (S0 : CF p m c cc nL s args own) (hG : GX G A s) (hA : ∀ q, s.heap.size ≤ q → A q) (h : WX G A s H locs ws) (hl : ls.size = nL) (gw : GoodIn wsL_law (va_wsS own idx y (WS y ccY nY ret))) (hd : y.cls ≠ "java/lang/invoke/MethodHandle" ∧ y.cls ≠ "java/lang/invoke/VarHandle" ∧ (parseMethodDescriptor y.desc).map (fun d => d.parameters.length) = some n) (hK : Kr G l y ccY nY ret rmY As ws w1 rad post) (hR : RmOk rmY R nY cells slots) (hn : As.length = n) (hst : st0 = As.reverse ++ rest) (hw : (rest.map fun v => v.category).sum ≤ 8) (hdg : decode cc pc = .ok (.invokestatic idx, 3)) (hadr : ∀ u, (w1 u).map Prod.fst = ws.map Prod.fst)
    (kk : ∀ (u : S) (H1 : Heap) (locs1 : List Loc), post u → WX G A s H1 locs1 (w1 u) → W p l e R s m args below meth c H1 locs1 cells slots Q (F0 m (pc + 3) ls (.ref (rad u) :: rest))) : W p l e R s m args below meth c H locs cells slots Q (F0 m pc ls st0) := by
  subst hst
  exact kc_r0 hA h (va_runS S0 (hK H.size) (va_cwS n S0.2.2.2.2 gw rfl hR.1 hR.2.1 hd ⟨hR.2.2.1, hR.2.2.2.1⟩) (pre0 hG hA h) rfl hn hl rfl (lv_room hw) hdg ⟨hR.2.2.2.2.1, hR.2.2.2.2.2⟩) hadr kk
theorem cSN_r0 {post : S → Prop} {rad : S → Nat} (S0 : CF p m c cc nL s args own) (hG : GX G A s) (hA : ∀ q, s.heap.size ≤ q → A q) (h : WX G A s H locs ws) (hl : ls.size = nL) (gw : GoodIn wsL_law (WS y ccY nY ret)) (gi : Cond.initialized y.cls ∈ wsL_law) (gm : Cond.static y ∈ wsL_law) (gn : Cond.methodLinkNest own idx y host ∈ NW) (hd : y.cls ≠ "java/lang/invoke/MethodHandle" ∧ y.cls ≠ "java/lang/invoke/VarHandle" ∧ (parseMethodDescriptor y.desc).map (fun d => d.parameters.length) = some n) (hK : Kr G l y ccY nY ret rmY As ws w1 rad post) (hR : RmOk rmY R nY cells slots) (hn : As.length = n) (hst : st0 = As.reverse ++ rest) (hw : (rest.map fun v => v.category).sum ≤ 8) (hdg : decode cc pc = .ok (.invokestatic idx, 3)) (hadr : ∀ u, (w1 u).map Prod.fst = ws.map Prod.fst)
    (kk : ∀ (u : S) (H1 : Heap) (locs1 : List Loc), post u → WX G A s H1 locs1 (w1 u) → W p l e R s m args below meth c H1 locs1 cells slots Q (F0 m (pc + 3) ls (.ref (rad u) :: rest))) : W p l e R s m args below meth c H locs cells slots Q (F0 m pc ls st0) := by
  subst hst
  exact kc_r0 hA h (va_runSN S0 (hK H.size) ⟨va_cnB n S0.2.2.2.2 gw rfl hR.1 hR.2.1 (hG.1 _ gn) (S0.2.2.2.2 _ gi) hd ⟨hR.2.2.1, hR.2.2.2.1⟩, S0.2.2.2.2 _ gm, trivial⟩ (pre0 hG hA h) rfl hn hl rfl (lv_room hw) hdg ⟨hR.2.2.2.2.1, hR.2.2.2.2.2⟩) hadr kk
theorem cSU_r0 {post : S → Prop} {rad : S → Nat} (S0 : CF p m c cc nL s args own) (hG : GX G A s) (hA : ∀ q, s.heap.size ≤ q → A q) (h : WX G A s H locs ws) (hl : ls.size = nL) (gw : GoodIn wsL_law (va_wsSU own idx y (WS y ccY nY ret))) (hd : y.name ≠ "<init>" ∧ (parseMethodDescriptor y.desc).map (fun d => d.parameters.length) = some n) (hK : Kr G l y ccY nY ret rmY (.ref b :: As) ws w1 rad post) (hR : RmOk rmY R nY cells slots) (hn : As.length = n) (ci q0 : Nat) (hc : vwCl[ci]? = some (C, T, N)) (he : ws[q0]? = some (b, .inr (ci, fs))) (hst : st0 = As.reverse ++ .ref b :: rest) (hw : (rest.map fun v => v.category).sum ≤ 8) (hdg : decode cc pc = .ok (.invokespecial idx, 3)) (hadr : ∀ u, (w1 u).map Prod.fst = ws.map Prod.fst)
    (kk : ∀ (u : S) (H1 : Heap) (locs1 : List Loc), post u → WX G A s H1 locs1 (w1 u) → W p l e R s m args below meth c H1 locs1 cells slots Q (F0 m (pc + 3) ls (.ref (rad u) :: rest))) : W p l e R s m args below meth c H locs cells slots Q (F0 m pc ls st0) := by
  subst hst
  exact kc_r0 hA h (va_runSU (hG.2.2.1.1 ci _ hc).2 S0 (hK H.size) (va_cwSU n S0.2.2.2.2 gw rfl hR.1 hR.2.1 hd ⟨hR.2.2.1, hR.2.2.2.1⟩) (preV hG h (pre0 hG hA h) ci q0 hc he) rfl hn hl rfl (lv_room hw) hdg ⟨hR.2.2.2.2.1, hR.2.2.2.2.2⟩) hadr kk
theorem cU_r0 {post : S → Prop} {rad : S → Nat} (S0 : CF p m c cc nL s args own) (hG : GX G A s) (hA : ∀ q, s.heap.size ≤ q → A q) (h : WX G A s H locs ws) (hl : ls.size = nL) (gw : GoodIn wsL_law (va_wsU own idx C owner x y (WS y ccY nY ret))) (hyx : y = ⟨owner, x.name, x.desc⟩) (hd : owner ≠ "java/lang/invoke/MethodHandle" ∧ owner ≠ "java/lang/invoke/VarHandle" ∧ (parseMethodDescriptor x.desc).map (fun d => d.parameters.length) = some n) (hK : Kr G l y ccY nY ret rmY (.ref b :: As) ws w1 rad post) (hR : RmOk rmY R nY cells slots) (hn : As.length = n) (ci q0 : Nat) (hc : vwCl[ci]? = some (C, T, N)) (he : ws[q0]? = some (b, .inr (ci, fs))) (hst : st0 = As.reverse ++ .ref b :: rest) (hw : (rest.map fun v => v.category).sum ≤ 8) (hdg : decode cc pc = .ok (.invokevirtual idx, 3)) (hadr : ∀ u, (w1 u).map Prod.fst = ws.map Prod.fst)
    (kk : ∀ (u : S) (H1 : Heap) (locs1 : List Loc), post u → WX G A s H1 locs1 (w1 u) → W p l e R s m args below meth c H1 locs1 cells slots Q (F0 m (pc + 3) ls (.ref (rad u) :: rest))) : W p l e R s m args below meth c H locs cells slots Q (F0 m pc ls st0) := by
  subst hst
  exact kc_r0 hA h (va_runU S0 (hK H.size) (va_cwU n S0.2.2.2.2 gw rfl hR.1 hR.2.1 hyx hd ⟨hR.2.2.1, hR.2.2.2.1⟩) (preV hG h (pre0 hG hA h) ci q0 hc he) rfl hn hl rfl (lv_room hw) hdg ⟨hR.2.2.2.2.1, hR.2.2.2.2.2⟩) hadr kk
theorem cO_r0 {post : S → Prop} {rad : S → Nat} (S0 : CF p m c cc nL s args own) (hG : GX G A s) (hA : ∀ q, s.heap.size ≤ q → A q) (h : WX G A s H locs ws) (hl : ls.size = nL) (gw : GoodIn wsL_law (va_wsO own idx C owner x y (WS y ccY nY ret))) {b0 : ByteArray} {m0 : Nat} {r0 : Option FieldType} (h0 : Cond.code ⟨owner, x.name, x.desc⟩ b0 m0 r0 ∈ wsL_law) (hd : owner ≠ "java/lang/invoke/MethodHandle" ∧ owner ≠ "java/lang/invoke/VarHandle" ∧ (parseMethodDescriptor x.desc).map (fun d => d.parameters.length) = some n) (hK : Kr G l y ccY nY ret rmY (.ref b :: As) ws w1 rad post) (hR : RmOk rmY R nY cells slots) (hn : As.length = n) (ci q0 : Nat) (hc : vwCl[ci]? = some (C, T, N)) (he : ws[q0]? = some (b, .inr (ci, fs))) (hst : st0 = As.reverse ++ .ref b :: rest) (hw : (rest.map fun v => v.category).sum ≤ 8) (hdg : decode cc pc = .ok (.invokevirtual idx, 3)) (hadr : ∀ u, (w1 u).map Prod.fst = ws.map Prod.fst)
    (kk : ∀ (u : S) (H1 : Heap) (locs1 : List Loc), post u → WX G A s H1 locs1 (w1 u) → W p l e R s m args below meth c H1 locs1 cells slots Q (F0 m (pc + 3) ls (.ref (rad u) :: rest))) : W p l e R s m args below meth c H locs cells slots Q (F0 m pc ls st0) := by
  subst hst
  exact kc_r0 hA h (va_runU S0 (hK H.size) (va_cwO n S0.2.2.2.2 gw rfl hR.1 hR.2.1 h0 hd ⟨hR.2.2.1, hR.2.2.2.1⟩) (preV hG h (pre0 hG hA h) ci q0 hc he) rfl hn hl rfl (lv_room hw) hdg ⟨hR.2.2.2.2.1, hR.2.2.2.2.2⟩) hadr kk
theorem cV_rE {post : S → Prop} {rad : S → Nat} (S0 : CF p m c cc nL s args own) (hG : GX G A s) (hA : ∀ q, s.heap.size ≤ q → A q) (h : WX G A s H locs ws) (hl : ls.size = nL) (gw : GoodIn wsL_law (wsV own idx C y (WS y ccY nY ret))) (hd : y.cls = C ∧ y.cls ≠ "java/lang/invoke/MethodHandle" ∧ y.cls ≠ "java/lang/invoke/VarHandle" ∧ (parseMethodDescriptor y.desc).map (fun d => d.parameters.length) = some n) (hK : Kr G l y ccY nY ret rmY (.ref b :: As) [] w1 rad post) (hR : RmOk rmY R nY cells slots) (hn : As.length = n) (ci q0 : Nat) (hc : vwCl[ci]? = some (C, T, N)) (he : ws[q0]? = some (b, .inr (ci, fs))) (hst : st0 = As.reverse ++ .ref b :: rest) (hw : (rest.map fun v => v.category).sum ≤ 8) (hdg : decode cc pc = .ok (.invokevirtual idx, 3))
    (kk : ∀ (u : S) (H1 : Heap) (locs1 : List Loc), post u → WX G A s H1 locs1 ws → W p l e R s m args below meth c H1 locs1 cells slots Q (F0 m (pc + 3) ls (.ref (rad u) :: rest))) : W p l e R s m args below meth c H locs cells slots Q (F0 m pc ls st0) := by
  subst hst
  exact kc_rE hA h (va_runV S0 (hK H.size) (cwV n S0.2.2.2.2 gw rfl hR.1 hR.2.1 hd ⟨hR.2.2.1, hR.2.2.2.1⟩) (preV hG h (preE hG hA h) ci q0 hc he) rfl hn hl rfl (lv_room hw) hdg ⟨hR.2.2.2.2.1, hR.2.2.2.2.2⟩) kk
theorem cN_rE {post : S → Prop} {rad : S → Nat} (S0 : CF p m c cc nL s args own) (hG : GX G A s) (hA : ∀ q, s.heap.size ≤ q → A q) (h : WX G A s H locs ws) (hl : ls.size = nL) (gw : GoodIn wsL_law (WS y ccY nY ret)) (gi : Cond.initialized y.cls ∈ wsL_law) (gm : Cond.instanceMethod y ∈ wsL_law) (gs : Cond.selects C y y ∈ wsL_law) (gn : Cond.methodLinkNest own idx y host ∈ NW) (hd : y.cls ≠ "java/lang/invoke/MethodHandle" ∧ y.cls ≠ "java/lang/invoke/VarHandle" ∧ (parseMethodDescriptor y.desc).map (fun d => d.parameters.length) = some n) (hK : Kr G l y ccY nY ret rmY (.ref b :: As) [] w1 rad post) (hR : RmOk rmY R nY cells slots) (hn : As.length = n) (ci q0 : Nat) (hc : vwCl[ci]? = some (C, T, N)) (he : ws[q0]? = some (b, .inr (ci, fs))) (hst : st0 = As.reverse ++ .ref b :: rest) (hw : (rest.map fun v => v.category).sum ≤ 8) (hdg : decode cc pc = .ok (.invokevirtual idx, 3))
    (kk : ∀ (u : S) (H1 : Heap) (locs1 : List Loc), post u → WX G A s H1 locs1 ws → W p l e R s m args below meth c H1 locs1 cells slots Q (F0 m (pc + 3) ls (.ref (rad u) :: rest))) : W p l e R s m args below meth c H locs cells slots Q (F0 m pc ls st0) := by
  subst hst
  exact kc_rE hA h (va_runVN S0 (hK H.size) ⟨va_cnB n S0.2.2.2.2 gw rfl hR.1 hR.2.1 (hG.1 _ gn) (S0.2.2.2.2 _ gi) hd ⟨hR.2.2.1, hR.2.2.2.1⟩, S0.2.2.2.2 _ gm, S0.2.2.2.2 _ gs⟩ (preV hG h (preE hG hA h) ci q0 hc he) rfl hn hl rfl (lv_room hw) hdg ⟨hR.2.2.2.2.1, hR.2.2.2.2.2⟩) kk
theorem cS_rE {post : S → Prop} {rad : S → Nat} (S0 : CF p m c cc nL s args own) (hG : GX G A s) (hA : ∀ q, s.heap.size ≤ q → A q) (h : WX G A s H locs ws) (hl : ls.size = nL) (gw : GoodIn wsL_law (va_wsS own idx y (WS y ccY nY ret))) (hd : y.cls ≠ "java/lang/invoke/MethodHandle" ∧ y.cls ≠ "java/lang/invoke/VarHandle" ∧ (parseMethodDescriptor y.desc).map (fun d => d.parameters.length) = some n) (hK : Kr G l y ccY nY ret rmY As [] w1 rad post) (hR : RmOk rmY R nY cells slots) (hn : As.length = n) (hst : st0 = As.reverse ++ rest) (hw : (rest.map fun v => v.category).sum ≤ 8) (hdg : decode cc pc = .ok (.invokestatic idx, 3))
    (kk : ∀ (u : S) (H1 : Heap) (locs1 : List Loc), post u → WX G A s H1 locs1 ws → W p l e R s m args below meth c H1 locs1 cells slots Q (F0 m (pc + 3) ls (.ref (rad u) :: rest))) : W p l e R s m args below meth c H locs cells slots Q (F0 m pc ls st0) := by
  subst hst
  exact kc_rE hA h (va_runS S0 (hK H.size) (va_cwS n S0.2.2.2.2 gw rfl hR.1 hR.2.1 hd ⟨hR.2.2.1, hR.2.2.2.1⟩) (preE hG hA h) rfl hn hl rfl (lv_room hw) hdg ⟨hR.2.2.2.2.1, hR.2.2.2.2.2⟩) kk
theorem cSN_rE {post : S → Prop} {rad : S → Nat} (S0 : CF p m c cc nL s args own) (hG : GX G A s) (hA : ∀ q, s.heap.size ≤ q → A q) (h : WX G A s H locs ws) (hl : ls.size = nL) (gw : GoodIn wsL_law (WS y ccY nY ret)) (gi : Cond.initialized y.cls ∈ wsL_law) (gm : Cond.static y ∈ wsL_law) (gn : Cond.methodLinkNest own idx y host ∈ NW) (hd : y.cls ≠ "java/lang/invoke/MethodHandle" ∧ y.cls ≠ "java/lang/invoke/VarHandle" ∧ (parseMethodDescriptor y.desc).map (fun d => d.parameters.length) = some n) (hK : Kr G l y ccY nY ret rmY As [] w1 rad post) (hR : RmOk rmY R nY cells slots) (hn : As.length = n) (hst : st0 = As.reverse ++ rest) (hw : (rest.map fun v => v.category).sum ≤ 8) (hdg : decode cc pc = .ok (.invokestatic idx, 3))
    (kk : ∀ (u : S) (H1 : Heap) (locs1 : List Loc), post u → WX G A s H1 locs1 ws → W p l e R s m args below meth c H1 locs1 cells slots Q (F0 m (pc + 3) ls (.ref (rad u) :: rest))) : W p l e R s m args below meth c H locs cells slots Q (F0 m pc ls st0) := by
  subst hst
  exact kc_rE hA h (va_runSN S0 (hK H.size) ⟨va_cnB n S0.2.2.2.2 gw rfl hR.1 hR.2.1 (hG.1 _ gn) (S0.2.2.2.2 _ gi) hd ⟨hR.2.2.1, hR.2.2.2.1⟩, S0.2.2.2.2 _ gm, trivial⟩ (preE hG hA h) rfl hn hl rfl (lv_room hw) hdg ⟨hR.2.2.2.2.1, hR.2.2.2.2.2⟩) kk
theorem cU_rE {post : S → Prop} {rad : S → Nat} (S0 : CF p m c cc nL s args own) (hG : GX G A s) (hA : ∀ q, s.heap.size ≤ q → A q) (h : WX G A s H locs ws) (hl : ls.size = nL) (gw : GoodIn wsL_law (va_wsU own idx C owner x y (WS y ccY nY ret))) (hyx : y = ⟨owner, x.name, x.desc⟩) (hd : owner ≠ "java/lang/invoke/MethodHandle" ∧ owner ≠ "java/lang/invoke/VarHandle" ∧ (parseMethodDescriptor x.desc).map (fun d => d.parameters.length) = some n) (hK : Kr G l y ccY nY ret rmY (.ref b :: As) [] w1 rad post) (hR : RmOk rmY R nY cells slots) (hn : As.length = n) (ci q0 : Nat) (hc : vwCl[ci]? = some (C, T, N)) (he : ws[q0]? = some (b, .inr (ci, fs))) (hst : st0 = As.reverse ++ .ref b :: rest) (hw : (rest.map fun v => v.category).sum ≤ 8) (hdg : decode cc pc = .ok (.invokevirtual idx, 3))
    (kk : ∀ (u : S) (H1 : Heap) (locs1 : List Loc), post u → WX G A s H1 locs1 ws → W p l e R s m args below meth c H1 locs1 cells slots Q (F0 m (pc + 3) ls (.ref (rad u) :: rest))) : W p l e R s m args below meth c H locs cells slots Q (F0 m pc ls st0) := by
  subst hst
  exact kc_rE hA h (va_runU S0 (hK H.size) (va_cwU n S0.2.2.2.2 gw rfl hR.1 hR.2.1 hyx hd ⟨hR.2.2.1, hR.2.2.2.1⟩) (preV hG h (preE hG hA h) ci q0 hc he) rfl hn hl rfl (lv_room hw) hdg ⟨hR.2.2.2.2.1, hR.2.2.2.2.2⟩) kk
theorem cO_rE {post : S → Prop} {rad : S → Nat} (S0 : CF p m c cc nL s args own) (hG : GX G A s) (hA : ∀ q, s.heap.size ≤ q → A q) (h : WX G A s H locs ws) (hl : ls.size = nL) (gw : GoodIn wsL_law (va_wsO own idx C owner x y (WS y ccY nY ret))) {b0 : ByteArray} {m0 : Nat} {r0 : Option FieldType} (h0 : Cond.code ⟨owner, x.name, x.desc⟩ b0 m0 r0 ∈ wsL_law) (hd : owner ≠ "java/lang/invoke/MethodHandle" ∧ owner ≠ "java/lang/invoke/VarHandle" ∧ (parseMethodDescriptor x.desc).map (fun d => d.parameters.length) = some n) (hK : Kr G l y ccY nY ret rmY (.ref b :: As) [] w1 rad post) (hR : RmOk rmY R nY cells slots) (hn : As.length = n) (ci q0 : Nat) (hc : vwCl[ci]? = some (C, T, N)) (he : ws[q0]? = some (b, .inr (ci, fs))) (hst : st0 = As.reverse ++ .ref b :: rest) (hw : (rest.map fun v => v.category).sum ≤ 8) (hdg : decode cc pc = .ok (.invokevirtual idx, 3))
    (kk : ∀ (u : S) (H1 : Heap) (locs1 : List Loc), post u → WX G A s H1 locs1 ws → W p l e R s m args below meth c H1 locs1 cells slots Q (F0 m (pc + 3) ls (.ref (rad u) :: rest))) : W p l e R s m args below meth c H locs cells slots Q (F0 m pc ls st0) := by
  subst hst
  exact kc_rE hA h (va_runU S0 (hK H.size) (va_cwO n S0.2.2.2.2 gw rfl hR.1 hR.2.1 h0 hd ⟨hR.2.2.1, hR.2.2.2.1⟩) (preV hG h (preE hG hA h) ci q0 hc he) rfl hn hl rfl (lv_room hw) hdg ⟨hR.2.2.2.2.1, hR.2.2.2.2.2⟩) kk
theorem cV_rC {post : S → Prop} {rad : S → Nat} (S0 : CF p m c cc nL s args own) (hG : GX G A s) (hA : ∀ q, s.heap.size ≤ q → A q) (h : WX G A s H locs ws) (hl : ls.size = nL) (gw : GoodIn wsL_law (wsV own idx C y (WS y ccY nY ret))) (hd : y.cls = C ∧ y.cls ≠ "java/lang/invoke/MethodHandle" ∧ y.cls ≠ "java/lang/invoke/VarHandle" ∧ (parseMethodDescriptor y.desc).map (fun d => d.parameters.length) = some n) (hK : Kr G l y ccY nY ret rmY (.ref b :: As) wc w1 rad post) (hR : RmOk rmY R nY cells slots) (hn : As.length = n) (ci q0 : Nat) (hc : vwCl[ci]? = some (C, T, N)) (he : ws[q0]? = some (b, .inr (ci, fs))) (isC : List Nat) (hnd : va_nd isC = true) (hC : isC.map (fun i => ws[i]?) = wc.map some) (hC2 : isC.filterMap (fun i => ws[i]?) = wc) (hst : st0 = As.reverse ++ .ref b :: rest) (hw : (rest.map fun v => v.category).sum ≤ 8) (hdg : decode cc pc = .ok (.invokevirtual idx, 3)) (jn : ∀ (u : S) (H1 : Heap), (∀ q : Nat, q < H.size → ¬ va_A wc H.size q → H1[q]? = H[q]?) → va_P G.1 vwCl (w1 u) H1 → va_P G.1 vwCl (w2 u) H1) (hadr : ∀ u, (w2 u).map Prod.fst = ws.map Prod.fst)
    (kk : ∀ (u : S) (H1 : Heap) (locs1 : List Loc), post u → WX G A s H1 locs1 (w2 u) → W p l e R s m args below meth c H1 locs1 cells slots Q (F0 m (pc + 3) ls (.ref (rad u) :: rest))) : W p l e R s m args below meth c H locs cells slots Q (F0 m pc ls st0) := by
  subst hst
  exact kc_rC hA h isC hC (va_runV S0 (hK H.size) (cwV n S0.2.2.2.2 gw rfl hR.1 hR.2.1 hd ⟨hR.2.2.1, hR.2.2.2.1⟩) (preV hG h (preC hG hA h isC hnd hC hC2) ci q0 hc he) rfl hn hl rfl (lv_room hw) hdg ⟨hR.2.2.2.2.1, hR.2.2.2.2.2⟩) jn hadr kk
theorem cN_rC {post : S → Prop} {rad : S → Nat} (S0 : CF p m c cc nL s args own) (hG : GX G A s) (hA : ∀ q, s.heap.size ≤ q → A q) (h : WX G A s H locs ws) (hl : ls.size = nL) (gw : GoodIn wsL_law (WS y ccY nY ret)) (gi : Cond.initialized y.cls ∈ wsL_law) (gm : Cond.instanceMethod y ∈ wsL_law) (gs : Cond.selects C y y ∈ wsL_law) (gn : Cond.methodLinkNest own idx y host ∈ NW) (hd : y.cls ≠ "java/lang/invoke/MethodHandle" ∧ y.cls ≠ "java/lang/invoke/VarHandle" ∧ (parseMethodDescriptor y.desc).map (fun d => d.parameters.length) = some n) (hK : Kr G l y ccY nY ret rmY (.ref b :: As) wc w1 rad post) (hR : RmOk rmY R nY cells slots) (hn : As.length = n) (ci q0 : Nat) (hc : vwCl[ci]? = some (C, T, N)) (he : ws[q0]? = some (b, .inr (ci, fs))) (isC : List Nat) (hnd : va_nd isC = true) (hC : isC.map (fun i => ws[i]?) = wc.map some) (hC2 : isC.filterMap (fun i => ws[i]?) = wc) (hst : st0 = As.reverse ++ .ref b :: rest) (hw : (rest.map fun v => v.category).sum ≤ 8) (hdg : decode cc pc = .ok (.invokevirtual idx, 3)) (jn : ∀ (u : S) (H1 : Heap), (∀ q : Nat, q < H.size → ¬ va_A wc H.size q → H1[q]? = H[q]?) → va_P G.1 vwCl (w1 u) H1 → va_P G.1 vwCl (w2 u) H1) (hadr : ∀ u, (w2 u).map Prod.fst = ws.map Prod.fst)
    (kk : ∀ (u : S) (H1 : Heap) (locs1 : List Loc), post u → WX G A s H1 locs1 (w2 u) → W p l e R s m args below meth c H1 locs1 cells slots Q (F0 m (pc + 3) ls (.ref (rad u) :: rest))) : W p l e R s m args below meth c H locs cells slots Q (F0 m pc ls st0) := by
  subst hst
  exact kc_rC hA h isC hC (va_runVN S0 (hK H.size) ⟨va_cnB n S0.2.2.2.2 gw rfl hR.1 hR.2.1 (hG.1 _ gn) (S0.2.2.2.2 _ gi) hd ⟨hR.2.2.1, hR.2.2.2.1⟩, S0.2.2.2.2 _ gm, S0.2.2.2.2 _ gs⟩ (preV hG h (preC hG hA h isC hnd hC hC2) ci q0 hc he) rfl hn hl rfl (lv_room hw) hdg ⟨hR.2.2.2.2.1, hR.2.2.2.2.2⟩) jn hadr kk
theorem cS_rC {post : S → Prop} {rad : S → Nat} (S0 : CF p m c cc nL s args own) (hG : GX G A s) (hA : ∀ q, s.heap.size ≤ q → A q) (h : WX G A s H locs ws) (hl : ls.size = nL) (gw : GoodIn wsL_law (va_wsS own idx y (WS y ccY nY ret))) (hd : y.cls ≠ "java/lang/invoke/MethodHandle" ∧ y.cls ≠ "java/lang/invoke/VarHandle" ∧ (parseMethodDescriptor y.desc).map (fun d => d.parameters.length) = some n) (hK : Kr G l y ccY nY ret rmY As wc w1 rad post) (hR : RmOk rmY R nY cells slots) (hn : As.length = n) (isC : List Nat) (hnd : va_nd isC = true) (hC : isC.map (fun i => ws[i]?) = wc.map some) (hC2 : isC.filterMap (fun i => ws[i]?) = wc) (hst : st0 = As.reverse ++ rest) (hw : (rest.map fun v => v.category).sum ≤ 8) (hdg : decode cc pc = .ok (.invokestatic idx, 3)) (jn : ∀ (u : S) (H1 : Heap), (∀ q : Nat, q < H.size → ¬ va_A wc H.size q → H1[q]? = H[q]?) → va_P G.1 vwCl (w1 u) H1 → va_P G.1 vwCl (w2 u) H1) (hadr : ∀ u, (w2 u).map Prod.fst = ws.map Prod.fst)
    (kk : ∀ (u : S) (H1 : Heap) (locs1 : List Loc), post u → WX G A s H1 locs1 (w2 u) → W p l e R s m args below meth c H1 locs1 cells slots Q (F0 m (pc + 3) ls (.ref (rad u) :: rest))) : W p l e R s m args below meth c H locs cells slots Q (F0 m pc ls st0) := by
  subst hst
  exact kc_rC hA h isC hC (va_runS S0 (hK H.size) (va_cwS n S0.2.2.2.2 gw rfl hR.1 hR.2.1 hd ⟨hR.2.2.1, hR.2.2.2.1⟩) (preC hG hA h isC hnd hC hC2) rfl hn hl rfl (lv_room hw) hdg ⟨hR.2.2.2.2.1, hR.2.2.2.2.2⟩) jn hadr kk
theorem cSN_rC {post : S → Prop} {rad : S → Nat} (S0 : CF p m c cc nL s args own) (hG : GX G A s) (hA : ∀ q, s.heap.size ≤ q → A q) (h : WX G A s H locs ws) (hl : ls.size = nL) (gw : GoodIn wsL_law (WS y ccY nY ret)) (gi : Cond.initialized y.cls ∈ wsL_law) (gm : Cond.static y ∈ wsL_law) (gn : Cond.methodLinkNest own idx y host ∈ NW) (hd : y.cls ≠ "java/lang/invoke/MethodHandle" ∧ y.cls ≠ "java/lang/invoke/VarHandle" ∧ (parseMethodDescriptor y.desc).map (fun d => d.parameters.length) = some n) (hK : Kr G l y ccY nY ret rmY As wc w1 rad post) (hR : RmOk rmY R nY cells slots) (hn : As.length = n) (isC : List Nat) (hnd : va_nd isC = true) (hC : isC.map (fun i => ws[i]?) = wc.map some) (hC2 : isC.filterMap (fun i => ws[i]?) = wc) (hst : st0 = As.reverse ++ rest) (hw : (rest.map fun v => v.category).sum ≤ 8) (hdg : decode cc pc = .ok (.invokestatic idx, 3)) (jn : ∀ (u : S) (H1 : Heap), (∀ q : Nat, q < H.size → ¬ va_A wc H.size q → H1[q]? = H[q]?) → va_P G.1 vwCl (w1 u) H1 → va_P G.1 vwCl (w2 u) H1) (hadr : ∀ u, (w2 u).map Prod.fst = ws.map Prod.fst)
    (kk : ∀ (u : S) (H1 : Heap) (locs1 : List Loc), post u → WX G A s H1 locs1 (w2 u) → W p l e R s m args below meth c H1 locs1 cells slots Q (F0 m (pc + 3) ls (.ref (rad u) :: rest))) : W p l e R s m args below meth c H locs cells slots Q (F0 m pc ls st0) := by
  subst hst
  exact kc_rC hA h isC hC (va_runSN S0 (hK H.size) ⟨va_cnB n S0.2.2.2.2 gw rfl hR.1 hR.2.1 (hG.1 _ gn) (S0.2.2.2.2 _ gi) hd ⟨hR.2.2.1, hR.2.2.2.1⟩, S0.2.2.2.2 _ gm, trivial⟩ (preC hG hA h isC hnd hC hC2) rfl hn hl rfl (lv_room hw) hdg ⟨hR.2.2.2.2.1, hR.2.2.2.2.2⟩) jn hadr kk
theorem cU_rC {post : S → Prop} {rad : S → Nat} (S0 : CF p m c cc nL s args own) (hG : GX G A s) (hA : ∀ q, s.heap.size ≤ q → A q) (h : WX G A s H locs ws) (hl : ls.size = nL) (gw : GoodIn wsL_law (va_wsU own idx C owner x y (WS y ccY nY ret))) (hyx : y = ⟨owner, x.name, x.desc⟩) (hd : owner ≠ "java/lang/invoke/MethodHandle" ∧ owner ≠ "java/lang/invoke/VarHandle" ∧ (parseMethodDescriptor x.desc).map (fun d => d.parameters.length) = some n) (hK : Kr G l y ccY nY ret rmY (.ref b :: As) wc w1 rad post) (hR : RmOk rmY R nY cells slots) (hn : As.length = n) (ci q0 : Nat) (hc : vwCl[ci]? = some (C, T, N)) (he : ws[q0]? = some (b, .inr (ci, fs))) (isC : List Nat) (hnd : va_nd isC = true) (hC : isC.map (fun i => ws[i]?) = wc.map some) (hC2 : isC.filterMap (fun i => ws[i]?) = wc) (hst : st0 = As.reverse ++ .ref b :: rest) (hw : (rest.map fun v => v.category).sum ≤ 8) (hdg : decode cc pc = .ok (.invokevirtual idx, 3)) (jn : ∀ (u : S) (H1 : Heap), (∀ q : Nat, q < H.size → ¬ va_A wc H.size q → H1[q]? = H[q]?) → va_P G.1 vwCl (w1 u) H1 → va_P G.1 vwCl (w2 u) H1) (hadr : ∀ u, (w2 u).map Prod.fst = ws.map Prod.fst)
    (kk : ∀ (u : S) (H1 : Heap) (locs1 : List Loc), post u → WX G A s H1 locs1 (w2 u) → W p l e R s m args below meth c H1 locs1 cells slots Q (F0 m (pc + 3) ls (.ref (rad u) :: rest))) : W p l e R s m args below meth c H locs cells slots Q (F0 m pc ls st0) := by
  subst hst
  exact kc_rC hA h isC hC (va_runU S0 (hK H.size) (va_cwU n S0.2.2.2.2 gw rfl hR.1 hR.2.1 hyx hd ⟨hR.2.2.1, hR.2.2.2.1⟩) (preV hG h (preC hG hA h isC hnd hC hC2) ci q0 hc he) rfl hn hl rfl (lv_room hw) hdg ⟨hR.2.2.2.2.1, hR.2.2.2.2.2⟩) jn hadr kk
theorem cO_rC {post : S → Prop} {rad : S → Nat} (S0 : CF p m c cc nL s args own) (hG : GX G A s) (hA : ∀ q, s.heap.size ≤ q → A q) (h : WX G A s H locs ws) (hl : ls.size = nL) (gw : GoodIn wsL_law (va_wsO own idx C owner x y (WS y ccY nY ret))) {b0 : ByteArray} {m0 : Nat} {r0 : Option FieldType} (h0 : Cond.code ⟨owner, x.name, x.desc⟩ b0 m0 r0 ∈ wsL_law) (hd : owner ≠ "java/lang/invoke/MethodHandle" ∧ owner ≠ "java/lang/invoke/VarHandle" ∧ (parseMethodDescriptor x.desc).map (fun d => d.parameters.length) = some n) (hK : Kr G l y ccY nY ret rmY (.ref b :: As) wc w1 rad post) (hR : RmOk rmY R nY cells slots) (hn : As.length = n) (ci q0 : Nat) (hc : vwCl[ci]? = some (C, T, N)) (he : ws[q0]? = some (b, .inr (ci, fs))) (isC : List Nat) (hnd : va_nd isC = true) (hC : isC.map (fun i => ws[i]?) = wc.map some) (hC2 : isC.filterMap (fun i => ws[i]?) = wc) (hst : st0 = As.reverse ++ .ref b :: rest) (hw : (rest.map fun v => v.category).sum ≤ 8) (hdg : decode cc pc = .ok (.invokevirtual idx, 3)) (jn : ∀ (u : S) (H1 : Heap), (∀ q : Nat, q < H.size → ¬ va_A wc H.size q → H1[q]? = H[q]?) → va_P G.1 vwCl (w1 u) H1 → va_P G.1 vwCl (w2 u) H1) (hadr : ∀ u, (w2 u).map Prod.fst = ws.map Prod.fst)
    (kk : ∀ (u : S) (H1 : Heap) (locs1 : List Loc), post u → WX G A s H1 locs1 (w2 u) → W p l e R s m args below meth c H1 locs1 cells slots Q (F0 m (pc + 3) ls (.ref (rad u) :: rest))) : W p l e R s m args below meth c H locs cells slots Q (F0 m pc ls st0) := by
  subst hst
  exact kc_rC hA h isC hC (va_runU S0 (hK H.size) (va_cwO n S0.2.2.2.2 gw rfl hR.1 hR.2.1 h0 hd ⟨hR.2.2.1, hR.2.2.2.1⟩) (preV hG h (preC hG hA h isC hnd hC hC2) ci q0 hc he) rfl hn hl rfl (lv_room hw) hdg ⟨hR.2.2.2.2.1, hR.2.2.2.2.2⟩) jn hadr kk
end CALL2
end
section
/-! numbers: rows over nI, and the reference's world -/
section NR
variable {p : Program} {l : Launch} {e : Env} {R : Room} {s : State} {m : MethodId} {args : Array Value} {below : List Frame} {meth : Method} {c : Code} {H : Heap} {locs : List Loc} {cells slots : Nat} {Q : State → Prop}
variable {cc : ByteArray} {pc : Nat} {ls : Array Slot} {rest : List Value}
theorem tN {x : Int32} {t : Nat} (e1 : x = nI t) (k : W p l e R s m args below meth c H locs cells slots Q (F0 m pc ls (.int (nI t) :: rest))) : W p l e R s m args below meth c H locs cells slots Q (F0 m pc ls (.int x :: rest)) := by rw [e1]; exact k
theorem tI {x : Int32} (t : Int32) (e1 : x = t) (k : W p l e R s m args below meth c H locs cells slots Q (F0 m pc ls (.int t :: rest))) : W p l e R s m args below meth c H locs cells slots Q (F0 m pc ls (.int x :: rest)) := by rw [e1]; exact k
theorem tL {x : Int64} (t : Int64) (e1 : x = t) (k : W p l e R s m args below meth c H locs cells slots Q (F0 m pc ls (.long t :: rest))) : W p l e R s m args below meth c H locs cells slots Q (F0 m pc ls (.long x :: rest)) := by rw [e1]; exact k
theorem n_add (hx : p.tables.exec = Jvm.exec) (hb : c.code = cc) {x y : Nat} (hdg : decode cc pc = .ok (.iadd, 1)) (k : W p l e R s m args below meth c H locs cells slots Q (F0 m (pc + 1) ls (.int (nI (x + y)) :: rest))) : W p l e R s m args below meth c H locs cells slots Q (F0 m pc ls (.int (nI y) :: .int (nI x) :: rest)) := lv_iadd hx hb hdg (by rw [nI_add]; exact k)
theorem n_sub (hx : p.tables.exec = Jvm.exec) (hb : c.code = cc) {x y : Nat} (hle : y ≤ x) (hdg : decode cc pc = .ok (.isub, 1)) (k : W p l e R s m args below meth c H locs cells slots Q (F0 m (pc + 1) ls (.int (nI (x - y)) :: rest))) : W p l e R s m args below meth c H locs cells slots Q (F0 m pc ls (.int (nI y) :: .int (nI x) :: rest)) := lv_isub hx hb hdg (by rw [pk_sub hle]; exact k)
theorem n_mul (hx : p.tables.exec = Jvm.exec) (hb : c.code = cc) {x y : Nat} (hdg : decode cc pc = .ok (.imul, 1)) (k : W p l e R s m args below meth c H locs cells slots Q (F0 m (pc + 1) ls (.int (nI (x * y)) :: rest))) : W p l e R s m args below meth c H locs cells slots Q (F0 m pc ls (.int (nI y) :: .int (nI x) :: rest)) := lv_imul hx hb hdg (by rw [pk_mul]; exact k)
theorem n_div (hx : p.tables.exec = Jvm.exec) (hb : c.code = cc) {x y : Nat} (hb1 : x < 2147483648) (h0 : 0 < y) (hb2 : y < 2147483648) (hdg : decode cc pc = .ok (.idiv, 1)) (k : W p l e R s m args below meth c H locs cells slots Q (F0 m (pc + 1) ls (.int (nI (x / y)) :: rest))) : W p l e R s m args below meth c H locs cells slots Q (F0 m pc ls (.int (nI y) :: .int (nI x) :: rest)) := lv_idiv hx hb hdg (nI_ne0 h0 hb2) (by rw [pk_div hb1 h0 hb2]; exact k)
theorem n_rem (hx : p.tables.exec = Jvm.exec) (hb : c.code = cc) {x y : Nat} (hb1 : x < 2147483648) (h0 : 0 < y) (hb2 : y < 2147483648) (hdg : decode cc pc = .ok (.irem, 1)) (k : W p l e R s m args below meth c H locs cells slots Q (F0 m (pc + 1) ls (.int (nI (x % y)) :: rest))) : W p l e R s m args below meth c H locs cells slots Q (F0 m pc ls (.int (nI y) :: .int (nI x) :: rest)) := lv_irem hx hb hdg (nI_ne0 h0 hb2) (by rw [pk_rem hb1 h0 hb2]; exact k)
theorem inc_1 (x : Nat) : nI x + Int32.ofInt 1 = nI (x + 1) := nI_1 x
theorem inc_c (x c : Nat) : nI x + Int32.ofInt (c : Int) = nI (x + c) := by
  have h : Int32.ofInt (c : Int) = nI c := by unfold nI; rw [Int32.ofInt_eq_ofNat]
  rw [h, nI_add]
theorem n_clt (hx : p.tables.exec = Jvm.exec) (hb : c.code = cc) {x y : Nat} (hb1 : x < 2147483648) (hb2 : y < 2147483648) {off : Int} {tgt : Nat} (hdg : decode cc pc = .ok (.if_icmp .lt off, 3)) (ht : (pc : Int) + off = (tgt : Int)) (kt : x < y → W p l e R s m args below meth c H locs cells slots Q (F0 m tgt ls rest)) (kf : y ≤ x → W p l e R s m args below meth c H locs cells slots Q (F0 m (pc + 3) ls rest)) : W p l e R s m args below meth c H locs cells slots Q (F0 m pc ls (.int (nI y) :: .int (nI x) :: rest)) := by
  have i1 := nI_ltI hb1 hb2
  have i2 := nI_ltI hb2 hb1
  have i3 := nI_leI hb1 hb2
  have i4 := nI_leI hb2 hb1
  have i5 := nI_eq hb1 hb2
  refine lv_icmp_lt hx hb hdg ht (fun q => kt ?_) (fun q => kf ?_)
  · first | exact i1.mp q | exact i2.mp q | exact i3.mp q | exact i4.mp q | exact i5.mp q | exact fun z => q (i5.mpr z)
  · first | exact Nat.le_of_not_lt (fun z => q (i1.mpr z)) | exact Nat.le_of_not_lt (fun z => q (i2.mpr z)) | exact Nat.lt_of_not_le (fun z => q (i3.mpr z)) | exact Nat.lt_of_not_le (fun z => q (i4.mpr z)) | exact fun z => q (i5.mpr z) | exact i5.mp q
theorem n_cge (hx : p.tables.exec = Jvm.exec) (hb : c.code = cc) {x y : Nat} (hb1 : x < 2147483648) (hb2 : y < 2147483648) {off : Int} {tgt : Nat} (hdg : decode cc pc = .ok (.if_icmp .ge off, 3)) (ht : (pc : Int) + off = (tgt : Int)) (kt : y ≤ x → W p l e R s m args below meth c H locs cells slots Q (F0 m tgt ls rest)) (kf : x < y → W p l e R s m args below meth c H locs cells slots Q (F0 m (pc + 3) ls rest)) : W p l e R s m args below meth c H locs cells slots Q (F0 m pc ls (.int (nI y) :: .int (nI x) :: rest)) := by
  have i1 := nI_ltI hb1 hb2
  have i2 := nI_ltI hb2 hb1
  have i3 := nI_leI hb1 hb2
  have i4 := nI_leI hb2 hb1
  have i5 := nI_eq hb1 hb2
  refine lv_icmp_ge hx hb hdg ht (fun q => kt ?_) (fun q => kf ?_)
  · first | exact i1.mp q | exact i2.mp q | exact i3.mp q | exact i4.mp q | exact i5.mp q | exact fun z => q (i5.mpr z)
  · first | exact Nat.le_of_not_lt (fun z => q (i1.mpr z)) | exact Nat.le_of_not_lt (fun z => q (i2.mpr z)) | exact Nat.lt_of_not_le (fun z => q (i3.mpr z)) | exact Nat.lt_of_not_le (fun z => q (i4.mpr z)) | exact fun z => q (i5.mpr z) | exact i5.mp q
theorem n_cgt (hx : p.tables.exec = Jvm.exec) (hb : c.code = cc) {x y : Nat} (hb1 : x < 2147483648) (hb2 : y < 2147483648) {off : Int} {tgt : Nat} (hdg : decode cc pc = .ok (.if_icmp .gt off, 3)) (ht : (pc : Int) + off = (tgt : Int)) (kt : y < x → W p l e R s m args below meth c H locs cells slots Q (F0 m tgt ls rest)) (kf : x ≤ y → W p l e R s m args below meth c H locs cells slots Q (F0 m (pc + 3) ls rest)) : W p l e R s m args below meth c H locs cells slots Q (F0 m pc ls (.int (nI y) :: .int (nI x) :: rest)) := by
  have i1 := nI_ltI hb1 hb2
  have i2 := nI_ltI hb2 hb1
  have i3 := nI_leI hb1 hb2
  have i4 := nI_leI hb2 hb1
  have i5 := nI_eq hb1 hb2
  refine lv_icmp_gt hx hb hdg ht (fun q => kt ?_) (fun q => kf ?_)
  · first | exact i1.mp q | exact i2.mp q | exact i3.mp q | exact i4.mp q | exact i5.mp q | exact fun z => q (i5.mpr z)
  · first | exact Nat.le_of_not_lt (fun z => q (i1.mpr z)) | exact Nat.le_of_not_lt (fun z => q (i2.mpr z)) | exact Nat.lt_of_not_le (fun z => q (i3.mpr z)) | exact Nat.lt_of_not_le (fun z => q (i4.mpr z)) | exact fun z => q (i5.mpr z) | exact i5.mp q
theorem n_cle (hx : p.tables.exec = Jvm.exec) (hb : c.code = cc) {x y : Nat} (hb1 : x < 2147483648) (hb2 : y < 2147483648) {off : Int} {tgt : Nat} (hdg : decode cc pc = .ok (.if_icmp .le off, 3)) (ht : (pc : Int) + off = (tgt : Int)) (kt : x ≤ y → W p l e R s m args below meth c H locs cells slots Q (F0 m tgt ls rest)) (kf : y < x → W p l e R s m args below meth c H locs cells slots Q (F0 m (pc + 3) ls rest)) : W p l e R s m args below meth c H locs cells slots Q (F0 m pc ls (.int (nI y) :: .int (nI x) :: rest)) := by
  have i1 := nI_ltI hb1 hb2
  have i2 := nI_ltI hb2 hb1
  have i3 := nI_leI hb1 hb2
  have i4 := nI_leI hb2 hb1
  have i5 := nI_eq hb1 hb2
  refine lv_icmp_le hx hb hdg ht (fun q => kt ?_) (fun q => kf ?_)
  · first | exact i1.mp q | exact i2.mp q | exact i3.mp q | exact i4.mp q | exact i5.mp q | exact fun z => q (i5.mpr z)
  · first | exact Nat.le_of_not_lt (fun z => q (i1.mpr z)) | exact Nat.le_of_not_lt (fun z => q (i2.mpr z)) | exact Nat.lt_of_not_le (fun z => q (i3.mpr z)) | exact Nat.lt_of_not_le (fun z => q (i4.mpr z)) | exact fun z => q (i5.mpr z) | exact i5.mp q
theorem n_ceq (hx : p.tables.exec = Jvm.exec) (hb : c.code = cc) {x y : Nat} (hb1 : x < 2147483648) (hb2 : y < 2147483648) {off : Int} {tgt : Nat} (hdg : decode cc pc = .ok (.if_icmp .eq off, 3)) (ht : (pc : Int) + off = (tgt : Int)) (kt : x = y → W p l e R s m args below meth c H locs cells slots Q (F0 m tgt ls rest)) (kf : x ≠ y → W p l e R s m args below meth c H locs cells slots Q (F0 m (pc + 3) ls rest)) : W p l e R s m args below meth c H locs cells slots Q (F0 m pc ls (.int (nI y) :: .int (nI x) :: rest)) := by
  have i1 := nI_ltI hb1 hb2
  have i2 := nI_ltI hb2 hb1
  have i3 := nI_leI hb1 hb2
  have i4 := nI_leI hb2 hb1
  have i5 := nI_eq hb1 hb2
  refine lv_icmp_eq hx hb hdg ht (fun q => kt ?_) (fun q => kf ?_)
  · first | exact i1.mp q | exact i2.mp q | exact i3.mp q | exact i4.mp q | exact i5.mp q | exact fun z => q (i5.mpr z)
  · first | exact Nat.le_of_not_lt (fun z => q (i1.mpr z)) | exact Nat.le_of_not_lt (fun z => q (i2.mpr z)) | exact Nat.lt_of_not_le (fun z => q (i3.mpr z)) | exact Nat.lt_of_not_le (fun z => q (i4.mpr z)) | exact fun z => q (i5.mpr z) | exact i5.mp q
theorem n_cne (hx : p.tables.exec = Jvm.exec) (hb : c.code = cc) {x y : Nat} (hb1 : x < 2147483648) (hb2 : y < 2147483648) {off : Int} {tgt : Nat} (hdg : decode cc pc = .ok (.if_icmp .ne off, 3)) (ht : (pc : Int) + off = (tgt : Int)) (kt : x ≠ y → W p l e R s m args below meth c H locs cells slots Q (F0 m tgt ls rest)) (kf : x = y → W p l e R s m args below meth c H locs cells slots Q (F0 m (pc + 3) ls rest)) : W p l e R s m args below meth c H locs cells slots Q (F0 m pc ls (.int (nI y) :: .int (nI x) :: rest)) := by
  have i1 := nI_ltI hb1 hb2
  have i2 := nI_ltI hb2 hb1
  have i3 := nI_leI hb1 hb2
  have i4 := nI_leI hb2 hb1
  have i5 := nI_eq hb1 hb2
  refine lv_icmp_ne hx hb hdg ht (fun q => kt ?_) (fun q => kf ?_)
  · first | exact i1.mp q | exact i2.mp q | exact i3.mp q | exact i4.mp q | exact i5.mp q | exact fun z => q (i5.mpr z)
  · first | exact Nat.le_of_not_lt (fun z => q (i1.mpr z)) | exact Nat.le_of_not_lt (fun z => q (i2.mpr z)) | exact Nat.lt_of_not_le (fun z => q (i3.mpr z)) | exact Nat.lt_of_not_le (fun z => q (i4.mpr z)) | exact fun z => q (i5.mpr z) | exact i5.mp q
theorem n_zeq (hx : p.tables.exec = Jvm.exec) (hb : c.code = cc) {x : Nat} (hb1 : x < 2147483648) {off : Int} {tgt : Nat} (hdg : decode cc pc = .ok (.ifCond .eq off, 3)) (ht : (pc : Int) + off = (tgt : Int)) (kt : x = 0 → W p l e R s m args below meth c H locs cells slots Q (F0 m tgt ls rest)) (kf : 0 < x → W p l e R s m args below meth c H locs cells slots Q (F0 m (pc + 3) ls rest)) : W p l e R s m args below meth c H locs cells slots Q (F0 m pc ls (.int (nI x) :: rest)) := by
  have i1 : nI x = 0 ↔ x = 0 := nI_eq (b := 0) hb1 (by omega)
  have i2 : (0 : Int32) < nI x ↔ 0 < x := nI_ltI (a := 0) (by omega) hb1
  have i3 : nI x ≤ 0 ↔ x ≤ 0 := nI_leI (b := 0) hb1 (by omega)
  refine lv_if_eq hx hb hdg ht (fun q => kt ?_) (fun q => kf ?_)
  · first | exact i1.mp q | exact i2.mp q | exact Nat.le_zero.mp (i3.mp q) | exact Nat.pos_of_ne_zero (fun z => q (i1.mpr z))
  · first | exact Nat.pos_of_ne_zero (fun z => q (i1.mpr z)) | exact Nat.eq_zero_of_not_pos (fun z => q (i2.mpr z)) | exact Nat.lt_of_not_le (fun z => q (i3.mpr z)) | exact i1.mp q
theorem n_zne (hx : p.tables.exec = Jvm.exec) (hb : c.code = cc) {x : Nat} (hb1 : x < 2147483648) {off : Int} {tgt : Nat} (hdg : decode cc pc = .ok (.ifCond .ne off, 3)) (ht : (pc : Int) + off = (tgt : Int)) (kt : 0 < x → W p l e R s m args below meth c H locs cells slots Q (F0 m tgt ls rest)) (kf : x = 0 → W p l e R s m args below meth c H locs cells slots Q (F0 m (pc + 3) ls rest)) : W p l e R s m args below meth c H locs cells slots Q (F0 m pc ls (.int (nI x) :: rest)) := by
  have i1 : nI x = 0 ↔ x = 0 := nI_eq (b := 0) hb1 (by omega)
  have i2 : (0 : Int32) < nI x ↔ 0 < x := nI_ltI (a := 0) (by omega) hb1
  have i3 : nI x ≤ 0 ↔ x ≤ 0 := nI_leI (b := 0) hb1 (by omega)
  refine lv_if_ne hx hb hdg ht (fun q => kt ?_) (fun q => kf ?_)
  · first | exact i1.mp q | exact i2.mp q | exact Nat.le_zero.mp (i3.mp q) | exact Nat.pos_of_ne_zero (fun z => q (i1.mpr z))
  · first | exact Nat.pos_of_ne_zero (fun z => q (i1.mpr z)) | exact Nat.eq_zero_of_not_pos (fun z => q (i2.mpr z)) | exact Nat.lt_of_not_le (fun z => q (i3.mpr z)) | exact i1.mp q
theorem n_zgt (hx : p.tables.exec = Jvm.exec) (hb : c.code = cc) {x : Nat} (hb1 : x < 2147483648) {off : Int} {tgt : Nat} (hdg : decode cc pc = .ok (.ifCond .gt off, 3)) (ht : (pc : Int) + off = (tgt : Int)) (kt : 0 < x → W p l e R s m args below meth c H locs cells slots Q (F0 m tgt ls rest)) (kf : x = 0 → W p l e R s m args below meth c H locs cells slots Q (F0 m (pc + 3) ls rest)) : W p l e R s m args below meth c H locs cells slots Q (F0 m pc ls (.int (nI x) :: rest)) := by
  have i1 : nI x = 0 ↔ x = 0 := nI_eq (b := 0) hb1 (by omega)
  have i2 : (0 : Int32) < nI x ↔ 0 < x := nI_ltI (a := 0) (by omega) hb1
  have i3 : nI x ≤ 0 ↔ x ≤ 0 := nI_leI (b := 0) hb1 (by omega)
  refine lv_if_gt hx hb hdg ht (fun q => kt ?_) (fun q => kf ?_)
  · first | exact i1.mp q | exact i2.mp q | exact Nat.le_zero.mp (i3.mp q) | exact Nat.pos_of_ne_zero (fun z => q (i1.mpr z))
  · first | exact Nat.pos_of_ne_zero (fun z => q (i1.mpr z)) | exact Nat.eq_zero_of_not_pos (fun z => q (i2.mpr z)) | exact Nat.lt_of_not_le (fun z => q (i3.mpr z)) | exact i1.mp q
theorem n_zle (hx : p.tables.exec = Jvm.exec) (hb : c.code = cc) {x : Nat} (hb1 : x < 2147483648) {off : Int} {tgt : Nat} (hdg : decode cc pc = .ok (.ifCond .le off, 3)) (ht : (pc : Int) + off = (tgt : Int)) (kt : x = 0 → W p l e R s m args below meth c H locs cells slots Q (F0 m tgt ls rest)) (kf : 0 < x → W p l e R s m args below meth c H locs cells slots Q (F0 m (pc + 3) ls rest)) : W p l e R s m args below meth c H locs cells slots Q (F0 m pc ls (.int (nI x) :: rest)) := by
  have i1 : nI x = 0 ↔ x = 0 := nI_eq (b := 0) hb1 (by omega)
  have i2 : (0 : Int32) < nI x ↔ 0 < x := nI_ltI (a := 0) (by omega) hb1
  have i3 : nI x ≤ 0 ↔ x ≤ 0 := nI_leI (b := 0) hb1 (by omega)
  refine lv_if_le hx hb hdg ht (fun q => kt ?_) (fun q => kf ?_)
  · first | exact i1.mp q | exact i2.mp q | exact Nat.le_zero.mp (i3.mp q) | exact Nat.pos_of_ne_zero (fun z => q (i1.mpr z))
  · first | exact Nat.pos_of_ne_zero (fun z => q (i1.mpr z)) | exact Nat.eq_zero_of_not_pos (fun z => q (i2.mpr z)) | exact Nat.lt_of_not_le (fun z => q (i3.mpr z)) | exact i1.mp q
theorem n_zlt (hx : p.tables.exec = Jvm.exec) (hb : c.code = cc) {x : Nat} (hb1 : x < 2147483648) {off : Int} {tgt : Nat} (hdg : decode cc pc = .ok (.ifCond .lt off, 3)) (ht : (pc : Int) + off = (tgt : Int)) (kf : W p l e R s m args below meth c H locs cells slots Q (F0 m (pc + 3) ls rest)) : W p l e R s m args below meth c H locs cells slots Q (F0 m pc ls (.int (nI x) :: rest)) := lv_if_lt hx hb hdg ht (fun q => absurd q (nI_pos hb1)) (fun _ => kf)
theorem n_zge (hx : p.tables.exec = Jvm.exec) (hb : c.code = cc) {x : Nat} (hb1 : x < 2147483648) {off : Int} {tgt : Nat} (hdg : decode cc pc = .ok (.ifCond .ge off, 3)) (ht : (pc : Int) + off = (tgt : Int)) (kt : W p l e R s m args below meth c H locs cells slots Q (F0 m tgt ls rest)) : W p l e R s m args below meth c H locs cells slots Q (F0 m pc ls (.int (nI x) :: rest)) := lv_if_ge hx hb hdg ht (fun _ => kt) (fun q => absurd (nI_pos' hb1) q)
end NR
/-- the reference: its fields and its rows -/
def wM (G : GT) (a : Nat → Nat) (f g o d st du tb bi si : Nat → Nat) (nu mo : Nat → Int64) (kp it tn fr to vl wr : Nat) : va_W := [(a 0, .inr (11, [.ref (a 1), .ref (a 2), .ref (a 3), .ref (a 4), .ref (a 5), .ref (a 6), .int (nI kp), .int (nI it), .ref (a 7), .int (nI tn), .int (nI fr), .int (nI to), .int (nI vl), .int (nI wr), .ref (a 8), .ref (a 9), .ref (a 10), .ref (a 11)])), (a 1, .inl (gI G, 51, .inl (fun i => nI (f i)))), (a 2, .inl (gI G, 51, .inl (fun i => nI (g i)))), (a 3, .inl (gI G, 51, .inl (fun i => nI (o i)))), (a 4, .inl (gI G, 51, .inl (fun i => nI (d i)))), (a 5, .inl (gI G, 7, .inl (fun i => nI (st i)))), (a 6, .inl (gI G, 8, .inl (fun i => nI (du i)))), (a 7, .inl (gI G, 120, .inl (fun i => nI (tb i)))), (a 8, .inl (gI G, 4, .inl (fun i => nI (bi i)))), (a 9, .inl (gI G, 4, .inl (fun i => nI (si i)))), (a 10, .inl (gJ G, 160, .inr (.inl nu))), (a 11, .inl (gJ G, 40, .inr (.inl mo)))]
section MR
variable {p : Program} {l : Launch} {e : Env} {R : Room} {s : State} {m : MethodId} {args : Array Value} {below : List Frame} {meth : Method} {c : Code} {H : Heap} {locs : List Loc} {cells slots : Nat} {Q : State → Prop}
variable {cc : ByteArray} {pc nL : Nat} {ls : Array Slot} {rest : List Value} {A : Nat → Prop} {G : GT} {a : Nat → Nat} {f g o d st du tb bi si : Nat → Nat} {nu mo : Nat → Int64} {kp it tn fr to vl wr : Nat}
theorem lkM_s : Cond.fieldLink RX11 7 "ComposedIntervalModel" "s" "[I" ∈ wsL_law := rin5 _ (List.mem_of_getElem? (i := 15) rfl)
theorem gM_s (S0 : CF p m c cc nL s args RX11) (hG : GX G A s) (h : WX G A s H locs (wM G a f g o d st du tb bi si nu mo kp it tn fr to vl wr)) (hdg : decode cc pc = .ok (.getfield 7, 3)) (kk : W p l e R s m args below meth c H locs cells slots Q (F0 m (pc + 3) ls (.ref (a 1) :: rest))) : W p l e R s m args below meth c H locs cells slots Q (F0 m pc ls (.ref (a 0) :: rest)) :=
  va_get S0.1 S0.2.1 S0.2.2.2.2 inlX11 S0.2.2.2.1 hG.2.2.1 h.1 0 rfl rfl 0 (by decide) (S0.2.2.2.2 _ lkM_s) (fun _ h => h) rfl hdg kk
theorem lkM_keptS : Cond.fieldLink RX11 13 "ComposedIntervalModel" "keptS" "[I" ∈ wsL_law := rin5 _ (List.mem_of_getElem? (i := 16) rfl)
theorem gM_keptS (S0 : CF p m c cc nL s args RX11) (hG : GX G A s) (h : WX G A s H locs (wM G a f g o d st du tb bi si nu mo kp it tn fr to vl wr)) (hdg : decode cc pc = .ok (.getfield 13, 3)) (kk : W p l e R s m args below meth c H locs cells slots Q (F0 m (pc + 3) ls (.ref (a 2) :: rest))) : W p l e R s m args below meth c H locs cells slots Q (F0 m pc ls (.ref (a 0) :: rest)) :=
  va_get S0.1 S0.2.1 S0.2.2.2.2 inlX11 S0.2.2.2.1 hG.2.2.1 h.1 0 rfl rfl 1 (by decide) (S0.2.2.2.2 _ lkM_keptS) (fun _ h => h) rfl hdg kk
theorem lkM_other : Cond.fieldLink RX11 16 "ComposedIntervalModel" "other" "[I" ∈ wsL_law := rin5 _ (List.mem_of_getElem? (i := 17) rfl)
theorem gM_other (S0 : CF p m c cc nL s args RX11) (hG : GX G A s) (h : WX G A s H locs (wM G a f g o d st du tb bi si nu mo kp it tn fr to vl wr)) (hdg : decode cc pc = .ok (.getfield 16, 3)) (kk : W p l e R s m args below meth c H locs cells slots Q (F0 m (pc + 3) ls (.ref (a 3) :: rest))) : W p l e R s m args below meth c H locs cells slots Q (F0 m pc ls (.ref (a 0) :: rest)) :=
  va_get S0.1 S0.2.1 S0.2.2.2.2 inlX11 S0.2.2.2.1 hG.2.2.1 h.1 0 rfl rfl 2 (by decide) (S0.2.2.2.2 _ lkM_other) (fun _ h => h) rfl hdg kk
theorem lkM_aside : Cond.fieldLink RX11 19 "ComposedIntervalModel" "aside" "[I" ∈ wsL_law := rin5 _ (List.mem_of_getElem? (i := 18) rfl)
theorem gM_aside (S0 : CF p m c cc nL s args RX11) (hG : GX G A s) (h : WX G A s H locs (wM G a f g o d st du tb bi si nu mo kp it tn fr to vl wr)) (hdg : decode cc pc = .ok (.getfield 19, 3)) (kk : W p l e R s m args below meth c H locs cells slots Q (F0 m (pc + 3) ls (.ref (a 4) :: rest))) : W p l e R s m args below meth c H locs cells slots Q (F0 m pc ls (.ref (a 0) :: rest)) :=
  va_get S0.1 S0.2.1 S0.2.2.2.2 inlX11 S0.2.2.2.1 hG.2.2.1 h.1 0 rfl rfl 3 (by decide) (S0.2.2.2.2 _ lkM_aside) (fun _ h => h) rfl hdg kk
theorem lkM_statuses : Cond.fieldLink RX11 22 "ComposedIntervalModel" "statuses" "[I" ∈ wsL_law := rin5 _ (List.mem_of_getElem? (i := 19) rfl)
theorem gM_statuses (S0 : CF p m c cc nL s args RX11) (hG : GX G A s) (h : WX G A s H locs (wM G a f g o d st du tb bi si nu mo kp it tn fr to vl wr)) (hdg : decode cc pc = .ok (.getfield 22, 3)) (kk : W p l e R s m args below meth c H locs cells slots Q (F0 m (pc + 3) ls (.ref (a 5) :: rest))) : W p l e R s m args below meth c H locs cells slots Q (F0 m pc ls (.ref (a 0) :: rest)) :=
  va_get S0.1 S0.2.1 S0.2.2.2.2 inlX11 S0.2.2.2.1 hG.2.2.1 h.1 0 rfl rfl 4 (by decide) (S0.2.2.2.2 _ lkM_statuses) (fun _ h => h) rfl hdg kk
theorem lkM_due : Cond.fieldLink RX11 25 "ComposedIntervalModel" "due" "[I" ∈ wsL_law := rin5 _ (List.mem_of_getElem? (i := 20) rfl)
theorem gM_due (S0 : CF p m c cc nL s args RX11) (hG : GX G A s) (h : WX G A s H locs (wM G a f g o d st du tb bi si nu mo kp it tn fr to vl wr)) (hdg : decode cc pc = .ok (.getfield 25, 3)) (kk : W p l e R s m args below meth c H locs cells slots Q (F0 m (pc + 3) ls (.ref (a 6) :: rest))) : W p l e R s m args below meth c H locs cells slots Q (F0 m pc ls (.ref (a 0) :: rest)) :=
  va_get S0.1 S0.2.1 S0.2.2.2.2 inlX11 S0.2.2.2.1 hG.2.2.1 h.1 0 rfl rfl 5 (by decide) (S0.2.2.2.2 _ lkM_due) (fun _ h => h) rfl hdg kk
theorem lkM_isKept : Cond.fieldLink RX11 297 "ComposedIntervalModel" "isKept" "Z" ∈ wsL_law := rin40 _ (List.mem_of_getElem? (i := 1) rfl)
theorem gM_isKept (S0 : CF p m c cc nL s args RX11) (hG : GX G A s) (h : WX G A s H locs (wM G a f g o d st du tb bi si nu mo kp it tn fr to vl wr)) (hdg : decode cc pc = .ok (.getfield 297, 3)) (kk : W p l e R s m args below meth c H locs cells slots Q (F0 m (pc + 3) ls (.int (nI kp) :: rest))) : W p l e R s m args below meth c H locs cells slots Q (F0 m pc ls (.ref (a 0) :: rest)) :=
  va_get S0.1 S0.2.1 S0.2.2.2.2 inlX11 S0.2.2.2.1 hG.2.2.1 h.1 0 rfl rfl 6 (by decide) (S0.2.2.2.2 _ lkM_isKept) (fun _ h => h) rfl hdg kk
theorem pM_isKept {v : Nat} (S0 : CF p m c cc nL s args RX11) (hG : GX G A s) (h : WX G A s H locs (wM G a f g o d st du tb bi si nu mo kp it tn fr to vl wr)) (hz : v ≤ 1) (hdg : decode cc pc = .ok (.putfield 297, 3)) (kk : ∀ (H1 : Heap) (locs1 : List Loc), WX G A s H1 locs1 (wM G a f g o d st du tb bi si nu mo v it tn fr to vl wr) → W p l e R s m args below meth c H1 locs1 cells slots Q (F0 m (pc + 3) ls rest)) : W p l e R s m args below meth c H locs cells slots Q (F0 m pc ls (.int (nI v) :: .ref (a 0) :: rest)) :=
  va_put (ty := .boolean) S0.1 S0.2.1 S0.2.2.2.2 inlX11 tyX11 tyX11_ok nmX11 S0.2.2.2.1 hG.2.2.1 h.1 h.2.1 h.2.2 0 rfl rfl 6 (by decide) (S0.2.2.2.2 _ lkM_isKept) (fun _ h => h) rfl (by decide +kernel) (nz_bool (by rcases (show v = 0 ∨ v = 1 by omega) with rfl | rfl <;> decide)) (by rcases (show v = 0 ∨ v = 1 by omega) with rfl | rfl <;> decide) (Nat.le_of_ble_eq_true rfl) hdg (fun H1 locs1 hP hD hS => kk H1 locs1 ⟨hP, hD, hS⟩)
theorem lkM_inTime : Cond.fieldLink RX11 147 "ComposedIntervalModel" "inTime" "I" ∈ wsL_law := rin21 _ (List.mem_of_getElem? (i := 23) rfl)
theorem gM_inTime (S0 : CF p m c cc nL s args RX11) (hG : GX G A s) (h : WX G A s H locs (wM G a f g o d st du tb bi si nu mo kp it tn fr to vl wr)) (hdg : decode cc pc = .ok (.getfield 147, 3)) (kk : W p l e R s m args below meth c H locs cells slots Q (F0 m (pc + 3) ls (.int (nI it) :: rest))) : W p l e R s m args below meth c H locs cells slots Q (F0 m pc ls (.ref (a 0) :: rest)) :=
  va_get S0.1 S0.2.1 S0.2.2.2.2 inlX11 S0.2.2.2.1 hG.2.2.1 h.1 0 rfl rfl 7 (by decide) (S0.2.2.2.2 _ lkM_inTime) (fun _ h => h) rfl hdg kk
theorem pM_inTime {v : Nat} (S0 : CF p m c cc nL s args RX11) (hG : GX G A s) (h : WX G A s H locs (wM G a f g o d st du tb bi si nu mo kp it tn fr to vl wr)) (hdg : decode cc pc = .ok (.putfield 147, 3)) (kk : ∀ (H1 : Heap) (locs1 : List Loc), WX G A s H1 locs1 (wM G a f g o d st du tb bi si nu mo kp v tn fr to vl wr) → W p l e R s m args below meth c H1 locs1 cells slots Q (F0 m (pc + 3) ls rest)) : W p l e R s m args below meth c H locs cells slots Q (F0 m pc ls (.int (nI v) :: .ref (a 0) :: rest)) :=
  va_put (ty := .int) S0.1 S0.2.1 S0.2.2.2.2 inlX11 tyX11 tyX11_ok nmX11 S0.2.2.2.1 hG.2.2.1 h.1 h.2.1 h.2.2 0 rfl rfl 7 (by decide) (S0.2.2.2.2 _ lkM_inTime) (fun _ h => h) rfl (by decide +kernel) rfl rfl (Nat.le_of_ble_eq_true rfl) hdg (fun H1 locs1 hP hD hS => kk H1 locs1 ⟨hP, hD, hS⟩)
theorem lkM_tape : Cond.fieldLink RX11 28 "ComposedIntervalModel" "tape" "[I" ∈ wsL_law := rin5 _ (List.mem_of_getElem? (i := 21) rfl)
theorem gM_tape (S0 : CF p m c cc nL s args RX11) (hG : GX G A s) (h : WX G A s H locs (wM G a f g o d st du tb bi si nu mo kp it tn fr to vl wr)) (hdg : decode cc pc = .ok (.getfield 28, 3)) (kk : W p l e R s m args below meth c H locs cells slots Q (F0 m (pc + 3) ls (.ref (a 7) :: rest))) : W p l e R s m args below meth c H locs cells slots Q (F0 m pc ls (.ref (a 0) :: rest)) :=
  va_get S0.1 S0.2.1 S0.2.2.2.2 inlX11 S0.2.2.2.1 hG.2.2.1 h.1 0 rfl rfl 8 (by decide) (S0.2.2.2.2 _ lkM_tape) (fun _ h => h) rfl hdg kk
theorem lkM_taped : Cond.fieldLink RX11 191 "ComposedIntervalModel" "taped" "I" ∈ wsL_law := rin28 _ (List.mem_of_getElem? (i := 10) rfl)
theorem gM_taped (S0 : CF p m c cc nL s args RX11) (hG : GX G A s) (h : WX G A s H locs (wM G a f g o d st du tb bi si nu mo kp it tn fr to vl wr)) (hdg : decode cc pc = .ok (.getfield 191, 3)) (kk : W p l e R s m args below meth c H locs cells slots Q (F0 m (pc + 3) ls (.int (nI tn) :: rest))) : W p l e R s m args below meth c H locs cells slots Q (F0 m pc ls (.ref (a 0) :: rest)) :=
  va_get S0.1 S0.2.1 S0.2.2.2.2 inlX11 S0.2.2.2.1 hG.2.2.1 h.1 0 rfl rfl 9 (by decide) (S0.2.2.2.2 _ lkM_taped) (fun _ h => h) rfl hdg kk
theorem pM_taped {v : Nat} (S0 : CF p m c cc nL s args RX11) (hG : GX G A s) (h : WX G A s H locs (wM G a f g o d st du tb bi si nu mo kp it tn fr to vl wr)) (hdg : decode cc pc = .ok (.putfield 191, 3)) (kk : ∀ (H1 : Heap) (locs1 : List Loc), WX G A s H1 locs1 (wM G a f g o d st du tb bi si nu mo kp it v fr to vl wr) → W p l e R s m args below meth c H1 locs1 cells slots Q (F0 m (pc + 3) ls rest)) : W p l e R s m args below meth c H locs cells slots Q (F0 m pc ls (.int (nI v) :: .ref (a 0) :: rest)) :=
  va_put (ty := .int) S0.1 S0.2.1 S0.2.2.2.2 inlX11 tyX11 tyX11_ok nmX11 S0.2.2.2.1 hG.2.2.1 h.1 h.2.1 h.2.2 0 rfl rfl 9 (by decide) (S0.2.2.2.2 _ lkM_taped) (fun _ h => h) rfl (by decide +kernel) rfl rfl (Nat.le_of_ble_eq_true rfl) hdg (fun H1 locs1 hP hD hS => kk H1 locs1 ⟨hP, hD, hS⟩)
theorem lkM_from : Cond.fieldLink RX11 205 "ComposedIntervalModel" "from" "I" ∈ wsL_law := rin32 _ (List.mem_of_getElem? (i := 22) rfl)
theorem gM_from (S0 : CF p m c cc nL s args RX11) (hG : GX G A s) (h : WX G A s H locs (wM G a f g o d st du tb bi si nu mo kp it tn fr to vl wr)) (hdg : decode cc pc = .ok (.getfield 205, 3)) (kk : W p l e R s m args below meth c H locs cells slots Q (F0 m (pc + 3) ls (.int (nI fr) :: rest))) : W p l e R s m args below meth c H locs cells slots Q (F0 m pc ls (.ref (a 0) :: rest)) :=
  va_get S0.1 S0.2.1 S0.2.2.2.2 inlX11 S0.2.2.2.1 hG.2.2.1 h.1 0 rfl rfl 10 (by decide) (S0.2.2.2.2 _ lkM_from) (fun _ h => h) rfl hdg kk
theorem pM_from {v : Nat} (S0 : CF p m c cc nL s args RX11) (hG : GX G A s) (h : WX G A s H locs (wM G a f g o d st du tb bi si nu mo kp it tn fr to vl wr)) (hdg : decode cc pc = .ok (.putfield 205, 3)) (kk : ∀ (H1 : Heap) (locs1 : List Loc), WX G A s H1 locs1 (wM G a f g o d st du tb bi si nu mo kp it tn v to vl wr) → W p l e R s m args below meth c H1 locs1 cells slots Q (F0 m (pc + 3) ls rest)) : W p l e R s m args below meth c H locs cells slots Q (F0 m pc ls (.int (nI v) :: .ref (a 0) :: rest)) :=
  va_put (ty := .int) S0.1 S0.2.1 S0.2.2.2.2 inlX11 tyX11 tyX11_ok nmX11 S0.2.2.2.1 hG.2.2.1 h.1 h.2.1 h.2.2 0 rfl rfl 10 (by decide) (S0.2.2.2.2 _ lkM_from) (fun _ h => h) rfl (by decide +kernel) rfl rfl (Nat.le_of_ble_eq_true rfl) hdg (fun H1 locs1 hP hD hS => kk H1 locs1 ⟨hP, hD, hS⟩)
theorem lkM_to : Cond.fieldLink RX11 202 "ComposedIntervalModel" "to" "I" ∈ wsL_law := rin32 _ (List.mem_of_getElem? (i := 21) rfl)
theorem gM_to (S0 : CF p m c cc nL s args RX11) (hG : GX G A s) (h : WX G A s H locs (wM G a f g o d st du tb bi si nu mo kp it tn fr to vl wr)) (hdg : decode cc pc = .ok (.getfield 202, 3)) (kk : W p l e R s m args below meth c H locs cells slots Q (F0 m (pc + 3) ls (.int (nI to) :: rest))) : W p l e R s m args below meth c H locs cells slots Q (F0 m pc ls (.ref (a 0) :: rest)) :=
  va_get S0.1 S0.2.1 S0.2.2.2.2 inlX11 S0.2.2.2.1 hG.2.2.1 h.1 0 rfl rfl 11 (by decide) (S0.2.2.2.2 _ lkM_to) (fun _ h => h) rfl hdg kk
theorem pM_to {v : Nat} (S0 : CF p m c cc nL s args RX11) (hG : GX G A s) (h : WX G A s H locs (wM G a f g o d st du tb bi si nu mo kp it tn fr to vl wr)) (hdg : decode cc pc = .ok (.putfield 202, 3)) (kk : ∀ (H1 : Heap) (locs1 : List Loc), WX G A s H1 locs1 (wM G a f g o d st du tb bi si nu mo kp it tn fr v vl wr) → W p l e R s m args below meth c H1 locs1 cells slots Q (F0 m (pc + 3) ls rest)) : W p l e R s m args below meth c H locs cells slots Q (F0 m pc ls (.int (nI v) :: .ref (a 0) :: rest)) :=
  va_put (ty := .int) S0.1 S0.2.1 S0.2.2.2.2 inlX11 tyX11 tyX11_ok nmX11 S0.2.2.2.1 hG.2.2.1 h.1 h.2.1 h.2.2 0 rfl rfl 11 (by decide) (S0.2.2.2.2 _ lkM_to) (fun _ h => h) rfl (by decide +kernel) rfl rfl (Nat.le_of_ble_eq_true rfl) hdg (fun H1 locs1 hP hD hS => kk H1 locs1 ⟨hP, hD, hS⟩)
theorem lkM_value : Cond.fieldLink RX11 228 "ComposedIntervalModel" "value" "I" ∈ wsL_law := rin34 _ (List.mem_of_getElem? (i := 23) rfl)
theorem gM_value (S0 : CF p m c cc nL s args RX11) (hG : GX G A s) (h : WX G A s H locs (wM G a f g o d st du tb bi si nu mo kp it tn fr to vl wr)) (hdg : decode cc pc = .ok (.getfield 228, 3)) (kk : W p l e R s m args below meth c H locs cells slots Q (F0 m (pc + 3) ls (.int (nI vl) :: rest))) : W p l e R s m args below meth c H locs cells slots Q (F0 m pc ls (.ref (a 0) :: rest)) :=
  va_get S0.1 S0.2.1 S0.2.2.2.2 inlX11 S0.2.2.2.1 hG.2.2.1 h.1 0 rfl rfl 12 (by decide) (S0.2.2.2.2 _ lkM_value) (fun _ h => h) rfl hdg kk
theorem pM_value {v : Nat} (S0 : CF p m c cc nL s args RX11) (hG : GX G A s) (h : WX G A s H locs (wM G a f g o d st du tb bi si nu mo kp it tn fr to vl wr)) (hdg : decode cc pc = .ok (.putfield 228, 3)) (kk : ∀ (H1 : Heap) (locs1 : List Loc), WX G A s H1 locs1 (wM G a f g o d st du tb bi si nu mo kp it tn fr to v wr) → W p l e R s m args below meth c H1 locs1 cells slots Q (F0 m (pc + 3) ls rest)) : W p l e R s m args below meth c H locs cells slots Q (F0 m pc ls (.int (nI v) :: .ref (a 0) :: rest)) :=
  va_put (ty := .int) S0.1 S0.2.1 S0.2.2.2.2 inlX11 tyX11 tyX11_ok nmX11 S0.2.2.2.1 hG.2.2.1 h.1 h.2.1 h.2.2 0 rfl rfl 12 (by decide) (S0.2.2.2.2 _ lkM_value) (fun _ h => h) rfl (by decide +kernel) rfl rfl (Nat.le_of_ble_eq_true rfl) hdg (fun H1 locs1 hP hD hS => kk H1 locs1 ⟨hP, hD, hS⟩)
theorem lkM_isWrong : Cond.fieldLink RX11 217 "ComposedIntervalModel" "isWrong" "Z" ∈ wsL_law := rin32 _ (List.mem_of_getElem? (i := 20) rfl)
theorem gM_isWrong (S0 : CF p m c cc nL s args RX11) (hG : GX G A s) (h : WX G A s H locs (wM G a f g o d st du tb bi si nu mo kp it tn fr to vl wr)) (hdg : decode cc pc = .ok (.getfield 217, 3)) (kk : W p l e R s m args below meth c H locs cells slots Q (F0 m (pc + 3) ls (.int (nI wr) :: rest))) : W p l e R s m args below meth c H locs cells slots Q (F0 m pc ls (.ref (a 0) :: rest)) :=
  va_get S0.1 S0.2.1 S0.2.2.2.2 inlX11 S0.2.2.2.1 hG.2.2.1 h.1 0 rfl rfl 13 (by decide) (S0.2.2.2.2 _ lkM_isWrong) (fun _ h => h) rfl hdg kk
theorem pM_isWrong {v : Nat} (S0 : CF p m c cc nL s args RX11) (hG : GX G A s) (h : WX G A s H locs (wM G a f g o d st du tb bi si nu mo kp it tn fr to vl wr)) (hz : v ≤ 1) (hdg : decode cc pc = .ok (.putfield 217, 3)) (kk : ∀ (H1 : Heap) (locs1 : List Loc), WX G A s H1 locs1 (wM G a f g o d st du tb bi si nu mo kp it tn fr to vl v) → W p l e R s m args below meth c H1 locs1 cells slots Q (F0 m (pc + 3) ls rest)) : W p l e R s m args below meth c H locs cells slots Q (F0 m pc ls (.int (nI v) :: .ref (a 0) :: rest)) :=
  va_put (ty := .boolean) S0.1 S0.2.1 S0.2.2.2.2 inlX11 tyX11 tyX11_ok nmX11 S0.2.2.2.1 hG.2.2.1 h.1 h.2.1 h.2.2 0 rfl rfl 13 (by decide) (S0.2.2.2.2 _ lkM_isWrong) (fun _ h => h) rfl (by decide +kernel) (nz_bool (by rcases (show v = 0 ∨ v = 1 by omega) with rfl | rfl <;> decide)) (by rcases (show v = 0 ∨ v = 1 by omega) with rfl | rfl <;> decide) (Nat.le_of_ble_eq_true rfl) hdg (fun H1 locs1 hP hD hS => kk H1 locs1 ⟨hP, hD, hS⟩)
theorem lkM_bitsOf : Cond.fieldLink RX11 31 "ComposedIntervalModel" "bitsOf" "[I" ∈ wsL_law := rin5 _ (List.mem_of_getElem? (i := 22) rfl)
theorem gM_bitsOf (S0 : CF p m c cc nL s args RX11) (hG : GX G A s) (h : WX G A s H locs (wM G a f g o d st du tb bi si nu mo kp it tn fr to vl wr)) (hdg : decode cc pc = .ok (.getfield 31, 3)) (kk : W p l e R s m args below meth c H locs cells slots Q (F0 m (pc + 3) ls (.ref (a 8) :: rest))) : W p l e R s m args below meth c H locs cells slots Q (F0 m pc ls (.ref (a 0) :: rest)) :=
  va_get S0.1 S0.2.1 S0.2.2.2.2 inlX11 S0.2.2.2.1 hG.2.2.1 h.1 0 rfl rfl 14 (by decide) (S0.2.2.2.2 _ lkM_bitsOf) (fun _ h => h) rfl hdg kk
theorem lkM_sizeOf : Cond.fieldLink RX11 34 "ComposedIntervalModel" "sizeOf" "[I" ∈ wsL_law := rin5 _ (List.mem_of_getElem? (i := 23) rfl)
theorem gM_sizeOf (S0 : CF p m c cc nL s args RX11) (hG : GX G A s) (h : WX G A s H locs (wM G a f g o d st du tb bi si nu mo kp it tn fr to vl wr)) (hdg : decode cc pc = .ok (.getfield 34, 3)) (kk : W p l e R s m args below meth c H locs cells slots Q (F0 m (pc + 3) ls (.ref (a 9) :: rest))) : W p l e R s m args below meth c H locs cells slots Q (F0 m pc ls (.ref (a 0) :: rest)) :=
  va_get S0.1 S0.2.1 S0.2.2.2.2 inlX11 S0.2.2.2.1 hG.2.2.1 h.1 0 rfl rfl 15 (by decide) (S0.2.2.2.2 _ lkM_sizeOf) (fun _ h => h) rfl hdg kk
theorem lkM_numbers : Cond.fieldLink RX11 37 "ComposedIntervalModel" "numbers" "[J" ∈ wsL_law := rin6 _ (List.mem_of_getElem? (i := 0) rfl)
theorem gM_numbers (S0 : CF p m c cc nL s args RX11) (hG : GX G A s) (h : WX G A s H locs (wM G a f g o d st du tb bi si nu mo kp it tn fr to vl wr)) (hdg : decode cc pc = .ok (.getfield 37, 3)) (kk : W p l e R s m args below meth c H locs cells slots Q (F0 m (pc + 3) ls (.ref (a 10) :: rest))) : W p l e R s m args below meth c H locs cells slots Q (F0 m pc ls (.ref (a 0) :: rest)) :=
  va_get S0.1 S0.2.1 S0.2.2.2.2 inlX11 S0.2.2.2.1 hG.2.2.1 h.1 0 rfl rfl 16 (by decide) (S0.2.2.2.2 _ lkM_numbers) (fun _ h => h) rfl hdg kk
theorem lkM_moved : Cond.fieldLink RX11 41 "ComposedIntervalModel" "moved" "[J" ∈ wsL_law := rin6 _ (List.mem_of_getElem? (i := 1) rfl)
theorem gM_moved (S0 : CF p m c cc nL s args RX11) (hG : GX G A s) (h : WX G A s H locs (wM G a f g o d st du tb bi si nu mo kp it tn fr to vl wr)) (hdg : decode cc pc = .ok (.getfield 41, 3)) (kk : W p l e R s m args below meth c H locs cells slots Q (F0 m (pc + 3) ls (.ref (a 11) :: rest))) : W p l e R s m args below meth c H locs cells slots Q (F0 m pc ls (.ref (a 0) :: rest)) :=
  va_get S0.1 S0.2.1 S0.2.2.2.2 inlX11 S0.2.2.2.1 hG.2.2.1 h.1 0 rfl rfl 17 (by decide) (S0.2.2.2.2 _ lkM_moved) (fun _ h => h) rfl hdg kk
theorem up_nI (f : Nat → Nat) (j v : Nat) : upd (fun i => nI (f i)) j (nI v) = fun i => nI (va_up f j v i) := funext fun i => by
  unfold upd va_up
  by_cases h : i = j
  · rw [if_pos h, if_pos h]
  · rw [if_neg h, if_neg h]
theorem cl_nI {j N : Nat} (hj : j < N) (hN : N < 2147483648) : (nI j).toNatClampNeg = j := nI_clamp (Nat.lt_trans hj hN)
theorem rM_s {j : Nat} (S0 : CF p m c cc nL s args RX11) (hG : GX G A s) (h : WX G A s H locs (wM G a f g o d st du tb bi si nu mo kp it tn fr to vl wr)) (hj : j < 51) (hdg : decode cc pc = .ok (.iaload, 1)) (kk : W p l e R s m args below meth c H locs cells slots Q (F0 m (pc + 1) ls (.int (nI (f j)) :: rest))) : W p l e R s m args below meth c H locs cells slots Q (F0 m pc ls (.int (nI j) :: .ref (a 1) :: rest)) :=
  va_iald S0.1 S0.2.1 hG.2.2.1 h.1 1 0 rfl rfl (vp_in_nI hj (by decide)) hdg (by rw [cl_nI hj (by decide)]; exact kk)
theorem sM_s {j v : Nat} (S0 : CF p m c cc nL s args RX11) (hG : GX G A s) (h : WX G A s H locs (wM G a f g o d st du tb bi si nu mo kp it tn fr to vl wr)) (hj : j < 51) (hdg : decode cc pc = .ok (.iastore, 1)) (kk : ∀ (H1 : Heap) (locs1 : List Loc), WX G A s H1 locs1 (wM G a (va_up f j v) g o d st du tb bi si nu mo kp it tn fr to vl wr) → W p l e R s m args below meth c H1 locs1 cells slots Q (F0 m (pc + 1) ls rest)) : W p l e R s m args below meth c H locs cells slots Q (F0 m pc ls (.int (nI v) :: .int (nI j) :: .ref (a 1) :: rest)) :=
  va_iast S0.1 S0.2.1 hG.2.2.1 h.1 h.2.1 h.2.2 1 0 rfl rfl (vp_in_nI hj (by decide)) hdg (fun H1 locs1 hP hD hS => kk H1 locs1 (by rw [cl_nI hj (by decide), up_nI] at hP hD; exact ⟨hP, hD, hS⟩))
theorem rM_keptS {j : Nat} (S0 : CF p m c cc nL s args RX11) (hG : GX G A s) (h : WX G A s H locs (wM G a f g o d st du tb bi si nu mo kp it tn fr to vl wr)) (hj : j < 51) (hdg : decode cc pc = .ok (.iaload, 1)) (kk : W p l e R s m args below meth c H locs cells slots Q (F0 m (pc + 1) ls (.int (nI (g j)) :: rest))) : W p l e R s m args below meth c H locs cells slots Q (F0 m pc ls (.int (nI j) :: .ref (a 2) :: rest)) :=
  va_iald S0.1 S0.2.1 hG.2.2.1 h.1 2 0 rfl rfl (vp_in_nI hj (by decide)) hdg (by rw [cl_nI hj (by decide)]; exact kk)
theorem sM_keptS {j v : Nat} (S0 : CF p m c cc nL s args RX11) (hG : GX G A s) (h : WX G A s H locs (wM G a f g o d st du tb bi si nu mo kp it tn fr to vl wr)) (hj : j < 51) (hdg : decode cc pc = .ok (.iastore, 1)) (kk : ∀ (H1 : Heap) (locs1 : List Loc), WX G A s H1 locs1 (wM G a f (va_up g j v) o d st du tb bi si nu mo kp it tn fr to vl wr) → W p l e R s m args below meth c H1 locs1 cells slots Q (F0 m (pc + 1) ls rest)) : W p l e R s m args below meth c H locs cells slots Q (F0 m pc ls (.int (nI v) :: .int (nI j) :: .ref (a 2) :: rest)) :=
  va_iast S0.1 S0.2.1 hG.2.2.1 h.1 h.2.1 h.2.2 2 0 rfl rfl (vp_in_nI hj (by decide)) hdg (fun H1 locs1 hP hD hS => kk H1 locs1 (by rw [cl_nI hj (by decide), up_nI] at hP hD; exact ⟨hP, hD, hS⟩))
theorem rM_other {j : Nat} (S0 : CF p m c cc nL s args RX11) (hG : GX G A s) (h : WX G A s H locs (wM G a f g o d st du tb bi si nu mo kp it tn fr to vl wr)) (hj : j < 51) (hdg : decode cc pc = .ok (.iaload, 1)) (kk : W p l e R s m args below meth c H locs cells slots Q (F0 m (pc + 1) ls (.int (nI (o j)) :: rest))) : W p l e R s m args below meth c H locs cells slots Q (F0 m pc ls (.int (nI j) :: .ref (a 3) :: rest)) :=
  va_iald S0.1 S0.2.1 hG.2.2.1 h.1 3 0 rfl rfl (vp_in_nI hj (by decide)) hdg (by rw [cl_nI hj (by decide)]; exact kk)
theorem sM_other {j v : Nat} (S0 : CF p m c cc nL s args RX11) (hG : GX G A s) (h : WX G A s H locs (wM G a f g o d st du tb bi si nu mo kp it tn fr to vl wr)) (hj : j < 51) (hdg : decode cc pc = .ok (.iastore, 1)) (kk : ∀ (H1 : Heap) (locs1 : List Loc), WX G A s H1 locs1 (wM G a f g (va_up o j v) d st du tb bi si nu mo kp it tn fr to vl wr) → W p l e R s m args below meth c H1 locs1 cells slots Q (F0 m (pc + 1) ls rest)) : W p l e R s m args below meth c H locs cells slots Q (F0 m pc ls (.int (nI v) :: .int (nI j) :: .ref (a 3) :: rest)) :=
  va_iast S0.1 S0.2.1 hG.2.2.1 h.1 h.2.1 h.2.2 3 0 rfl rfl (vp_in_nI hj (by decide)) hdg (fun H1 locs1 hP hD hS => kk H1 locs1 (by rw [cl_nI hj (by decide), up_nI] at hP hD; exact ⟨hP, hD, hS⟩))
theorem rM_aside {j : Nat} (S0 : CF p m c cc nL s args RX11) (hG : GX G A s) (h : WX G A s H locs (wM G a f g o d st du tb bi si nu mo kp it tn fr to vl wr)) (hj : j < 51) (hdg : decode cc pc = .ok (.iaload, 1)) (kk : W p l e R s m args below meth c H locs cells slots Q (F0 m (pc + 1) ls (.int (nI (d j)) :: rest))) : W p l e R s m args below meth c H locs cells slots Q (F0 m pc ls (.int (nI j) :: .ref (a 4) :: rest)) :=
  va_iald S0.1 S0.2.1 hG.2.2.1 h.1 4 0 rfl rfl (vp_in_nI hj (by decide)) hdg (by rw [cl_nI hj (by decide)]; exact kk)
theorem sM_aside {j v : Nat} (S0 : CF p m c cc nL s args RX11) (hG : GX G A s) (h : WX G A s H locs (wM G a f g o d st du tb bi si nu mo kp it tn fr to vl wr)) (hj : j < 51) (hdg : decode cc pc = .ok (.iastore, 1)) (kk : ∀ (H1 : Heap) (locs1 : List Loc), WX G A s H1 locs1 (wM G a f g o (va_up d j v) st du tb bi si nu mo kp it tn fr to vl wr) → W p l e R s m args below meth c H1 locs1 cells slots Q (F0 m (pc + 1) ls rest)) : W p l e R s m args below meth c H locs cells slots Q (F0 m pc ls (.int (nI v) :: .int (nI j) :: .ref (a 4) :: rest)) :=
  va_iast S0.1 S0.2.1 hG.2.2.1 h.1 h.2.1 h.2.2 4 0 rfl rfl (vp_in_nI hj (by decide)) hdg (fun H1 locs1 hP hD hS => kk H1 locs1 (by rw [cl_nI hj (by decide), up_nI] at hP hD; exact ⟨hP, hD, hS⟩))
theorem rM_statuses {j : Nat} (S0 : CF p m c cc nL s args RX11) (hG : GX G A s) (h : WX G A s H locs (wM G a f g o d st du tb bi si nu mo kp it tn fr to vl wr)) (hj : j < 7) (hdg : decode cc pc = .ok (.iaload, 1)) (kk : W p l e R s m args below meth c H locs cells slots Q (F0 m (pc + 1) ls (.int (nI (st j)) :: rest))) : W p l e R s m args below meth c H locs cells slots Q (F0 m pc ls (.int (nI j) :: .ref (a 5) :: rest)) :=
  va_iald S0.1 S0.2.1 hG.2.2.1 h.1 5 0 rfl rfl (vp_in_nI hj (by decide)) hdg (by rw [cl_nI hj (by decide)]; exact kk)
theorem sM_statuses {j v : Nat} (S0 : CF p m c cc nL s args RX11) (hG : GX G A s) (h : WX G A s H locs (wM G a f g o d st du tb bi si nu mo kp it tn fr to vl wr)) (hj : j < 7) (hdg : decode cc pc = .ok (.iastore, 1)) (kk : ∀ (H1 : Heap) (locs1 : List Loc), WX G A s H1 locs1 (wM G a f g o d (va_up st j v) du tb bi si nu mo kp it tn fr to vl wr) → W p l e R s m args below meth c H1 locs1 cells slots Q (F0 m (pc + 1) ls rest)) : W p l e R s m args below meth c H locs cells slots Q (F0 m pc ls (.int (nI v) :: .int (nI j) :: .ref (a 5) :: rest)) :=
  va_iast S0.1 S0.2.1 hG.2.2.1 h.1 h.2.1 h.2.2 5 0 rfl rfl (vp_in_nI hj (by decide)) hdg (fun H1 locs1 hP hD hS => kk H1 locs1 (by rw [cl_nI hj (by decide), up_nI] at hP hD; exact ⟨hP, hD, hS⟩))
theorem rM_due {j : Nat} (S0 : CF p m c cc nL s args RX11) (hG : GX G A s) (h : WX G A s H locs (wM G a f g o d st du tb bi si nu mo kp it tn fr to vl wr)) (hj : j < 8) (hdg : decode cc pc = .ok (.iaload, 1)) (kk : W p l e R s m args below meth c H locs cells slots Q (F0 m (pc + 1) ls (.int (nI (du j)) :: rest))) : W p l e R s m args below meth c H locs cells slots Q (F0 m pc ls (.int (nI j) :: .ref (a 6) :: rest)) :=
  va_iald S0.1 S0.2.1 hG.2.2.1 h.1 6 0 rfl rfl (vp_in_nI hj (by decide)) hdg (by rw [cl_nI hj (by decide)]; exact kk)
theorem sM_due {j v : Nat} (S0 : CF p m c cc nL s args RX11) (hG : GX G A s) (h : WX G A s H locs (wM G a f g o d st du tb bi si nu mo kp it tn fr to vl wr)) (hj : j < 8) (hdg : decode cc pc = .ok (.iastore, 1)) (kk : ∀ (H1 : Heap) (locs1 : List Loc), WX G A s H1 locs1 (wM G a f g o d st (va_up du j v) tb bi si nu mo kp it tn fr to vl wr) → W p l e R s m args below meth c H1 locs1 cells slots Q (F0 m (pc + 1) ls rest)) : W p l e R s m args below meth c H locs cells slots Q (F0 m pc ls (.int (nI v) :: .int (nI j) :: .ref (a 6) :: rest)) :=
  va_iast S0.1 S0.2.1 hG.2.2.1 h.1 h.2.1 h.2.2 6 0 rfl rfl (vp_in_nI hj (by decide)) hdg (fun H1 locs1 hP hD hS => kk H1 locs1 (by rw [cl_nI hj (by decide), up_nI] at hP hD; exact ⟨hP, hD, hS⟩))
theorem rM_tape {j : Nat} (S0 : CF p m c cc nL s args RX11) (hG : GX G A s) (h : WX G A s H locs (wM G a f g o d st du tb bi si nu mo kp it tn fr to vl wr)) (hj : j < 120) (hdg : decode cc pc = .ok (.iaload, 1)) (kk : W p l e R s m args below meth c H locs cells slots Q (F0 m (pc + 1) ls (.int (nI (tb j)) :: rest))) : W p l e R s m args below meth c H locs cells slots Q (F0 m pc ls (.int (nI j) :: .ref (a 7) :: rest)) :=
  va_iald S0.1 S0.2.1 hG.2.2.1 h.1 7 0 rfl rfl (vp_in_nI hj (by decide)) hdg (by rw [cl_nI hj (by decide)]; exact kk)
theorem sM_tape {j v : Nat} (S0 : CF p m c cc nL s args RX11) (hG : GX G A s) (h : WX G A s H locs (wM G a f g o d st du tb bi si nu mo kp it tn fr to vl wr)) (hj : j < 120) (hdg : decode cc pc = .ok (.iastore, 1)) (kk : ∀ (H1 : Heap) (locs1 : List Loc), WX G A s H1 locs1 (wM G a f g o d st du (va_up tb j v) bi si nu mo kp it tn fr to vl wr) → W p l e R s m args below meth c H1 locs1 cells slots Q (F0 m (pc + 1) ls rest)) : W p l e R s m args below meth c H locs cells slots Q (F0 m pc ls (.int (nI v) :: .int (nI j) :: .ref (a 7) :: rest)) :=
  va_iast S0.1 S0.2.1 hG.2.2.1 h.1 h.2.1 h.2.2 7 0 rfl rfl (vp_in_nI hj (by decide)) hdg (fun H1 locs1 hP hD hS => kk H1 locs1 (by rw [cl_nI hj (by decide), up_nI] at hP hD; exact ⟨hP, hD, hS⟩))
theorem rM_bitsOf {j : Nat} (S0 : CF p m c cc nL s args RX11) (hG : GX G A s) (h : WX G A s H locs (wM G a f g o d st du tb bi si nu mo kp it tn fr to vl wr)) (hj : j < 4) (hdg : decode cc pc = .ok (.iaload, 1)) (kk : W p l e R s m args below meth c H locs cells slots Q (F0 m (pc + 1) ls (.int (nI (bi j)) :: rest))) : W p l e R s m args below meth c H locs cells slots Q (F0 m pc ls (.int (nI j) :: .ref (a 8) :: rest)) :=
  va_iald S0.1 S0.2.1 hG.2.2.1 h.1 8 0 rfl rfl (vp_in_nI hj (by decide)) hdg (by rw [cl_nI hj (by decide)]; exact kk)
theorem sM_bitsOf {j v : Nat} (S0 : CF p m c cc nL s args RX11) (hG : GX G A s) (h : WX G A s H locs (wM G a f g o d st du tb bi si nu mo kp it tn fr to vl wr)) (hj : j < 4) (hdg : decode cc pc = .ok (.iastore, 1)) (kk : ∀ (H1 : Heap) (locs1 : List Loc), WX G A s H1 locs1 (wM G a f g o d st du tb (va_up bi j v) si nu mo kp it tn fr to vl wr) → W p l e R s m args below meth c H1 locs1 cells slots Q (F0 m (pc + 1) ls rest)) : W p l e R s m args below meth c H locs cells slots Q (F0 m pc ls (.int (nI v) :: .int (nI j) :: .ref (a 8) :: rest)) :=
  va_iast S0.1 S0.2.1 hG.2.2.1 h.1 h.2.1 h.2.2 8 0 rfl rfl (vp_in_nI hj (by decide)) hdg (fun H1 locs1 hP hD hS => kk H1 locs1 (by rw [cl_nI hj (by decide), up_nI] at hP hD; exact ⟨hP, hD, hS⟩))
theorem rM_sizeOf {j : Nat} (S0 : CF p m c cc nL s args RX11) (hG : GX G A s) (h : WX G A s H locs (wM G a f g o d st du tb bi si nu mo kp it tn fr to vl wr)) (hj : j < 4) (hdg : decode cc pc = .ok (.iaload, 1)) (kk : W p l e R s m args below meth c H locs cells slots Q (F0 m (pc + 1) ls (.int (nI (si j)) :: rest))) : W p l e R s m args below meth c H locs cells slots Q (F0 m pc ls (.int (nI j) :: .ref (a 9) :: rest)) :=
  va_iald S0.1 S0.2.1 hG.2.2.1 h.1 9 0 rfl rfl (vp_in_nI hj (by decide)) hdg (by rw [cl_nI hj (by decide)]; exact kk)
theorem sM_sizeOf {j v : Nat} (S0 : CF p m c cc nL s args RX11) (hG : GX G A s) (h : WX G A s H locs (wM G a f g o d st du tb bi si nu mo kp it tn fr to vl wr)) (hj : j < 4) (hdg : decode cc pc = .ok (.iastore, 1)) (kk : ∀ (H1 : Heap) (locs1 : List Loc), WX G A s H1 locs1 (wM G a f g o d st du tb bi (va_up si j v) nu mo kp it tn fr to vl wr) → W p l e R s m args below meth c H1 locs1 cells slots Q (F0 m (pc + 1) ls rest)) : W p l e R s m args below meth c H locs cells slots Q (F0 m pc ls (.int (nI v) :: .int (nI j) :: .ref (a 9) :: rest)) :=
  va_iast S0.1 S0.2.1 hG.2.2.1 h.1 h.2.1 h.2.2 9 0 rfl rfl (vp_in_nI hj (by decide)) hdg (fun H1 locs1 hP hD hS => kk H1 locs1 (by rw [cl_nI hj (by decide), up_nI] at hP hD; exact ⟨hP, hD, hS⟩))
theorem rM_numbers {j : Nat} (S0 : CF p m c cc nL s args RX11) (hG : GX G A s) (h : WX G A s H locs (wM G a f g o d st du tb bi si nu mo kp it tn fr to vl wr)) (hj : j < 160) (hdg : decode cc pc = .ok (.laload, 1)) (kk : W p l e R s m args below meth c H locs cells slots Q (F0 m (pc + 1) ls (.long (nu j) :: rest))) : W p l e R s m args below meth c H locs cells slots Q (F0 m pc ls (.int (nI j) :: .ref (a 10) :: rest)) :=
  va_lald S0.1 S0.2.1 hG.2.2.1 h.1 10 1 rfl rfl (vp_in_nI hj (by decide)) hdg (by rw [cl_nI hj (by decide)]; exact kk)
theorem sM_numbers {j : Nat} {v : Int64} (S0 : CF p m c cc nL s args RX11) (hG : GX G A s) (h : WX G A s H locs (wM G a f g o d st du tb bi si nu mo kp it tn fr to vl wr)) (hj : j < 160) (hdg : decode cc pc = .ok (.lastore, 1)) (kk : ∀ (H1 : Heap) (locs1 : List Loc), WX G A s H1 locs1 (wM G a f g o d st du tb bi si (vp_updL nu j v) mo kp it tn fr to vl wr) → W p l e R s m args below meth c H1 locs1 cells slots Q (F0 m (pc + 1) ls rest)) : W p l e R s m args below meth c H locs cells slots Q (F0 m pc ls (.long v :: .int (nI j) :: .ref (a 10) :: rest)) :=
  va_last S0.1 S0.2.1 hG.2.2.1 h.1 h.2.1 h.2.2 10 1 rfl rfl (vp_in_nI hj (by decide)) hdg (fun H1 locs1 hP hD hS => kk H1 locs1 (by rw [cl_nI hj (by decide)] at hP hD; exact ⟨hP, hD, hS⟩))
theorem rM_moved {j : Nat} (S0 : CF p m c cc nL s args RX11) (hG : GX G A s) (h : WX G A s H locs (wM G a f g o d st du tb bi si nu mo kp it tn fr to vl wr)) (hj : j < 40) (hdg : decode cc pc = .ok (.laload, 1)) (kk : W p l e R s m args below meth c H locs cells slots Q (F0 m (pc + 1) ls (.long (mo j) :: rest))) : W p l e R s m args below meth c H locs cells slots Q (F0 m pc ls (.int (nI j) :: .ref (a 11) :: rest)) :=
  va_lald S0.1 S0.2.1 hG.2.2.1 h.1 11 1 rfl rfl (vp_in_nI hj (by decide)) hdg (by rw [cl_nI hj (by decide)]; exact kk)
theorem sM_moved {j : Nat} {v : Int64} (S0 : CF p m c cc nL s args RX11) (hG : GX G A s) (h : WX G A s H locs (wM G a f g o d st du tb bi si nu mo kp it tn fr to vl wr)) (hj : j < 40) (hdg : decode cc pc = .ok (.lastore, 1)) (kk : ∀ (H1 : Heap) (locs1 : List Loc), WX G A s H1 locs1 (wM G a f g o d st du tb bi si nu (vp_updL mo j v) kp it tn fr to vl wr) → W p l e R s m args below meth c H1 locs1 cells slots Q (F0 m (pc + 1) ls rest)) : W p l e R s m args below meth c H locs cells slots Q (F0 m pc ls (.long v :: .int (nI j) :: .ref (a 11) :: rest)) :=
  va_last S0.1 S0.2.1 hG.2.2.1 h.1 h.2.1 h.2.2 11 1 rfl rfl (vp_in_nI hj (by decide)) hdg (fun H1 locs1 hP hD hS => kk H1 locs1 (by rw [cl_nI hj (by decide)] at hP hD; exact ⟨hP, hD, hS⟩))
end MR
end
section
/-! what both sides compute: a row f of 51 numbers (minute, people, score, bells, people's five) -/
def inR (x : Int32) (lo hi : Int) : Prop := lo ≤ x.toInt ∧ x.toInt ≤ hi
theorem inR_nat {x : Int32} {hi : Int} (h : inR x 0 hi) : ∃ j : Nat, x = nI j ∧ (j : Int) ≤ hi ∧ j < 2147483648 := by
  obtain ⟨h1, h2⟩ := h
  obtain ⟨j, hj, rfl⟩ := nI_of (x := x) (fun q => by
    have := Int32.lt_iff_toInt_lt.mp q
    have e : (0 : Int32).toInt = 0 := rfl
    omega)
  rw [nI_toInt hj] at h2
  exact ⟨j, rfl, h2, hj⟩
theorem inR_n {j : Nat} {lo hi : Int} (hj : j < 2147483648) : inR (nI j) lo hi ↔ lo ≤ (j : Int) ∧ (j : Int) ≤ hi := by
  unfold inR
  rw [nI_toInt hj]
theorem i2l_toInt (x : Int32) : x.toInt64.toInt = x.toInt := Int32.toInt_toInt64 x
def its (f : Nat → Nat) (p w : Nat) : Nat := f (11 + 5 * p + w)
def sc (f : Nat → Nat) (q : Nat) : Nat := f (2 + q)
def be (f : Nat → Nat) (b : Nat) : Nat := f (8 + b)
def qtr (f : Nat → Nat) : Nat := f 0 / 8 % 6
def ringN (f : Nat → Nat) : Nat → Int32
  | 0 => -1
  | n + 1 => if f 0 % 48 = be f n then nI n else ringN f n
def ring (f : Nat → Nat) : Int32 := ringN f 3
def sumN (f : Nat → Nat) (w : Nat) : Nat → Nat
  | 0 => 0
  | n + 1 => sumN f w n + its f n w
def hearK (k pl : Nat) (rg : Int32) : Bool := if k = 2 then true else if k = 3 then false else if k = 4 then false else if k = 5 then decide (pl < 10) && decide (rg ≠ 2) else decide (pl < 10)
def hears (f : Nat → Nat) (p : Nat) : Bool := decide (ring f ≠ -1) && hearK (its f p 0) (its f p 3) (ring f)
def singW (f : Nat → Nat) : Nat := if qtr f % 2 = 1 then 11 else sc f (qtr f)
def writ (f : Nat → Nat) (p : Nat) : Nat := if its f p 0 = 1 then 11 - sc f (qtr f) else if its f p 0 = 2 then singW f else if its f p 0 = 3 then (its f p 1 + 1) % 12 else if its f p 0 = 4 then (if f 0 % 8 = 7 then 5 else singW f) else if its f p 0 = 5 then 11 - sc f (qtr f) - 1 else sc f (qtr f)
def due (f : Nat → Nat) (p : Nat) : Nat := if hears f p = true then 0 else writ f p
def setN (c : Nat → Bool) : Nat → Nat
  | 0 => 0
  | n + 1 => if c n = true then setN c n ||| 2 ^ n else setN c n
def whoAt (f : Nat → Nat) (c : Nat) : Nat := setN (fun p => decide (its f p 1 = c)) (f 1)
def dueOnes (f : Nat → Nat) : Nat := setN (fun p => decide (its f p 1 = due f p)) (f 1)
def nxt (f : Nat → Nat) (p : Nat) : Nat := if its f p 1 < due f p then its f p 1 + 1 else if due f p < its f p 1 then its f p 1 - 1 else its f p 1
def bar (f : Nat → Nat) (p : Nat) : Bool := decide (its f p 1 ≠ due f p) && decide (whoAt f (nxt f p) ≠ 0)
def walk (f : Nat → Nat) (p : Nat) : Nat := if its f p 0 = 1 ∨ its f p 0 = 5 then (if bar f p = true then 0 else its f p 2) else if its f p 0 = 2 then 1 else if its f p 0 = 3 then 2 * its f p 2 else if its f p 0 = 4 then 1 + its f p 2 else its f p 2
def spoilK (k : Nat) : Nat := if k = 1 then 2 else if k = 2 then 0 else if k = 3 then 5 else if k = 4 then 3 else if k = 5 then 4 else 1
def newAt (f : Nat → Nat) (p : Nat) : Nat := if its f p 1 < due f p then its f p 1 + min (walk f p) (due f p - its f p 1) else its f p 1 - min (walk f p) (its f p 1 - due f p)
def walk1 (f : Nat → Nat) (p : Nat) : Nat → Nat := va_up f (11 + 5 * p + 1) (newAt f p)
def walkN (f : Nat → Nat) : Nat → Nat → Nat
  | 0 => f
  | n + 1 => walk1 (walkN f n) n
def dueN (f d : Nat → Nat) : Nat → Nat → Nat
  | 0 => d
  | n + 1 => va_up (dueN f d n) n (due (walkN f n) n)
def mark1 (f d : Nat → Nat) (p : Nat) : Nat → Nat := if its f p 1 = d p then va_up f (11 + 5 * p + 3) (min 9999 (its f p 3 + 1)) else va_up f (11 + 5 * p + 4) (min 9999 (its f p 4 + spoilK (its f p 0)))
def markN (f d : Nat → Nat) : Nat → Nat → Nat
  | 0 => f
  | n + 1 => mark1 (markN f d n) d n
def timeN (f d : Nat → Nat) : Nat := setN (fun p => decide (its f p 1 = d p)) (f 1)
def minF (f : Nat → Nat) : Nat → Nat := va_up (markN (walkN f (f 1)) (dueN f (fun _ => 0) (f 1)) (f 1)) 0 (f 0 + 1)
def timeF (f : Nat → Nat) : Nat := timeN (walkN f (f 1)) (dueN f (fun _ => 0) (f 1))
def goF (f : Nat → Nat) : Nat → Nat → Nat
  | 0 => f
  | n + 1 => minF (goF f n)
/-- what holds of every row -/
def Inv (f : Nat → Nat) : Prop := f 0 ≤ 200000 ∧ f 1 ≤ 8 ∧ (∀ q, q < 6 → sc f q ≤ 11) ∧ (∀ b, b < 3 → be f b ≤ 47) ∧ ∀ p, p < 8 → its f p 0 ≤ 5 ∧ its f p 1 ≤ 11 ∧ its f p 2 ≤ 4 ∧ its f p 3 ≤ 9999 ∧ its f p 4 ≤ 9999
theorem Inv.its_le {f : Nat → Nat} (h : Inv f) {p w : Nat} (hp : p < 8) (hw : w < 5) : its f p w ≤ 9999 := by
  obtain ⟨h0, h1, h2, h3, h4⟩ := h.2.2.2.2 p hp
  rcases (show w = 0 ∨ w = 1 ∨ w = 2 ∨ w = 3 ∨ w = 4 by omega) with rfl | rfl | rfl | rfl | rfl <;> omega
theorem qtr_lt (f : Nat → Nat) : qtr f < 6 := Nat.mod_lt _ (by decide)
theorem va_up_s {α : Type} (f : Nat → α) (k : Nat) (v : α) : va_up f k v k = v := by unfold va_up; rw [if_pos rfl]
theorem va_up_n {α : Type} (f : Nat → α) {k j : Nat} (v : α) (h : j ≠ k) : va_up f k v j = f j := by unfold va_up; rw [if_neg h]
theorem cmpL {x y : Int64} : (x < y ↔ x.toInt < y.toInt) ∧ (x ≤ y ↔ x.toInt ≤ y.toInt) := ⟨Int64.lt_iff_toInt_lt, Int64.le_iff_toInt_le⟩
end
section
/-! the reference: its smallest methods -/
variable {G : GT} {l : Launch} {a : Nat → Nat} {f g o d st du tb bi si : Nat → Nat} {nu mo : Nat → Int64} {kp it tn fr to vl wr : Nat}
set_option maxHeartbeats 4000000 in
set_option maxRecDepth 100000 in
theorem c_X11_in {x y z : Int64} : Ki G l yX11_in cX11_in 6 (some .boolean) (RM 1 0) [.long x, .long y, .long z] ([]) (fun u : Unit => []) (fun r _ => (r = nI 1 ∧ y.toInt ≤ x.toInt ∧ x.toInt ≤ z.toInt) ∨ (r = nI 0 ∧ ¬ (y.toInt ≤ x.toInt ∧ x.toInt ≤ z.toInt))) := by
  refine Ki.ofz (by decide) (Nat.le_of_ble_eq_true rfl) ?_
  intro p e s m args below meth c A Q ls hx hb S0 hG hA h hret hl
  have S0 : CF p m c cX11_in 6 s args RX11 := S0
  have hl : lv_has ls 6 [(0, .long x), (2, .long y), (4, .long z)] := hl
  refine lv_lload_n hx hb dX11_in_0 rfl (lv_at hl 0 rfl) ?_
  refine lv_lload_n hx hb dX11_in_1 rfl (lv_at hl 1 rfl) ?_
  refine W.lcmp hx hb dX11_in_2 ?_
  refine lv_if_lt hx hb (tgt := 17) dX11_in_3 (by decide) (fun c3 => ?_) (fun c3 => ?_)
  ·
    refine lv_iconst (v := nI 0) hx hb dX11_in_17 (by decide) ?_
    exact hret _ () _ _ _ _ (by decide) (by simp only [lg_cmp_lt, lg_cmp_gt, cmpL.1] at c3; exact Or.inr ⟨rfl, by omega⟩) h dX11_in_18
  ·
    refine lv_lload_n hx hb dX11_in_6 rfl (lv_at hl 0 rfl) ?_
    refine lv_lload hx hb dX11_in_7 (lv_at hl 2 rfl) ?_
    refine W.lcmp hx hb dX11_in_9 ?_
    refine lv_if_gt hx hb (tgt := 17) dX11_in_10 (by decide) (fun c10 => ?_) (fun c10 => ?_)
    ·
      refine lv_iconst (v := nI 0) hx hb dX11_in_17 (by decide) ?_
      exact hret _ () _ _ _ _ (by decide) (by simp only [lg_cmp_lt, lg_cmp_gt, cmpL.1] at c3 c10; exact Or.inr ⟨rfl, by omega⟩) h dX11_in_18
    ·
      refine lv_iconst (v := nI 1) hx hb dX11_in_13 (by decide) ?_
      refine lv_goto (tgt := 18) hx hb dX11_in_14 (by decide) ?_
      exact hret _ () _ _ _ _ (by decide) (by simp only [lg_cmp_lt, lg_cmp_gt, cmpL.1] at c3 c10; exact Or.inl ⟨rfl, by omega⟩) h dX11_in_18
theorem kw_RX11_49 : GoodIn wsL_law (va_wsS RX11 49 yX11_in (WS yX11_in cX11_in 6 (some .boolean))) := gS (rin7 _ (List.mem_of_getElem? (i := 2) rfl)) (rin7 _ (List.mem_of_getElem? (i := 3) rfl)) (rin1 _ (List.mem_of_getElem? (i := 5) rfl)) (rin7 _ (List.mem_of_getElem? (i := 4) rfl))
theorem kdS_X11_in : yX11_in.cls ≠ "java/lang/invoke/MethodHandle" ∧ yX11_in.cls ≠ "java/lang/invoke/VarHandle" ∧ (parseMethodDescriptor yX11_in.desc).map (fun d => d.parameters.length) = some 3 := ⟨by decide +kernel, by decide +kernel, by decide +kernel⟩
set_option maxHeartbeats 4000000 in
set_option maxRecDepth 100000 in
theorem c_X11_isSpot {x : Int32} : Ki G l yX11_isSpot cX11_isSpot 1 (some .boolean) (RM 2 25) [.int x] ([]) (fun u : Unit => []) (fun r _ => (r = nI 1 ∧ inR x 0 11) ∨ (r = nI 0 ∧ ¬ inR x 0 11)) := by
  refine Ki.ofz (by decide) (Nat.le_of_ble_eq_true rfl) ?_
  intro p e s m args below meth c A Q ls hx hb S0 hG hA h hret hl
  have S0 : CF p m c cX11_isSpot 1 s args RX11 := S0
  have hl : lv_has ls 1 [(0, .int x)] := hl
  refine lv_iload_n hx hb dX11_isSpot_0 rfl (lv_at hl 0 rfl) ?_
  refine lv_i2l hx hb dX11_isSpot_1 rfl ?_
  refine lv_lconst (v := 0) hx hb dX11_isSpot_2 (by decide) ?_
  refine lv_ldc2 hx hb S0.2.2.2.1 (S0.2.2.2.2 _ (rin7 _ (List.mem_of_getElem? (i := 8) rfl))) dX11_isSpot_3 ?_
  refine cS_iE S0 hG hA h hl.1 kw_RX11_49 kdS_X11_in (c_X11_in) ⟨rfl, rfl, by decide, by decide, Nat.le_refl _, Nat.le_refl _⟩ rfl rfl (Nat.le_of_ble_eq_true rfl) dX11_isSpot_6 (fun r u H locs hq h => ?_)
  rcases hq with ⟨rfl, b6⟩ | ⟨rfl, b6⟩
  ·
    exact hret _ () _ _ _ _ (by decide) (Or.inl ⟨rfl, by simpa [inR, i2l_toInt] using b6⟩) h dX11_isSpot_9
  ·
    exact hret _ () _ _ _ _ (by decide) (Or.inr ⟨rfl, by simpa [inR, i2l_toInt] using b6⟩) h dX11_isSpot_9
set_option maxHeartbeats 4000000 in
set_option maxRecDepth 100000 in
theorem c_X11_isQuarter {x : Int32} : Ki G l yX11_isQuarter cX11_isQuarter 1 (some .boolean) (RM 2 25) [.int x] ([]) (fun u : Unit => []) (fun r _ => (r = nI 1 ∧ inR x 0 5) ∨ (r = nI 0 ∧ ¬ inR x 0 5)) := by
  refine Ki.ofz (by decide) (Nat.le_of_ble_eq_true rfl) ?_
  intro p e s m args below meth c A Q ls hx hb S0 hG hA h hret hl
  have S0 : CF p m c cX11_isQuarter 1 s args RX11 := S0
  have hl : lv_has ls 1 [(0, .int x)] := hl
  refine lv_iload_n hx hb dX11_isQuarter_0 rfl (lv_at hl 0 rfl) ?_
  refine lv_i2l hx hb dX11_isQuarter_1 rfl ?_
  refine lv_lconst (v := 0) hx hb dX11_isQuarter_2 (by decide) ?_
  refine lv_ldc2 hx hb S0.2.2.2.1 (S0.2.2.2.2 _ (rin7 _ (List.mem_of_getElem? (i := 1) rfl))) dX11_isQuarter_3 ?_
  refine cS_iE S0 hG hA h hl.1 kw_RX11_49 kdS_X11_in (c_X11_in) ⟨rfl, rfl, by decide, by decide, Nat.le_refl _, Nat.le_refl _⟩ rfl rfl (Nat.le_of_ble_eq_true rfl) dX11_isQuarter_6 (fun r u H locs hq h => ?_)
  rcases hq with ⟨rfl, b6⟩ | ⟨rfl, b6⟩
  ·
    exact hret _ () _ _ _ _ (by decide) (Or.inl ⟨rfl, by simpa [inR, i2l_toInt] using b6⟩) h dX11_isQuarter_9
  ·
    exact hret _ () _ _ _ _ (by decide) (Or.inr ⟨rfl, by simpa [inR, i2l_toInt] using b6⟩) h dX11_isQuarter_9
set_option maxHeartbeats 4000000 in
set_option maxRecDepth 100000 in
theorem c_X11_isBell {x : Int32} : Ki G l yX11_isBell cX11_isBell 1 (some .boolean) (RM 2 25) [.int x] ([]) (fun u : Unit => []) (fun r _ => (r = nI 1 ∧ inR x 0 2) ∨ (r = nI 0 ∧ ¬ inR x 0 2)) := by
  refine Ki.ofz (by decide) (Nat.le_of_ble_eq_true rfl) ?_
  intro p e s m args below meth c A Q ls hx hb S0 hG hA h hret hl
  have S0 : CF p m c cX11_isBell 1 s args RX11 := S0
  have hl : lv_has ls 1 [(0, .int x)] := hl
  refine lv_iload_n hx hb dX11_isBell_0 rfl (lv_at hl 0 rfl) ?_
  refine lv_i2l hx hb dX11_isBell_1 rfl ?_
  refine lv_lconst (v := 0) hx hb dX11_isBell_2 (by decide) ?_
  refine lv_ldc2 hx hb S0.2.2.2.1 (S0.2.2.2.2 _ (rin8 _ (List.mem_of_getElem? (i := 5) rfl))) dX11_isBell_3 ?_
  refine cS_iE S0 hG hA h hl.1 kw_RX11_49 kdS_X11_in (c_X11_in) ⟨rfl, rfl, by decide, by decide, Nat.le_refl _, Nat.le_refl _⟩ rfl rfl (Nat.le_of_ble_eq_true rfl) dX11_isBell_6 (fun r u H locs hq h => ?_)
  rcases hq with ⟨rfl, b6⟩ | ⟨rfl, b6⟩
  ·
    exact hret _ () _ _ _ _ (by decide) (Or.inl ⟨rfl, by simpa [inR, i2l_toInt] using b6⟩) h dX11_isBell_9
  ·
    exact hret _ () _ _ _ _ (by decide) (Or.inr ⟨rfl, by simpa [inR, i2l_toInt] using b6⟩) h dX11_isBell_9
set_option maxHeartbeats 4000000 in
set_option maxRecDepth 100000 in
theorem c_X11_isKind {x : Int32} : Ki G l yX11_isKind cX11_isKind 1 (some .boolean) (RM 2 25) [.int x] ([]) (fun u : Unit => []) (fun r _ => (r = nI 1 ∧ inR x 0 5) ∨ (r = nI 0 ∧ ¬ inR x 0 5)) := by
  refine Ki.ofz (by decide) (Nat.le_of_ble_eq_true rfl) ?_
  intro p e s m args below meth c A Q ls hx hb S0 hG hA h hret hl
  have S0 : CF p m c cX11_isKind 1 s args RX11 := S0
  have hl : lv_has ls 1 [(0, .int x)] := hl
  refine lv_iload_n hx hb dX11_isKind_0 rfl (lv_at hl 0 rfl) ?_
  refine lv_i2l hx hb dX11_isKind_1 rfl ?_
  refine lv_lconst (v := 0) hx hb dX11_isKind_2 (by decide) ?_
  refine lv_ldc2 hx hb S0.2.2.2.1 (S0.2.2.2.2 _ (rin7 _ (List.mem_of_getElem? (i := 1) rfl))) dX11_isKind_3 ?_
  refine cS_iE S0 hG hA h hl.1 kw_RX11_49 kdS_X11_in (c_X11_in) ⟨rfl, rfl, by decide, by decide, Nat.le_refl _, Nat.le_refl _⟩ rfl rfl (Nat.le_of_ble_eq_true rfl) dX11_isKind_6 (fun r u H locs hq h => ?_)
  rcases hq with ⟨rfl, b6⟩ | ⟨rfl, b6⟩
  ·
    exact hret _ () _ _ _ _ (by decide) (Or.inl ⟨rfl, by simpa [inR, i2l_toInt] using b6⟩) h dX11_isKind_9
  ·
    exact hret _ () _ _ _ _ (by decide) (Or.inr ⟨rfl, by simpa [inR, i2l_toInt] using b6⟩) h dX11_isKind_9
set_option maxHeartbeats 4000000 in
set_option maxRecDepth 100000 in
theorem c_X11_isAhead {x : Int32} : Ki G l yX11_isAhead cX11_isAhead 1 (some .boolean) (RM 2 25) [.int x] ([]) (fun u : Unit => []) (fun r _ => (r = nI 1 ∧ inR x 0 300) ∨ (r = nI 0 ∧ ¬ inR x 0 300)) := by
  refine Ki.ofz (by decide) (Nat.le_of_ble_eq_true rfl) ?_
  intro p e s m args below meth c A Q ls hx hb S0 hG hA h hret hl
  have S0 : CF p m c cX11_isAhead 1 s args RX11 := S0
  have hl : lv_has ls 1 [(0, .int x)] := hl
  refine lv_iload_n hx hb dX11_isAhead_0 rfl (lv_at hl 0 rfl) ?_
  refine lv_i2l hx hb dX11_isAhead_1 rfl ?_
  refine lv_lconst (v := 0) hx hb dX11_isAhead_2 (by decide) ?_
  refine lv_ldc2 hx hb S0.2.2.2.1 (S0.2.2.2.2 _ (rin23 _ (List.mem_of_getElem? (i := 6) rfl))) dX11_isAhead_3 ?_
  refine cS_iE S0 hG hA h hl.1 kw_RX11_49 kdS_X11_in (c_X11_in) ⟨rfl, rfl, by decide, by decide, Nat.le_refl _, Nat.le_refl _⟩ rfl rfl (Nat.le_of_ble_eq_true rfl) dX11_isAhead_6 (fun r u H locs hq h => ?_)
  rcases hq with ⟨rfl, b6⟩ | ⟨rfl, b6⟩
  ·
    exact hret _ () _ _ _ _ (by decide) (Or.inl ⟨rfl, by simpa [inR, i2l_toInt] using b6⟩) h dX11_isAhead_9
  ·
    exact hret _ () _ _ _ _ (by decide) (Or.inr ⟨rfl, by simpa [inR, i2l_toInt] using b6⟩) h dX11_isAhead_9
set_option maxHeartbeats 4000000 in
set_option maxRecDepth 100000 in
theorem c_X11_isSoon {x : Int32} : Ki G l yX11_isSoon cX11_isSoon 1 (some .boolean) (RM 2 25) [.int x] ([]) (fun u : Unit => []) (fun r _ => (r = nI 1 ∧ inR x 1 100) ∨ (r = nI 0 ∧ ¬ inR x 1 100)) := by
  refine Ki.ofz (by decide) (Nat.le_of_ble_eq_true rfl) ?_
  intro p e s m args below meth c A Q ls hx hb S0 hG hA h hret hl
  have S0 : CF p m c cX11_isSoon 1 s args RX11 := S0
  have hl : lv_has ls 1 [(0, .int x)] := hl
  refine lv_iload_n hx hb dX11_isSoon_0 rfl (lv_at hl 0 rfl) ?_
  refine lv_i2l hx hb dX11_isSoon_1 rfl ?_
  refine lv_lconst (v := 1) hx hb dX11_isSoon_2 (by decide) ?_
  refine lv_ldc2 hx hb S0.2.2.2.1 (S0.2.2.2.2 _ (rin26 _ (List.mem_of_getElem? (i := 0) rfl))) dX11_isSoon_3 ?_
  refine cS_iE S0 hG hA h hl.1 kw_RX11_49 kdS_X11_in (c_X11_in) ⟨rfl, rfl, by decide, by decide, Nat.le_refl _, Nat.le_refl _⟩ rfl rfl (Nat.le_of_ble_eq_true rfl) dX11_isSoon_6 (fun r u H locs hq h => ?_)
  rcases hq with ⟨rfl, b6⟩ | ⟨rfl, b6⟩
  ·
    exact hret _ () _ _ _ _ (by decide) (Or.inl ⟨rfl, by simpa [inR, i2l_toInt] using b6⟩) h dX11_isSoon_9
  ·
    exact hret _ () _ _ _ _ (by decide) (Or.inr ⟨rfl, by simpa [inR, i2l_toInt] using b6⟩) h dX11_isSoon_9
set_option maxHeartbeats 4000000 in
set_option maxRecDepth 100000 in
theorem c_X11_isOne {x : Int32} : Ki G l yX11_isOne cX11_isOne 1 (some .boolean) (RM 2 25) [.int x] ([]) (fun u : Unit => []) (fun r _ => (r = nI 1 ∧ inR x 0 3) ∨ (r = nI 0 ∧ ¬ inR x 0 3)) := by
  refine Ki.ofz (by decide) (Nat.le_of_ble_eq_true rfl) ?_
  intro p e s m args below meth c A Q ls hx hb S0 hG hA h hret hl
  have S0 : CF p m c cX11_isOne 1 s args RX11 := S0
  have hl : lv_has ls 1 [(0, .int x)] := hl
  refine lv_iload_n hx hb dX11_isOne_0 rfl (lv_at hl 0 rfl) ?_
  refine lv_i2l hx hb dX11_isOne_1 rfl ?_
  refine lv_lconst (v := 0) hx hb dX11_isOne_2 (by decide) ?_
  refine lv_ldc2 hx hb S0.2.2.2.1 (S0.2.2.2.2 _ (rin36 _ (List.mem_of_getElem? (i := 16) rfl))) dX11_isOne_3 ?_
  refine cS_iE S0 hG hA h hl.1 kw_RX11_49 kdS_X11_in (c_X11_in) ⟨rfl, rfl, by decide, by decide, Nat.le_refl _, Nat.le_refl _⟩ rfl rfl (Nat.le_of_ble_eq_true rfl) dX11_isOne_6 (fun r u H locs hq h => ?_)
  rcases hq with ⟨rfl, b6⟩ | ⟨rfl, b6⟩
  ·
    exact hret _ () _ _ _ _ (by decide) (Or.inl ⟨rfl, by simpa [inR, i2l_toInt] using b6⟩) h dX11_isOne_9
  ·
    exact hret _ () _ _ _ _ (by decide) (Or.inr ⟨rfl, by simpa [inR, i2l_toInt] using b6⟩) h dX11_isOne_9
set_option maxHeartbeats 4000000 in
set_option maxRecDepth 100000 in
theorem c_X11_isLetter {x : Int32} : Ki G l yX11_isLetter cX11_isLetter 1 (some .boolean) (RM 2 25) [.int x] ([]) (fun u : Unit => []) (fun r _ => (r = nI 1 ∧ inR x 97 122) ∨ (r = nI 0 ∧ ¬ inR x 97 122)) := by
  refine Ki.ofz (by decide) (Nat.le_of_ble_eq_true rfl) ?_
  intro p e s m args below meth c A Q ls hx hb S0 hG hA h hret hl
  have S0 : CF p m c cX11_isLetter 1 s args RX11 := S0
  have hl : lv_has ls 1 [(0, .int x)] := hl
  refine lv_iload_n hx hb dX11_isLetter_0 rfl (lv_at hl 0 rfl) ?_
  refine lv_i2l hx hb dX11_isLetter_1 rfl ?_
  refine lv_ldc2 hx hb S0.2.2.2.1 (S0.2.2.2.2 _ (rin33 _ (List.mem_of_getElem? (i := 14) rfl))) dX11_isLetter_2 ?_
  refine lv_ldc2 hx hb S0.2.2.2.1 (S0.2.2.2.2 _ (rin33 _ (List.mem_of_getElem? (i := 15) rfl))) dX11_isLetter_5 ?_
  refine cS_iE S0 hG hA h hl.1 kw_RX11_49 kdS_X11_in (c_X11_in) ⟨rfl, rfl, by decide, by decide, Nat.le_refl _, Nat.le_refl _⟩ rfl rfl (Nat.le_of_ble_eq_true rfl) dX11_isLetter_8 (fun r u H locs hq h => ?_)
  rcases hq with ⟨rfl, b8⟩ | ⟨rfl, b8⟩
  ·
    exact hret _ () _ _ _ _ (by decide) (Or.inl ⟨rfl, by simpa [inR, i2l_toInt] using b8⟩) h dX11_isLetter_11
  ·
    exact hret _ () _ _ _ _ (by decide) (Or.inr ⟨rfl, by simpa [inR, i2l_toInt] using b8⟩) h dX11_isLetter_11
set_option maxHeartbeats 4000000 in
set_option maxRecDepth 100000 in
theorem c_X11_isDigit {x : Int32} : Ki G l yX11_isDigit cX11_isDigit 1 (some .boolean) (RM 2 25) [.int x] ([]) (fun u : Unit => []) (fun r _ => (r = nI 1 ∧ inR x 48 57) ∨ (r = nI 0 ∧ ¬ inR x 48 57)) := by
  refine Ki.ofz (by decide) (Nat.le_of_ble_eq_true rfl) ?_
  intro p e s m args below meth c A Q ls hx hb S0 hG hA h hret hl
  have S0 : CF p m c cX11_isDigit 1 s args RX11 := S0
  have hl : lv_has ls 1 [(0, .int x)] := hl
  refine lv_iload_n hx hb dX11_isDigit_0 rfl (lv_at hl 0 rfl) ?_
  refine lv_i2l hx hb dX11_isDigit_1 rfl ?_
  refine lv_ldc2 hx hb S0.2.2.2.1 (S0.2.2.2.2 _ (rin33 _ (List.mem_of_getElem? (i := 19) rfl))) dX11_isDigit_2 ?_
  refine lv_ldc2 hx hb S0.2.2.2.1 (S0.2.2.2.2 _ (rin33 _ (List.mem_of_getElem? (i := 20) rfl))) dX11_isDigit_5 ?_
  refine cS_iE S0 hG hA h hl.1 kw_RX11_49 kdS_X11_in (c_X11_in) ⟨rfl, rfl, by decide, by decide, Nat.le_refl _, Nat.le_refl _⟩ rfl rfl (Nat.le_of_ble_eq_true rfl) dX11_isDigit_8 (fun r u H locs hq h => ?_)
  rcases hq with ⟨rfl, b8⟩ | ⟨rfl, b8⟩
  ·
    exact hret _ () _ _ _ _ (by decide) (Or.inl ⟨rfl, by simpa [inR, i2l_toInt] using b8⟩) h dX11_isDigit_11
  ·
    exact hret _ () _ _ _ _ (by decide) (Or.inr ⟨rfl, by simpa [inR, i2l_toInt] using b8⟩) h dX11_isDigit_11
set_option maxHeartbeats 4000000 in
set_option maxRecDepth 100000 in
theorem c_X11_spot {x y : Nat} : Ki G l yX11_spot cX11_spot 2 (some .int) (RM 1 0) [.int (nI x), .int (nI y)] ([]) (fun u : Unit => []) (fun r _ => r = nI (11 + 5 * x + y)) := by
  refine Ki.of (by decide) (Nat.le_of_ble_eq_true rfl) ?_
  intro p e s m args below meth c A Q ls hx hb S0 hG hA h hret hl
  have S0 : CF p m c cX11_spot 2 s args RX11 := S0
  have hl : lv_has ls 2 [(0, .int (nI x)), (1, .int (nI y))] := hl
  refine lv_bipush (v := nI 11) hx hb dX11_spot_0 (by decide) ?_
  refine lv_iconst (v := nI 5) hx hb dX11_spot_2 (by decide) ?_
  refine lv_iload_n hx hb dX11_spot_3 rfl (lv_at hl 0 rfl) ?_
  refine n_mul hx hb dX11_spot_4 ?_
  refine n_add hx hb dX11_spot_5 ?_
  refine lv_iload_n hx hb dX11_spot_6 rfl (lv_at hl 1 rfl) ?_
  refine n_add hx hb dX11_spot_7 ?_
  exact hret _ () _ _ _ _ rfl h dX11_spot_8
theorem kw_RX11_45 : GoodIn wsL_law (va_wsS RX11 45 yX11_spot (WS yX11_spot cX11_spot 2 (some .int))) := gS (rin12 _ (List.mem_of_getElem? (i := 14) rfl)) (rin12 _ (List.mem_of_getElem? (i := 15) rfl)) (rin1 _ (List.mem_of_getElem? (i := 5) rfl)) (rin12 _ (List.mem_of_getElem? (i := 16) rfl))
theorem kdS_X11_spot : yX11_spot.cls ≠ "java/lang/invoke/MethodHandle" ∧ yX11_spot.cls ≠ "java/lang/invoke/VarHandle" ∧ (parseMethodDescriptor yX11_spot.desc).map (fun d => d.parameters.length) = some 2 := ⟨by decide +kernel, by decide +kernel, by decide +kernel⟩
set_option maxHeartbeats 4000000 in
set_option maxRecDepth 100000 in
theorem c_X11_its {x y : Nat} (hx1 : x < 8) (hy1 : y < 5) : Ki G l yX11_its cX11_its 3 (some .int) (RM 2 21) [.ref (a 0), .int (nI x), .int (nI y)] (wM G a f g o d st du tb bi si nu mo kp it tn fr to vl wr) (fun u : Unit => wM G a f g o d st du tb bi si nu mo kp it tn fr to vl wr) (fun r _ => r = nI (its f x y)) := by
  refine Ki.of (by decide) (Nat.le_of_ble_eq_true rfl) ?_
  intro p e s m args below meth c A Q ls hx hb S0 hG hA h hret hl
  have S0 : CF p m c cX11_its 3 s args RX11 := S0
  have hl : lv_has ls 3 [(0, .ref (a 0)), (1, .int (nI x)), (2, .int (nI y))] := hl
  refine lv_aload_n hx hb dX11_its_0 rfl (lv_at hl 0 rfl) ?_
  refine gM_s S0 hG h dX11_its_1 ?_
  refine lv_iload_n hx hb dX11_its_4 rfl (lv_at hl 1 rfl) ?_
  refine lv_iload_n hx hb dX11_its_5 rfl (lv_at hl 2 rfl) ?_
  refine cS_iE S0 hG hA h hl.1 kw_RX11_45 kdS_X11_spot (c_X11_spot) ⟨rfl, rfl, by decide, by decide, Nat.le_refl _, Nat.le_refl _⟩ rfl rfl (Nat.le_of_ble_eq_true rfl) dX11_its_6 (fun r u H locs hq h => ?_)
  obtain rfl := hq
  refine rM_s S0 hG h (by omega) dX11_its_9 ?_
  exact hret _ () _ _ _ _ rfl h dX11_its_10
set_option maxHeartbeats 4000000 in
set_option maxRecDepth 100000 in
theorem c_X11_becomes {x y : Nat} (hx1 : x < 51) : Ki G l yX11_becomes cX11_becomes 4 (some .int) (RM 1 0) [.ref (a 0), .int (nI x), .int (nI y)] (wM G a f g o d st du tb bi si nu mo kp it tn fr to vl wr) (fun u : Unit => wM G a (va_up f x y) g o d st du tb bi si nu mo kp it tn fr to vl wr) (fun r _ => r = nI (f x)) := by
  refine Ki.of (by decide) (Nat.le_of_ble_eq_true rfl) ?_
  intro p e s m args below meth c A Q ls hx hb S0 hG hA h hret hl
  have S0 : CF p m c cX11_becomes 4 s args RX11 := S0
  have hl : lv_has ls 4 [(0, .ref (a 0)), (1, .int (nI x)), (2, .int (nI y))] := hl
  refine lv_aload_n hx hb dX11_becomes_0 rfl (lv_at hl 0 rfl) ?_
  refine gM_s S0 hG h dX11_becomes_1 ?_
  refine lv_iload_n hx hb dX11_becomes_4 rfl (lv_at hl 1 rfl) ?_
  refine rM_s S0 hG h (by omega) dX11_becomes_5 ?_
  refine lv_istore_n hx hb dX11_becomes_6 rfl hl (by decide) rfl (fun ls hl => ?_)
  refine lv_aload_n hx hb dX11_becomes_7 rfl (lv_at hl 1 rfl) ?_
  refine gM_s S0 hG h dX11_becomes_8 ?_
  refine lv_iload_n hx hb dX11_becomes_11 rfl (lv_at hl 2 rfl) ?_
  refine lv_iload_n hx hb dX11_becomes_12 rfl (lv_at hl 3 rfl) ?_
  refine sM_s S0 hG h (by omega) dX11_becomes_13 (fun H locs h => ?_)
  refine lv_iload_n hx hb dX11_becomes_14 rfl (lv_at hl 0 rfl) ?_
  exact hret _ () _ _ _ _ rfl h dX11_becomes_15
end
