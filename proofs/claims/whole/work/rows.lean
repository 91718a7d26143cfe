section
-- ===== PART A: goes FIRST, ahead of the names: the tables' words, and 'selects' of the private methods out of them =====
/-- a private method of a class that the tables say can be made, by its rows of tables_1 -/
def lw_okq (q : MethodName × Nat) : Prop := (q.1.cls ≠ "java/lang/invoke/MethodHandle" ∧ q.1.cls ≠ "java/lang/invoke/VarHandle") ∧ Cond.instantiable q.1.cls q.2 ∈ tables_1 ∧ Cond.privateMethod q.1 ∈ tables_1 ∧ Cond.instanceMethod q.1 ∈ tables_1
theorem lw_p0 : lw_okq (⟨"java/lang/Throwable", "fillInStackTrace", "(I)Ljava/lang/Throwable;"⟩, 6) := ⟨⟨by decide +kernel, by decide +kernel⟩, List.mem_of_getElem? (i := 233) (by decide +kernel), List.mem_of_getElem? (i := 231) (by decide +kernel), List.mem_of_getElem? (i := 232) (by decide +kernel)⟩
theorem lw_p1 : lw_okq (⟨"RecurrenceBook$RuleReader", "readPart", "()Z"⟩, 4) := ⟨⟨by decide +kernel, by decide +kernel⟩, List.mem_of_getElem? (i := 298) (by decide +kernel), List.mem_of_getElem? (i := 381) (by decide +kernel), List.mem_of_getElem? (i := 382) (by decide +kernel)⟩
theorem lw_p2 : lw_okq (⟨"RecurrenceBook$RuleReader", "takeWord", "(Ljava/lang/String;)Z"⟩, 4) := ⟨⟨by decide +kernel, by decide +kernel⟩, List.mem_of_getElem? (i := 298) (by decide +kernel), List.mem_of_getElem? (i := 386) (by decide +kernel), List.mem_of_getElem? (i := 387) (by decide +kernel)⟩
theorem lw_p3 : lw_okq (⟨"RecurrenceBook$RuleReader", "readFrequency", "()Z"⟩, 4) := ⟨⟨by decide +kernel, by decide +kernel⟩, List.mem_of_getElem? (i := 298) (by decide +kernel), List.mem_of_getElem? (i := 438) (by decide +kernel), List.mem_of_getElem? (i := 439) (by decide +kernel)⟩
theorem lw_p4 : lw_okq (⟨"RecurrenceBook$RuleReader", "readInterval", "()Z"⟩, 4) := ⟨⟨by decide +kernel, by decide +kernel⟩, List.mem_of_getElem? (i := 298) (by decide +kernel), List.mem_of_getElem? (i := 453) (by decide +kernel), List.mem_of_getElem? (i := 454) (by decide +kernel)⟩
theorem lw_p5 : lw_okq (⟨"RecurrenceBook$RuleReader", "takeNumber", "(II)I"⟩, 4) := ⟨⟨by decide +kernel, by decide +kernel⟩, List.mem_of_getElem? (i := 298) (by decide +kernel), List.mem_of_getElem? (i := 457) (by decide +kernel), List.mem_of_getElem? (i := 458) (by decide +kernel)⟩
theorem lw_p6 : lw_okq (⟨"RecurrenceBook$RuleReader", "isDigitNext", "()Z"⟩, 4) := ⟨⟨by decide +kernel, by decide +kernel⟩, List.mem_of_getElem? (i := 298) (by decide +kernel), List.mem_of_getElem? (i := 461) (by decide +kernel), List.mem_of_getElem? (i := 462) (by decide +kernel)⟩
theorem lw_p7 : lw_okq (⟨"RecurrenceBook$RuleReader", "readCount", "()Z"⟩, 4) := ⟨⟨by decide +kernel, by decide +kernel⟩, List.mem_of_getElem? (i := 298) (by decide +kernel), List.mem_of_getElem? (i := 466) (by decide +kernel), List.mem_of_getElem? (i := 467) (by decide +kernel)⟩
theorem lw_p8 : lw_okq (⟨"RecurrenceBook$RuleReader", "readUntil", "()Z"⟩, 4) := ⟨⟨by decide +kernel, by decide +kernel⟩, List.mem_of_getElem? (i := 298) (by decide +kernel), List.mem_of_getElem? (i := 471) (by decide +kernel), List.mem_of_getElem? (i := 472) (by decide +kernel)⟩
theorem lw_p9 : lw_okq (⟨"RecurrenceBook$RuleReader", "readWeekdays", "()Z"⟩, 4) := ⟨⟨by decide +kernel, by decide +kernel⟩, List.mem_of_getElem? (i := 298) (by decide +kernel), List.mem_of_getElem? (i := 482) (by decide +kernel), List.mem_of_getElem? (i := 483) (by decide +kernel)⟩
theorem lw_p10 : lw_okq (⟨"RecurrenceBook$RuleReader", "readWeekday", "()Z"⟩, 4) := ⟨⟨by decide +kernel, by decide +kernel⟩, List.mem_of_getElem? (i := 298) (by decide +kernel), List.mem_of_getElem? (i := 486) (by decide +kernel), List.mem_of_getElem? (i := 487) (by decide +kernel)⟩
theorem lw_p11 : lw_okq (⟨"RecurrenceBook$RuleReader", "take", "(C)Z"⟩, 4) := ⟨⟨by decide +kernel, by decide +kernel⟩, List.mem_of_getElem? (i := 298) (by decide +kernel), List.mem_of_getElem? (i := 490) (by decide +kernel), List.mem_of_getElem? (i := 491) (by decide +kernel)⟩
theorem lw_p12 : lw_okq (⟨"RecurrenceBook$RuleReader", "takeWeekday", "()I"⟩, 4) := ⟨⟨by decide +kernel, by decide +kernel⟩, List.mem_of_getElem? (i := 298) (by decide +kernel), List.mem_of_getElem? (i := 494) (by decide +kernel), List.mem_of_getElem? (i := 495) (by decide +kernel)⟩
theorem lw_p13 : lw_okq (⟨"RecurrenceBook$RuleReader", "readNumbers", "()Z"⟩, 4) := ⟨⟨by decide +kernel, by decide +kernel⟩, List.mem_of_getElem? (i := 298) (by decide +kernel), List.mem_of_getElem? (i := 511) (by decide +kernel), List.mem_of_getElem? (i := 512) (by decide +kernel)⟩
theorem lw_p14 : lw_okq (⟨"RecurrenceBook$RuleReader", "readMonths", "()Z"⟩, 4) := ⟨⟨by decide +kernel, by decide +kernel⟩, List.mem_of_getElem? (i := 298) (by decide +kernel), List.mem_of_getElem? (i := 520) (by decide +kernel), List.mem_of_getElem? (i := 521) (by decide +kernel)⟩
theorem lw_p15 : lw_okq (⟨"RecurrenceBook$Unfolding", "enterMonth", "(I)V"⟩, 12) := ⟨⟨by decide +kernel, by decide +kernel⟩, List.mem_of_getElem? (i := 537) (by decide +kernel), List.mem_of_getElem? (i := 592) (by decide +kernel), List.mem_of_getElem? (i := 593) (by decide +kernel)⟩
def lw_privs_1 : List (MethodName × Nat) := [(⟨"java/lang/Throwable", "fillInStackTrace", "(I)Ljava/lang/Throwable;"⟩, 6), (⟨"RecurrenceBook$RuleReader", "readPart", "()Z"⟩, 4), (⟨"RecurrenceBook$RuleReader", "takeWord", "(Ljava/lang/String;)Z"⟩, 4), (⟨"RecurrenceBook$RuleReader", "readFrequency", "()Z"⟩, 4), (⟨"RecurrenceBook$RuleReader", "readInterval", "()Z"⟩, 4), (⟨"RecurrenceBook$RuleReader", "takeNumber", "(II)I"⟩, 4), (⟨"RecurrenceBook$RuleReader", "isDigitNext", "()Z"⟩, 4), (⟨"RecurrenceBook$RuleReader", "readCount", "()Z"⟩, 4), (⟨"RecurrenceBook$RuleReader", "readUntil", "()Z"⟩, 4), (⟨"RecurrenceBook$RuleReader", "readWeekdays", "()Z"⟩, 4), (⟨"RecurrenceBook$RuleReader", "readWeekday", "()Z"⟩, 4), (⟨"RecurrenceBook$RuleReader", "take", "(C)Z"⟩, 4), (⟨"RecurrenceBook$RuleReader", "takeWeekday", "()I"⟩, 4), (⟨"RecurrenceBook$RuleReader", "readNumbers", "()Z"⟩, 4), (⟨"RecurrenceBook$RuleReader", "readMonths", "()Z"⟩, 4), (⟨"RecurrenceBook$Unfolding", "enterMonth", "(I)V"⟩, 12)]
theorem lw_r1 : ∀ q ∈ lw_privs_1, lw_okq q := List.forall_mem_cons.mpr ⟨lw_p0, List.forall_mem_cons.mpr ⟨lw_p1, List.forall_mem_cons.mpr ⟨lw_p2, List.forall_mem_cons.mpr ⟨lw_p3, List.forall_mem_cons.mpr ⟨lw_p4, List.forall_mem_cons.mpr ⟨lw_p5, List.forall_mem_cons.mpr ⟨lw_p6, List.forall_mem_cons.mpr ⟨lw_p7, List.forall_mem_cons.mpr ⟨lw_p8, List.forall_mem_cons.mpr ⟨lw_p9, List.forall_mem_cons.mpr ⟨lw_p10, List.forall_mem_cons.mpr ⟨lw_p11, List.forall_mem_cons.mpr ⟨lw_p12, List.forall_mem_cons.mpr ⟨lw_p13, List.forall_mem_cons.mpr ⟨lw_p14, List.forall_mem_cons.mpr ⟨lw_p15, fun _ h => absurd h List.not_mem_nil⟩⟩⟩⟩⟩⟩⟩⟩⟩⟩⟩⟩⟩⟩⟩⟩
theorem lw_p16 : lw_okq (⟨"RecurrenceBook$Unfolding", "addDays", "()V"⟩, 12) := ⟨⟨by decide +kernel, by decide +kernel⟩, List.mem_of_getElem? (i := 537) (by decide +kernel), List.mem_of_getElem? (i := 601) (by decide +kernel), List.mem_of_getElem? (i := 602) (by decide +kernel)⟩
theorem lw_p17 : lw_okq (⟨"RecurrenceBook$Unfolding", "followMonth", "(I)V"⟩, 12) := ⟨⟨by decide +kernel, by decide +kernel⟩, List.mem_of_getElem? (i := 537) (by decide +kernel), List.mem_of_getElem? (i := 605) (by decide +kernel), List.mem_of_getElem? (i := 606) (by decide +kernel)⟩
theorem lw_p18 : lw_okq (⟨"RecurrenceBook$Unfolding", "isMeantInMonth", "(I)Z"⟩, 12) := ⟨⟨by decide +kernel, by decide +kernel⟩, List.mem_of_getElem? (i := 537) (by decide +kernel), List.mem_of_getElem? (i := 609) (by decide +kernel), List.mem_of_getElem? (i := 610) (by decide +kernel)⟩
theorem lw_p19 : lw_okq (⟨"RecurrenceBook$Unfolding", "add", "(I)V"⟩, 12) := ⟨⟨by decide +kernel, by decide +kernel⟩, List.mem_of_getElem? (i := 537) (by decide +kernel), List.mem_of_getElem? (i := 622) (by decide +kernel), List.mem_of_getElem? (i := 623) (by decide +kernel)⟩
theorem lw_p20 : lw_okq (⟨"RecurrenceBook$Unfolding", "addWeeks", "()V"⟩, 12) := ⟨⟨by decide +kernel, by decide +kernel⟩, List.mem_of_getElem? (i := 537) (by decide +kernel), List.mem_of_getElem? (i := 627) (by decide +kernel), List.mem_of_getElem? (i := 628) (by decide +kernel)⟩
theorem lw_p21 : lw_okq (⟨"RecurrenceBook$Unfolding", "addMonths", "()V"⟩, 12) := ⟨⟨by decide +kernel, by decide +kernel⟩, List.mem_of_getElem? (i := 537) (by decide +kernel), List.mem_of_getElem? (i := 632) (by decide +kernel), List.mem_of_getElem? (i := 633) (by decide +kernel)⟩
theorem lw_p22 : lw_okq (⟨"RecurrenceBook$Unfolding", "addMonth", "(I)V"⟩, 12) := ⟨⟨by decide +kernel, by decide +kernel⟩, List.mem_of_getElem? (i := 537) (by decide +kernel), List.mem_of_getElem? (i := 636) (by decide +kernel), List.mem_of_getElem? (i := 637) (by decide +kernel)⟩
theorem lw_p23 : lw_okq (⟨"RecurrenceBook$Unfolding", "addYears", "()V"⟩, 12) := ⟨⟨by decide +kernel, by decide +kernel⟩, List.mem_of_getElem? (i := 537) (by decide +kernel), List.mem_of_getElem? (i := 642) (by decide +kernel), List.mem_of_getElem? (i := 643) (by decide +kernel)⟩
theorem lw_p24 : lw_okq (⟨"RecurrenceBook", "findEvent", "(I)LRecurrenceBook$Event;"⟩, 7) := ⟨⟨by decide +kernel, by decide +kernel⟩, List.mem_of_getElem? (i := 24) (by decide +kernel), List.mem_of_getElem? (i := 658) (by decide +kernel), List.mem_of_getElem? (i := 659) (by decide +kernel)⟩
theorem lw_p25 : lw_okq (⟨"RecurrenceBook", "findTime", "(II)I"⟩, 7) := ⟨⟨by decide +kernel, by decide +kernel⟩, List.mem_of_getElem? (i := 24) (by decide +kernel), List.mem_of_getElem? (i := 696) (by decide +kernel), List.mem_of_getElem? (i := 697) (by decide +kernel)⟩
theorem lw_p26 : lw_okq (⟨"RecurrenceBook", "earliestHead", "()I"⟩, 7) := ⟨⟨by decide +kernel, by decide +kernel⟩, List.mem_of_getElem? (i := 24) (by decide +kernel), List.mem_of_getElem? (i := 722) (by decide +kernel), List.mem_of_getElem? (i := 723) (by decide +kernel)⟩
theorem lw_p27 : lw_okq (⟨"RecurrenceBookModel", "changes", "(IIII)V"⟩, 36) := ⟨⟨by decide +kernel, by decide +kernel⟩, List.mem_of_getElem? (i := 751) (by decide +kernel), List.mem_of_getElem? (i := 757) (by decide +kernel), List.mem_of_getElem? (i := 758) (by decide +kernel)⟩
theorem lw_p28 : lw_okq (⟨"RecurrenceBookModel", "fails", "(Z)Z"⟩, 36) := ⟨⟨by decide +kernel, by decide +kernel⟩, List.mem_of_getElem? (i := 751) (by decide +kernel), List.mem_of_getElem? (i := 904) (by decide +kernel), List.mem_of_getElem? (i := 905) (by decide +kernel)⟩
theorem lw_p29 : lw_okq (⟨"RecurrenceBookModel", "inSummer", "(I)Z"⟩, 36) := ⟨⟨by decide +kernel, by decide +kernel⟩, List.mem_of_getElem? (i := 751) (by decide +kernel), List.mem_of_getElem? (i := 912) (by decide +kernel), List.mem_of_getElem? (i := 913) (by decide +kernel)⟩
theorem lw_p30 : lw_okq (⟨"RecurrenceBookModel", "readRule", "()Z"⟩, 36) := ⟨⟨by decide +kernel, by decide +kernel⟩, List.mem_of_getElem? (i := 751) (by decide +kernel), List.mem_of_getElem? (i := 925) (by decide +kernel), List.mem_of_getElem? (i := 926) (by decide +kernel)⟩
theorem lw_p31 : lw_okq (⟨"RecurrenceBookModel", "readPart", "()I"⟩, 36) := ⟨⟨by decide +kernel, by decide +kernel⟩, List.mem_of_getElem? (i := 751) (by decide +kernel), List.mem_of_getElem? (i := 929) (by decide +kernel), List.mem_of_getElem? (i := 930) (by decide +kernel)⟩
def lw_privs_2 : List (MethodName × Nat) := [(⟨"RecurrenceBook$Unfolding", "addDays", "()V"⟩, 12), (⟨"RecurrenceBook$Unfolding", "followMonth", "(I)V"⟩, 12), (⟨"RecurrenceBook$Unfolding", "isMeantInMonth", "(I)Z"⟩, 12), (⟨"RecurrenceBook$Unfolding", "add", "(I)V"⟩, 12), (⟨"RecurrenceBook$Unfolding", "addWeeks", "()V"⟩, 12), (⟨"RecurrenceBook$Unfolding", "addMonths", "()V"⟩, 12), (⟨"RecurrenceBook$Unfolding", "addMonth", "(I)V"⟩, 12), (⟨"RecurrenceBook$Unfolding", "addYears", "()V"⟩, 12), (⟨"RecurrenceBook", "findEvent", "(I)LRecurrenceBook$Event;"⟩, 7), (⟨"RecurrenceBook", "findTime", "(II)I"⟩, 7), (⟨"RecurrenceBook", "earliestHead", "()I"⟩, 7), (⟨"RecurrenceBookModel", "changes", "(IIII)V"⟩, 36), (⟨"RecurrenceBookModel", "fails", "(Z)Z"⟩, 36), (⟨"RecurrenceBookModel", "inSummer", "(I)Z"⟩, 36), (⟨"RecurrenceBookModel", "readRule", "()Z"⟩, 36), (⟨"RecurrenceBookModel", "readPart", "()I"⟩, 36)]
theorem lw_r2 : ∀ q ∈ lw_privs_2, lw_okq q := List.forall_mem_cons.mpr ⟨lw_p16, List.forall_mem_cons.mpr ⟨lw_p17, List.forall_mem_cons.mpr ⟨lw_p18, List.forall_mem_cons.mpr ⟨lw_p19, List.forall_mem_cons.mpr ⟨lw_p20, List.forall_mem_cons.mpr ⟨lw_p21, List.forall_mem_cons.mpr ⟨lw_p22, List.forall_mem_cons.mpr ⟨lw_p23, List.forall_mem_cons.mpr ⟨lw_p24, List.forall_mem_cons.mpr ⟨lw_p25, List.forall_mem_cons.mpr ⟨lw_p26, List.forall_mem_cons.mpr ⟨lw_p27, List.forall_mem_cons.mpr ⟨lw_p28, List.forall_mem_cons.mpr ⟨lw_p29, List.forall_mem_cons.mpr ⟨lw_p30, List.forall_mem_cons.mpr ⟨lw_p31, fun _ h => absurd h List.not_mem_nil⟩⟩⟩⟩⟩⟩⟩⟩⟩⟩⟩⟩⟩⟩⟩⟩
theorem lw_p32 : lw_okq (⟨"RecurrenceBookModel", "letters", "(I)J"⟩, 36) := ⟨⟨by decide +kernel, by decide +kernel⟩, List.mem_of_getElem? (i := 751) (by decide +kernel), List.mem_of_getElem? (i := 933) (by decide +kernel), List.mem_of_getElem? (i := 934) (by decide +kernel)⟩
theorem lw_p33 : lw_okq (⟨"RecurrenceBookModel", "look", "()I"⟩, 36) := ⟨⟨by decide +kernel, by decide +kernel⟩, List.mem_of_getElem? (i := 751) (by decide +kernel), List.mem_of_getElem? (i := 937) (by decide +kernel), List.mem_of_getElem? (i := 938) (by decide +kernel)⟩
theorem lw_p34 : lw_okq (⟨"RecurrenceBookModel", "takes", "(I)Z"⟩, 36) := ⟨⟨by decide +kernel, by decide +kernel⟩, List.mem_of_getElem? (i := 751) (by decide +kernel), List.mem_of_getElem? (i := 943) (by decide +kernel), List.mem_of_getElem? (i := 944) (by decide +kernel)⟩
theorem lw_p35 : lw_okq (⟨"RecurrenceBookModel", "readFrequency", "()Z"⟩, 36) := ⟨⟨by decide +kernel, by decide +kernel⟩, List.mem_of_getElem? (i := 751) (by decide +kernel), List.mem_of_getElem? (i := 948) (by decide +kernel), List.mem_of_getElem? (i := 949) (by decide +kernel)⟩
theorem lw_p36 : lw_okq (⟨"RecurrenceBookModel", "digits", "(I)I"⟩, 36) := ⟨⟨by decide +kernel, by decide +kernel⟩, List.mem_of_getElem? (i := 751) (by decide +kernel), List.mem_of_getElem? (i := 957) (by decide +kernel), List.mem_of_getElem? (i := 958) (by decide +kernel)⟩
theorem lw_p37 : lw_okq (⟨"RecurrenceBookModel", "readUntil", "()Z"⟩, 36) := ⟨⟨by decide +kernel, by decide +kernel⟩, List.mem_of_getElem? (i := 751) (by decide +kernel), List.mem_of_getElem? (i := 963) (by decide +kernel), List.mem_of_getElem? (i := 964) (by decide +kernel)⟩
theorem lw_p38 : lw_okq (⟨"RecurrenceBookModel", "readList", "(I)Z"⟩, 36) := ⟨⟨by decide +kernel, by decide +kernel⟩, List.mem_of_getElem? (i := 751) (by decide +kernel), List.mem_of_getElem? (i := 968) (by decide +kernel), List.mem_of_getElem? (i := 969) (by decide +kernel)⟩
theorem lw_p39 : lw_okq (⟨"RecurrenceBookModel", "readWeekday", "()Z"⟩, 36) := ⟨⟨by decide +kernel, by decide +kernel⟩, List.mem_of_getElem? (i := 751) (by decide +kernel), List.mem_of_getElem? (i := 972) (by decide +kernel), List.mem_of_getElem? (i := 973) (by decide +kernel)⟩
theorem lw_p40 : lw_okq (⟨"RecurrenceBookModel", "readMonthDay", "()Z"⟩, 36) := ⟨⟨by decide +kernel, by decide +kernel⟩, List.mem_of_getElem? (i := 751) (by decide +kernel), List.mem_of_getElem? (i := 986) (by decide +kernel), List.mem_of_getElem? (i := 987) (by decide +kernel)⟩
theorem lw_p41 : lw_okq (⟨"RecurrenceBookModel", "split", "(I)V"⟩, 36) := ⟨⟨by decide +kernel, by decide +kernel⟩, List.mem_of_getElem? (i := 751) (by decide +kernel), List.mem_of_getElem? (i := 992) (by decide +kernel), List.mem_of_getElem? (i := 993) (by decide +kernel)⟩
theorem lw_p42 : lw_okq (⟨"RecurrenceBookModel", "fill", "(I)V"⟩, 36) := ⟨⟨by decide +kernel, by decide +kernel⟩, List.mem_of_getElem? (i := 751) (by decide +kernel), List.mem_of_getElem? (i := 996) (by decide +kernel), List.mem_of_getElem? (i := 997) (by decide +kernel)⟩
theorem lw_p43 : lw_okq (⟨"RecurrenceBookModel", "inPeriod", "(I)Z"⟩, 36) := ⟨⟨by decide +kernel, by decide +kernel⟩, List.mem_of_getElem? (i := 751) (by decide +kernel), List.mem_of_getElem? (i := 1000) (by decide +kernel), List.mem_of_getElem? (i := 1001) (by decide +kernel)⟩
theorem lw_p44 : lw_okq (⟨"RecurrenceBookModel", "means", "(I)Z"⟩, 36) := ⟨⟨by decide +kernel, by decide +kernel⟩, List.mem_of_getElem? (i := 751) (by decide +kernel), List.mem_of_getElem? (i := 1004) (by decide +kernel), List.mem_of_getElem? (i := 1005) (by decide +kernel)⟩
theorem lw_p45 : lw_okq (⟨"RecurrenceBookModel", "byWeekday", "(I)Z"⟩, 36) := ⟨⟨by decide +kernel, by decide +kernel⟩, List.mem_of_getElem? (i := 751) (by decide +kernel), List.mem_of_getElem? (i := 1008) (by decide +kernel), List.mem_of_getElem? (i := 1009) (by decide +kernel)⟩
theorem lw_p46 : lw_okq (⟨"RecurrenceBookModel", "byMonthDay", "()Z"⟩, 36) := ⟨⟨by decide +kernel, by decide +kernel⟩, List.mem_of_getElem? (i := 751) (by decide +kernel), List.mem_of_getElem? (i := 1012) (by decide +kernel), List.mem_of_getElem? (i := 1013) (by decide +kernel)⟩
theorem lw_p47 : lw_okq (⟨"RecurrenceBookModel", "behindPeriod", "(I)I"⟩, 36) := ⟨⟨by decide +kernel, by decide +kernel⟩, List.mem_of_getElem? (i := 751) (by decide +kernel), List.mem_of_getElem? (i := 1016) (by decide +kernel), List.mem_of_getElem? (i := 1017) (by decide +kernel)⟩
def lw_privs_3 : List (MethodName × Nat) := [(⟨"RecurrenceBookModel", "letters", "(I)J"⟩, 36), (⟨"RecurrenceBookModel", "look", "()I"⟩, 36), (⟨"RecurrenceBookModel", "takes", "(I)Z"⟩, 36), (⟨"RecurrenceBookModel", "readFrequency", "()Z"⟩, 36), (⟨"RecurrenceBookModel", "digits", "(I)I"⟩, 36), (⟨"RecurrenceBookModel", "readUntil", "()Z"⟩, 36), (⟨"RecurrenceBookModel", "readList", "(I)Z"⟩, 36), (⟨"RecurrenceBookModel", "readWeekday", "()Z"⟩, 36), (⟨"RecurrenceBookModel", "readMonthDay", "()Z"⟩, 36), (⟨"RecurrenceBookModel", "split", "(I)V"⟩, 36), (⟨"RecurrenceBookModel", "fill", "(I)V"⟩, 36), (⟨"RecurrenceBookModel", "inPeriod", "(I)Z"⟩, 36), (⟨"RecurrenceBookModel", "means", "(I)Z"⟩, 36), (⟨"RecurrenceBookModel", "byWeekday", "(I)Z"⟩, 36), (⟨"RecurrenceBookModel", "byMonthDay", "()Z"⟩, 36), (⟨"RecurrenceBookModel", "behindPeriod", "(I)I"⟩, 36)]
theorem lw_r3 : ∀ q ∈ lw_privs_3, lw_okq q := List.forall_mem_cons.mpr ⟨lw_p32, List.forall_mem_cons.mpr ⟨lw_p33, List.forall_mem_cons.mpr ⟨lw_p34, List.forall_mem_cons.mpr ⟨lw_p35, List.forall_mem_cons.mpr ⟨lw_p36, List.forall_mem_cons.mpr ⟨lw_p37, List.forall_mem_cons.mpr ⟨lw_p38, List.forall_mem_cons.mpr ⟨lw_p39, List.forall_mem_cons.mpr ⟨lw_p40, List.forall_mem_cons.mpr ⟨lw_p41, List.forall_mem_cons.mpr ⟨lw_p42, List.forall_mem_cons.mpr ⟨lw_p43, List.forall_mem_cons.mpr ⟨lw_p44, List.forall_mem_cons.mpr ⟨lw_p45, List.forall_mem_cons.mpr ⟨lw_p46, List.forall_mem_cons.mpr ⟨lw_p47, fun _ h => absurd h List.not_mem_nil⟩⟩⟩⟩⟩⟩⟩⟩⟩⟩⟩⟩⟩⟩⟩⟩
theorem lw_p48 : lw_okq (⟨"RecurrenceBookModel", "isExcluded", "(II)Z"⟩, 36) := ⟨⟨by decide +kernel, by decide +kernel⟩, List.mem_of_getElem? (i := 751) (by decide +kernel), List.mem_of_getElem? (i := 1024) (by decide +kernel), List.mem_of_getElem? (i := 1025) (by decide +kernel)⟩
theorem lw_p49 : lw_okq (⟨"RecurrenceBookModel", "timeDay", "(II)I"⟩, 36) := ⟨⟨by decide +kernel, by decide +kernel⟩, List.mem_of_getElem? (i := 751) (by decide +kernel), List.mem_of_getElem? (i := 1036) (by decide +kernel), List.mem_of_getElem? (i := 1037) (by decide +kernel)⟩
theorem lw_p50 : lw_okq (⟨"RecurrenceBookModel", "momentOf", "(I)I"⟩, 36) := ⟨⟨by decide +kernel, by decide +kernel⟩, List.mem_of_getElem? (i := 751) (by decide +kernel), List.mem_of_getElem? (i := 1044) (by decide +kernel), List.mem_of_getElem? (i := 1045) (by decide +kernel)⟩
theorem lw_p51 : lw_okq (⟨"RecurrenceBookModel", "join", "(II)V"⟩, 36) := ⟨⟨by decide +kernel, by decide +kernel⟩, List.mem_of_getElem? (i := 751) (by decide +kernel), List.mem_of_getElem? (i := 1059) (by decide +kernel), List.mem_of_getElem? (i := 1060) (by decide +kernel)⟩
def lw_privs_4 : List (MethodName × Nat) := [(⟨"RecurrenceBookModel", "isExcluded", "(II)Z"⟩, 36), (⟨"RecurrenceBookModel", "timeDay", "(II)I"⟩, 36), (⟨"RecurrenceBookModel", "momentOf", "(I)I"⟩, 36), (⟨"RecurrenceBookModel", "join", "(II)V"⟩, 36)]
theorem lw_r4 : ∀ q ∈ lw_privs_4, lw_okq q := List.forall_mem_cons.mpr ⟨lw_p48, List.forall_mem_cons.mpr ⟨lw_p49, List.forall_mem_cons.mpr ⟨lw_p50, List.forall_mem_cons.mpr ⟨lw_p51, fun _ h => absurd h List.not_mem_nil⟩⟩⟩⟩
def lw_privs : List (MethodName × Nat) := lw_privs_1 ++ (lw_privs_2 ++ (lw_privs_3 ++ (lw_privs_4)))
def lw_tbl : List Cond := k2_sels lw_privs ++ tables_1
theorem lw_privs_ok : ∀ q ∈ lw_privs, lw_okq q := by
  show ∀ q ∈ lw_privs_1 ++ (lw_privs_2 ++ (lw_privs_3 ++ (lw_privs_4))), lw_okq q
  exact List.forall_mem_append.mpr ⟨lw_r1, List.forall_mem_append.mpr ⟨lw_r2, List.forall_mem_append.mpr ⟨lw_r3, lw_r4⟩⟩⟩
end
section
/-! The tables' words that hold at every state of the run, by their places in the Statement's list. -/
def xj_gd : Cond → Bool
  | .castable .. => true
  | .declares _ => true
  | w => goodWord w
def xj_ws : List Cond := lw_tbl.filter xj_gd
theorem xj_gd_or {w : Cond} (h : xj_gd w = true) : goodWord w = true ∨ (∃ a b, w = .castable a b) ∨ ∃ x, w = .declares x := by
  cases w <;> first | exact Or.inr (Or.inl ⟨_, _, rfl⟩) | exact Or.inr (Or.inr ⟨_, rfl⟩) | exact Or.inl h
theorem xj_ws_good : ∀ w ∈ xj_ws, goodWord w = true ∨ (∃ a b, w = .castable a b) ∨ ∃ x, w = .declares x := fun _ hw => xj_gd_or (List.mem_filter.mp hw).2
theorem xj_cast {a b : String} {args a' : Array Value} {s U : State} (hal : s.vm.Alike U.vm) (h : (Cond.castable a b).before args s = true) : (Cond.castable a b).before a' U = true := by
  obtain ⟨c, t, h1, h2, h3⟩ := Cond.castable_spec h
  have e1 : U.vm.findClass a = some c := by rw [hal.findClass]; exact h1
  have e2 : U.vm.findClass b = some t := by rw [hal.findClass]; exact h2
  have e3 : U.vm.assignable c t = true := by rw [hal.assignable]; exact h3
  simp [Cond.before, Cond.holds, Cond.value, e1, e2, e3]
def xj_ne : Cond → Bool
  | .fieldLinkNest .. => true
  | .methodLinkNest .. => true
  | _ => false
def xj_nw : List Cond := tables_1.filter xj_ne
theorem xj_nw_nest : ∀ w ∈ xj_nw, (∃ a i b n d h, w = .fieldLinkNest a i b n d h) ∨ ∃ a i x h, w = .methodLinkNest a i x h := by
  intro w hw
  have h := (List.mem_filter.mp hw).2
  cases w <;> simp [xj_ne] at h
  · exact Or.inr ⟨_, _, _, _, rfl⟩
  · exact Or.inl ⟨_, _, _, _, _, _, rfl⟩
theorem xm_t {w : Cond} (i : Nat) (h : tables_1[i]? = some w) (hg : xj_gd w = true) : w ∈ xj_ws := List.mem_filter.mpr ⟨List.mem_append_right _ (List.mem_of_getElem? h), hg⟩
theorem xm_p {q : MethodName × Nat} (i : Nat) (h : lw_privs[i]? = some q) : Cond.selects q.1.cls q.1 q.1 ∈ xj_ws := List.mem_filter.mpr ⟨List.mem_append_left _ (List.mem_map.mpr ⟨q, List.mem_of_getElem? h, rfl⟩), rfl⟩
theorem xm_n {w : Cond} (i : Nat) (h : tables_1[i]? = some w) (hg : xj_ne w = true) : w ∈ xj_nw := List.mem_filter.mpr ⟨List.mem_of_getElem? h, hg⟩
end
section
/-! The abstract words: cells by their places, references by places, results. -/
abbrev xj_C : Type := (Nat × vp_A) ⊕ (Nat × List Value)
abbrev xj_H : Type := List xj_C × Nat × Nat
abbrev xj_R : Type := (Option Value ⊕ String) × xj_H
abbrev xj_G : Type := va_G × (Nat → ClassId) × (Nat → Nat) × (Nat → Int32) × Nat
abbrev xj_Rf : Type := Option (Nat ⊕ Nat)
def xj_rv (r : xj_Rf) : Value := match r with
  | none => .null
  | some (.inl k) => .ref k
  | some (.inr i) => .retAddr i
def xj_v (g : xj_G) (ad : Nat → Nat) (v : Value) : Value := match v with
  | .ref k => .ref (ad k)
  | .retAddr i => .ref (g.2.2.1 i)
  | .int x => .int x
  | .long x => .long x
  | .float x => .float x
  | .double x => .double x
  | .null => .null
def xj_c (g : xj_G) (ad : Nat → Nat) (x : xj_C) : va_E := match x with
  | .inl (t, n, .inl f) => .inl (g.2.1 t, n, .inl f)
  | .inl (t, n, .inr (.inl f)) => .inl (g.2.1 t, n, .inr (.inl f))
  | .inl (t, n, .inr (.inr (.inl f))) => .inl (g.2.1 t, n, .inr (.inr (.inl f)))
  | .inl (t, n, .inr (.inr (.inr (.inl f)))) => .inl (g.2.1 t, n, .inr (.inr (.inr (.inl f))))
  | .inl (t, n, .inr (.inr (.inr (.inr f)))) => .inl (g.2.1 t, n, .inr (.inr (.inr (.inr (fun i => (f i).map ad)))))
  | .inr (ci, fs) => .inr (ci, fs.map (xj_v g ad))
def xj_w (g : xj_G) (ad : Nat → Nat) (A : List xj_C) : va_W := A.mapIdx (fun k x => (ad k, xj_c g ad x))
def xj_wv (n : Nat) (v : Value) : Prop := match v with
  | .ref k => k < n
  | _ => True
def xj_wst (n : Nat) : List Value → Prop
  | [] => True
  | v :: r => xj_wv n v ∧ xj_wst n r
def xj_wls (n : Nat) (ls : List (Nat × Value)) : Prop := ∀ q ∈ ls, xj_wv n q.2
def xj_wc (n : Nat) (x : xj_C) : Prop := match x with
  | .inl (_, _, .inr (.inr (.inr (.inr f)))) => ∀ i k, f i = some k → k < n
  | .inl _ => True
  | .inr (_, fs) => ∀ v ∈ fs, xj_wv n v
theorem xj_v_cat (g : xj_G) (ad : Nat → Nat) (v : Value) : (xj_v g ad v).category = v.category := by cases v <;> rfl
theorem xj_v_same {g : xj_G} {ad ad' : Nat → Nat} {n : Nat} (ha : ∀ k, k < n → ad' k = ad k) {v : Value} (h : xj_wv n v) : xj_v g ad' v = xj_v g ad v := by
  cases v with
  | ref k => simp only [xj_v]; rw [ha k h]
  | _ => rfl
theorem xj_st_same {g : xj_G} {ad ad' : Nat → Nat} {n : Nat} (ha : ∀ k, k < n → ad' k = ad k) : ∀ {st : List Value}, xj_wst n st → st.map (xj_v g ad') = st.map (xj_v g ad)
  | [], _ => rfl
  | v :: r, h => by rw [List.map_cons, List.map_cons, xj_v_same ha h.1, xj_st_same ha h.2]
theorem xj_ls_same {g : xj_G} {ad ad' : Nat → Nat} {n : Nat} (ha : ∀ k, k < n → ad' k = ad k) {ls : List (Nat × Value)} (h : xj_wls n ls) : ls.map (fun q => (q.1, xj_v g ad' q.2)) = ls.map (fun q => (q.1, xj_v g ad q.2)) :=
  List.map_congr_left fun q hq => by rw [xj_v_same ha (h q hq)]
theorem xj_c_same {g : xj_G} {ad ad' : Nat → Nat} {n : Nat} (ha : ∀ k, k < n → ad' k = ad k) {x : xj_C} (h : xj_wc n x) : xj_c g ad' x = xj_c g ad x := by
  match x, h with
  | .inl (t, m, .inl f), _ => rfl
  | .inl (t, m, .inr (.inl f)), _ => rfl
  | .inl (t, m, .inr (.inr (.inl f))), _ => rfl
  | .inl (t, m, .inr (.inr (.inr (.inl f)))), _ => rfl
  | .inl (t, m, .inr (.inr (.inr (.inr f)))), h =>
    have hf : (fun i => (f i).map ad') = fun i => (f i).map ad := by
      funext i
      cases hi : f i with
      | none => rfl
      | some k => simp only [Option.map_some]; rw [ha k (h i k hi)]
    simp only [xj_c, hf]
  | .inr (ci, fs), h =>
    have hf : fs.map (xj_v g ad') = fs.map (xj_v g ad) := List.map_congr_left fun v hv => xj_v_same ha (h v hv)
    simp only [xj_c, hf]
theorem xj_w_get (g : xj_G) (ad : Nat → Nat) (A : List xj_C) (k : Nat) : (xj_w g ad A)[k]? = (A[k]?).map (fun x => (ad k, xj_c g ad x)) := by
  simp [xj_w, List.getElem?_mapIdx]
theorem xj_w_at {g : xj_G} {ad : Nat → Nat} {A : List xj_C} {k : Nat} {x : xj_C} (h : A[k]? = some x) : (xj_w g ad A)[k]? = some (ad k, xj_c g ad x) := by
  rw [xj_w_get, h]; rfl
theorem xj_w_len (g : xj_G) (ad : Nat → Nat) (A : List xj_C) : (xj_w g ad A).length = A.length := by simp [xj_w]
theorem xj_w_set (g : xj_G) (ad : Nat → Nat) (A : List xj_C) (k : Nat) (x : xj_C) : (xj_w g ad A).set k (ad k, xj_c g ad x) = xj_w g ad (A.set k x) := by
  apply List.ext_getElem?
  intro j
  rw [xj_w_get, List.getElem?_set, List.getElem?_set, xj_w_len]
  by_cases h : k = j
  · subst h
    by_cases h2 : k < A.length <;> simp [h2]
  · simp [h, xj_w_get]
theorem xj_w_push (g : xj_G) (ad : Nat → Nat) (A : List xj_C) (x : xj_C) : xj_w g ad (A ++ [x]) = xj_w g ad A ++ [(ad A.length, xj_c g ad x)] := by
  simp [xj_w, List.mapIdx_append]
theorem xj_w_same {g : xj_G} {ad ad' : Nat → Nat} {A : List xj_C} (ha : ∀ k, k < A.length → ad' k = ad k) (h : ∀ x ∈ A, xj_wc A.length x) : xj_w g ad' A = xj_w g ad A := by
  apply List.ext_getElem?
  intro j
  rw [xj_w_get, xj_w_get]
  cases hj : A[j]? with
  | none => rfl
  | some x =>
    have hl : j < A.length := (List.getElem?_eq_some_iff.mp hj).1
    simp only [Option.map_some]
    rw [ha j hl, xj_c_same ha (h x (List.mem_of_getElem? hj))]
theorem xj_wv_mono {n n' : Nat} (h : n ≤ n') {v : Value} (hv : xj_wv n v) : xj_wv n' v := by
  cases v with
  | ref k => exact Nat.lt_of_lt_of_le hv h
  | _ => trivial
theorem xj_wst_mono {n n' : Nat} (h : n ≤ n') : ∀ {st : List Value}, xj_wst n st → xj_wst n' st
  | [], _ => trivial
  | _ :: _, hs => ⟨xj_wv_mono h hs.1, xj_wst_mono h hs.2⟩
theorem xj_wls_mono {n n' : Nat} (h : n ≤ n') {ls : List (Nat × Value)} (hl : xj_wls n ls) : xj_wls n' ls := fun q hq => xj_wv_mono h (hl q hq)
theorem xj_wc_mono {n n' : Nat} (h : n ≤ n') {x : xj_C} (hx : xj_wc n x) : xj_wc n' x := by
  match x, hx with
  | .inl (t, m, .inl f), _ => trivial
  | .inl (t, m, .inr (.inl f)), _ => trivial
  | .inl (t, m, .inr (.inr (.inl f))), _ => trivial
  | .inl (t, m, .inr (.inr (.inr (.inl f)))), _ => trivial
  | .inl (t, m, .inr (.inr (.inr (.inr f)))), hx => exact fun i k hk => Nat.lt_of_lt_of_le (hx i k hk) h
  | .inr (ci, fs), hx => exact fun v hv => xj_wv_mono h (hx v hv)
theorem xj_wst_mem {n : Nat} : ∀ {st : List Value}, (∀ v ∈ st, xj_wv n v) → xj_wst n st
  | [], _ => trivial
  | v :: r, h => ⟨h v List.mem_cons_self, xj_wst_mem fun w hw => h w (List.mem_cons_of_mem _ hw)⟩
theorem xj_wst_app {n : Nat} : ∀ {a b : List Value}, xj_wst n (a ++ b) → xj_wst n a ∧ xj_wst n b
  | [], _, h => ⟨trivial, h⟩
  | _ :: _, _, h => ⟨⟨h.1, (xj_wst_app h.2).1⟩, (xj_wst_app h.2).2⟩
theorem xj_wst_of {n : Nat} : ∀ {st : List Value}, xj_wst n st → ∀ v ∈ st, xj_wv n v
  | _ :: _, h, v, hv => by
    rcases List.mem_cons.mp hv with rfl | hv
    · exact h.1
    · exact xj_wst_of h.2 v hv
/-! Reading and writing the cells. -/
def xj_o (a : Nat) : xj_Rf := some (.inl a)
def xj_gv (A : xj_H) (o : xj_Rf) (ci k : Nat) : Option Value := match o with
  | some (.inl a) => match A.1[a]? with
    | some (.inr q) => if q.1 = ci then q.2[k]? else none
    | _ => none
  | _ => none
def xj_gi (A : xj_H) (o : xj_Rf) (ci k : Nat) : Option Int32 := match xj_gv A o ci k with
  | some (.int x) => some x
  | _ => none
def xj_gl (A : xj_H) (o : xj_Rf) (ci k : Nat) : Option Int64 := match xj_gv A o ci k with
  | some (.long x) => some x
  | _ => none
def xj_vr (v : Value) : Option xj_Rf := match v with
  | .ref k => some (some (.inl k))
  | .retAddr i => some (some (.inr i))
  | .null => some none
  | _ => none
def xj_gr (A : xj_H) (o : xj_Rf) (ci k : Nat) : Option xj_Rf := (xj_gv A o ci k).bind xj_vr
def xj_pv (A : xj_H) (o : xj_Rf) (ci k : Nat) (v : Value) : Option xj_H := match o with
  | some (.inl a) => match A.1[a]? with
    | some (.inr q) => if q.1 = ci ∧ k < q.2.length then some (A.1.set a (.inr (ci, q.2.set k v)), A.2) else none
    | _ => none
  | _ => none
def xj_pz (A : xj_H) (o : xj_Rf) (ci k : Nat) (v : Int32) : Option xj_H := if v = 0 ∨ v = 1 then xj_pv A o ci k (.int v) else none
def xj_ar (A : xj_H) (o : xj_Rf) (t : Nat) : Option (Nat × (Nat → Int32)) := match o with
  | some (.inl a) => match A.1[a]? with
    | some (.inl (t', n, .inl f)) => if t' = t then some (n, f) else none
    | _ => none
  | _ => none
def xj_ai (A : xj_H) (o : xj_Rf) (t : Nat) (i : Int32) : Option Int32 := (xj_ar A o t).bind fun q => if i < 0 ∨ q.1 ≤ i.toNatClampNeg then none else some (q.2 i.toNatClampNeg)
def xj_as (A : xj_H) (o : xj_Rf) (t : Nat) (i x : Int32) : Option xj_H := match o with
  | some (.inl a) => match A.1[a]? with
    | some (.inl (t', n, .inl f)) => if t' = t ∧ ¬ (i < 0 ∨ n ≤ i.toNatClampNeg) then some (A.1.set a (.inl (t, n, .inl (upd f i.toNatClampNeg x))), A.2) else none
    | _ => none
  | _ => none
def xj_lai (A : xj_H) (o : xj_Rf) (i : Int32) : Option Int64 := match o with
  | some (.inl a) => match A.1[a]? with
    | some (.inl (t', n, .inr (.inl f))) => if t' = 3 ∧ ¬ (i < 0 ∨ n ≤ i.toNatClampNeg) then some (f i.toNatClampNeg) else none
    | _ => none
  | _ => none
def xj_las (A : xj_H) (o : xj_Rf) (i : Int32) (x : Int64) : Option xj_H := match o with
  | some (.inl a) => match A.1[a]? with
    | some (.inl (t', n, .inr (.inl f))) => if t' = 3 ∧ ¬ (i < 0 ∨ n ≤ i.toNatClampNeg) then some (A.1.set a (.inl (3, n, .inr (.inl (vp_updL f i.toNatClampNeg x)))), A.2) else none
    | _ => none
  | _ => none
def xj_ral (A : xj_H) (o : xj_Rf) (i : Int32) : Option xj_Rf := match o with
  | some (.inl a) => match A.1[a]? with
    | some (.inl (t', n, .inr (.inr (.inr (.inr f))))) => if t' = 4 ∧ ¬ (i < 0 ∨ n ≤ i.toNatClampNeg) then some ((f i.toNatClampNeg).map .inl) else none
    | _ => none
  | _ => none
def xj_ras (A : xj_H) (o : xj_Rf) (i : Int32) (ci : Nat) (v : xj_Rf) : Option xj_H := match o, v with
  | some (.inl a), some (.inl b) => match A.1[a]?, A.1[b]? with
    | some (.inl (t', n, .inr (.inr (.inr (.inr f))))), some (.inr q) => if t' = 4 ∧ q.1 = ci ∧ ¬ (i < 0 ∨ n ≤ i.toNatClampNeg) then some (A.1.set a (.inl (4, n, .inr (.inr (.inr (.inr (va_up f i.toNatClampNeg (some b))))))), A.2) else none
    | _, _ => none
  | _, _ => none
def xj_len (A : xj_H) (o : xj_Rf) (t : Nat) : Option Int32 := match o with
  | some (.inl a) => match A.1[a]? with
    | some (.inl (t', n, _)) => if t' = t then some (Int32.ofNat n) else none
    | _ => none
  | _ => none
def xj_mk (A : xj_H) (x : xj_C) (n : Nat) : Option xj_H := if 1 ≤ A.2.1 ∧ n ≤ A.2.2 then some (A.1 ++ [x], A.2.1 - 1, A.2.2 - n) else none
def xj_th (A : xj_H) (x : String) : Option xj_R := if 1 ≤ A.2.1 ∧ 6 ≤ A.2.2 then some (.inr x, (A.1, A.2.1 - 1, A.2.2 - 6)) else none
def xj_rz (v : Int32) (A : xj_H) : Option xj_R := if v = 0 ∨ v = 1 then some (.inl (some (.int v)), A) else none
/-! What a call's result goes on with. -/
def xj_bi (F : Option xj_R) (K : Int32 → xj_H → Option xj_R) : Option xj_R := match F with
  | some (.inl (some (.int v)), A) => K v A
  | some (.inr x, A) => some (.inr x, A)
  | _ => none
def xj_bl (F : Option xj_R) (K : Int64 → xj_H → Option xj_R) : Option xj_R := match F with
  | some (.inl (some (.long v)), A) => K v A
  | some (.inr x, A) => some (.inr x, A)
  | _ => none
def xj_br (F : Option xj_R) (K : xj_Rf → xj_H → Option xj_R) : Option xj_R := match F with
  | some (.inl (some v), A) => (xj_vr v).bind fun r => K r A
  | some (.inr x, A) => some (.inr x, A)
  | _ => none
def xj_bv (F : Option xj_R) (K : xj_H → Option xj_R) : Option xj_R := match F with
  | some (.inl none, A) => K A
  | some (.inr x, A) => some (.inr x, A)
  | _ => none
def xj_lk : List (Nat × Value) → Nat → Option Value
  | [], _ => none
  | q :: r, i => if q.1 = i then some q.2 else xj_lk r i
theorem xj_lk_mem : ∀ {ls : List (Nat × Value)} {i : Nat} {v : Value}, xj_lk ls i = some v → (i, v) ∈ ls
  | q :: r, i, v, h => by
    unfold xj_lk at h
    by_cases hq : q.1 = i
    · rw [if_pos hq] at h
      cases h
      subst hq
      exact List.mem_cons_self
    · rw [if_neg hq] at h
      exact List.mem_cons_of_mem _ (xj_lk_mem h)
end
section
/-! The classes whose objects the run makes, the array types, and what lies outside the run's own cells. -/
def xk0_R : String := "RecurrenceBook"
def xk0_T : u_T := fun k => match k with
  | 0 => ("RecurrenceBook", "typed", "[C", true)
  | 1 => ("RecurrenceBook", "typedCount", "I", false)
  | 2 => ("RecurrenceBook", "present", "LRecurrenceBook$Zone;", true)
  | 3 => ("RecurrenceBook", "events", "[LRecurrenceBook$Event;", true)
  | 4 => ("RecurrenceBook", "eventCount", "I", false)
  | 5 => ("RecurrenceBook", "heads", "[I", true)
  | _ => ("RecurrenceBook", "latest", "LRecurrenceBook$Spans;", true)
def xk0_t : Nat → FieldType := fun k => match k with
  | 0 => (.array (.char))
  | 1 => .int
  | 2 => .object "RecurrenceBook$Zone"
  | 3 => (.array (.object "RecurrenceBook$Event"))
  | 4 => .int
  | 5 => (.array (.int))
  | _ => .object "RecurrenceBook$Spans"
theorem xk0_ty : ∀ j, j < 7 → parseFieldDescriptor (xk0_T j).2.2.1 = some (xk0_t j) := by decide +kernel
theorem xk0_nm : ∀ a, a < 7 → ∀ b, b < 7 → a ≠ b → (xk0_T a).2.1 ≠ (xk0_T b).2.1 := by decide +kernel
theorem xk0_in : ∀ w ∈ u_ws xk0_R xk0_T 7, w ∈ xj_ws := by
  have h : (u_ws xk0_R xk0_T 7) = [133, 135, 137, 139, 141, 143, 145].filterMap (fun i => tables_1[i]?) := by decide +kernel
  have hg : (u_ws xk0_R xk0_T 7).all xj_gd = true := by decide +kernel
  intro w hw
  have h1 := List.all_eq_true.mp hg w hw
  rw [h] at hw
  obtain ⟨i, -, hi⟩ := List.mem_filterMap.mp hw
  exact xm_t i hi h1
def xk1_R : String := "RecurrenceBook$Zone"
def xk1_T : u_T := fun k => match k with
  | 0 => ("RecurrenceBook$Zone", "standard", "I", false)
  | 1 => ("RecurrenceBook$Zone", "summer", "I", false)
  | 2 => ("RecurrenceBook$Zone", "begins", "[I", true)
  | _ => ("RecurrenceBook$Zone", "ends", "[I", true)
def xk1_t : Nat → FieldType := fun k => match k with
  | 0 => .int
  | 1 => .int
  | 2 => (.array (.int))
  | _ => (.array (.int))
theorem xk1_ty : ∀ j, j < 4 → parseFieldDescriptor (xk1_T j).2.2.1 = some (xk1_t j) := by decide +kernel
theorem xk1_nm : ∀ a, a < 4 → ∀ b, b < 4 → a ≠ b → (xk1_T a).2.1 ≠ (xk1_T b).2.1 := by decide +kernel
theorem xk1_in : ∀ w ∈ u_ws xk1_R xk1_T 4, w ∈ xj_ws := by
  have h : (u_ws xk1_R xk1_T 4) = [41, 43, 45, 47].filterMap (fun i => tables_1[i]?) := by decide +kernel
  have hg : (u_ws xk1_R xk1_T 4).all xj_gd = true := by decide +kernel
  intro w hw
  have h1 := List.all_eq_true.mp hg w hw
  rw [h] at hw
  obtain ⟨i, -, hi⟩ := List.mem_filterMap.mp hw
  exact xm_t i hi h1
def xk2_R : String := "RecurrenceBook$Event"
def xk2_T : u_T := fun k => match k with
  | 0 => ("RecurrenceBook$Event", "days", "[I", true)
  | 1 => ("RecurrenceBook$Event", "starts", "[I", true)
  | 2 => ("RecurrenceBook$Event", "count", "I", false)
  | 3 => ("RecurrenceBook$Event", "excluded", "I", false)
  | 4 => ("RecurrenceBook$Event", "minute", "I", false)
  | _ => ("RecurrenceBook$Event", "length", "I", false)
def xk2_t : Nat → FieldType := fun k => match k with
  | 0 => (.array (.int))
  | 1 => (.array (.int))
  | 2 => .int
  | 3 => .int
  | 4 => .int
  | _ => .int
theorem xk2_ty : ∀ j, j < 6 → parseFieldDescriptor (xk2_T j).2.2.1 = some (xk2_t j) := by decide +kernel
theorem xk2_nm : ∀ a, a < 6 → ∀ b, b < 6 → a ≠ b → (xk2_T a).2.1 ≠ (xk2_T b).2.1 := by decide +kernel
theorem xk2_in : ∀ w ∈ u_ws xk2_R xk2_T 6, w ∈ xj_ws := by
  have h : (u_ws xk2_R xk2_T 6) = [88, 90, 92, 94, 96, 98].filterMap (fun i => tables_1[i]?) := by decide +kernel
  have hg : (u_ws xk2_R xk2_T 6).all xj_gd = true := by decide +kernel
  intro w hw
  have h1 := List.all_eq_true.mp hg w hw
  rw [h] at hw
  obtain ⟨i, -, hi⟩ := List.mem_filterMap.mp hw
  exact xm_t i hi h1
def xk3_R : String := "RecurrenceBook$Spans"
def xk3_T : u_T := fun k => match k with
  | 0 => ("RecurrenceBook$Spans", "begins", "[I", true)
  | 1 => ("RecurrenceBook$Spans", "ends", "[I", true)
  | 2 => ("RecurrenceBook$Spans", "count", "I", false)
  | 3 => ("RecurrenceBook$Spans", "from", "I", false)
  | _ => ("RecurrenceBook$Spans", "to", "I", false)
def xk3_t : Nat → FieldType := fun k => match k with
  | 0 => (.array (.int))
  | 1 => (.array (.int))
  | 2 => .int
  | 3 => .int
  | _ => .int
theorem xk3_ty : ∀ j, j < 5 → parseFieldDescriptor (xk3_T j).2.2.1 = some (xk3_t j) := by decide +kernel
theorem xk3_nm : ∀ a, a < 5 → ∀ b, b < 5 → a ≠ b → (xk3_T a).2.1 ≠ (xk3_T b).2.1 := by decide +kernel
theorem xk3_in : ∀ w ∈ u_ws xk3_R xk3_T 5, w ∈ xj_ws := by
  have h : (u_ws xk3_R xk3_T 5) = [115, 117, 119, 121, 123].filterMap (fun i => tables_1[i]?) := by decide +kernel
  have hg : (u_ws xk3_R xk3_T 5).all xj_gd = true := by decide +kernel
  intro w hw
  have h1 := List.all_eq_true.mp hg w hw
  rw [h] at hw
  obtain ⟨i, -, hi⟩ := List.mem_filterMap.mp hw
  exact xm_t i hi h1
def xk4_R : String := "RecurrenceBook$Rule"
def xk4_T : u_T := fun k => match k with
  | 0 => ("RecurrenceBook$Rule", "frequency", "LRecurrenceBook$Frequency;", false)
  | 1 => ("RecurrenceBook$Rule", "interval", "I", false)
  | 2 => ("RecurrenceBook$Rule", "count", "I", false)
  | 3 => ("RecurrenceBook$Rule", "hasUntil", "Z", false)
  | 4 => ("RecurrenceBook$Rule", "until", "I", false)
  | 5 => ("RecurrenceBook$Rule", "months", "I", false)
  | 6 => ("RecurrenceBook$Rule", "numbers", "I", false)
  | 7 => ("RecurrenceBook$Rule", "numbersFromEnd", "I", false)
  | 8 => ("RecurrenceBook$Rule", "weekdays", "I", false)
  | 9 => ("RecurrenceBook$Rule", "nth", "J", false)
  | _ => ("RecurrenceBook$Rule", "nthFromEnd", "J", false)
def xk4_t : Nat → FieldType := fun k => match k with
  | 0 => .object "RecurrenceBook$Frequency"
  | 1 => .int
  | 2 => .int
  | 3 => .boolean
  | 4 => .int
  | 5 => .int
  | 6 => .int
  | 7 => .int
  | 8 => .int
  | 9 => .long
  | _ => .long
theorem xk4_ty : ∀ j, j < 11 → parseFieldDescriptor (xk4_T j).2.2.1 = some (xk4_t j) := by decide +kernel
theorem xk4_nm : ∀ a, a < 11 → ∀ b, b < 11 → a ≠ b → (xk4_T a).2.1 ≠ (xk4_T b).2.1 := by decide +kernel
theorem xk4_in : ∀ w ∈ u_ws xk4_R xk4_T 11, w ∈ xj_ws := by
  have h : (u_ws xk4_R xk4_T 11) = [332, 334, 336, 338, 340, 342, 344, 346, 348, 350, 352].filterMap (fun i => tables_1[i]?) := by decide +kernel
  have hg : (u_ws xk4_R xk4_T 11).all xj_gd = true := by decide +kernel
  intro w hw
  have h1 := List.all_eq_true.mp hg w hw
  rw [h] at hw
  obtain ⟨i, -, hi⟩ := List.mem_filterMap.mp hw
  exact xm_t i hi h1
def xk5_R : String := "RecurrenceBook$RuleReader"
def xk5_T : u_T := fun k => match k with
  | 0 => ("RecurrenceBook$RuleReader", "text", "[C", true)
  | 1 => ("RecurrenceBook$RuleReader", "length", "I", true)
  | 2 => ("RecurrenceBook$RuleReader", "at", "I", false)
  | _ => ("RecurrenceBook$RuleReader", "rule", "LRecurrenceBook$Rule;", true)
def xk5_t : Nat → FieldType := fun k => match k with
  | 0 => (.array (.char))
  | 1 => .int
  | 2 => .int
  | _ => .object "RecurrenceBook$Rule"
theorem xk5_ty : ∀ j, j < 4 → parseFieldDescriptor (xk5_T j).2.2.1 = some (xk5_t j) := by decide +kernel
theorem xk5_nm : ∀ a, a < 4 → ∀ b, b < 4 → a ≠ b → (xk5_T a).2.1 ≠ (xk5_T b).2.1 := by decide +kernel
theorem xk5_in : ∀ w ∈ u_ws xk5_R xk5_T 4, w ∈ xj_ws := by
  have h : (u_ws xk5_R xk5_T 4) = [360, 362, 364, 366].filterMap (fun i => tables_1[i]?) := by decide +kernel
  have hg : (u_ws xk5_R xk5_T 4).all xj_gd = true := by decide +kernel
  intro w hw
  have h1 := List.all_eq_true.mp hg w hw
  rw [h] at hw
  obtain ⟨i, -, hi⟩ := List.mem_filterMap.mp hw
  exact xm_t i hi h1
def xk6_R : String := "RecurrenceBook$Unfolding"
def xk6_T : u_T := fun k => match k with
  | 0 => ("RecurrenceBook$Unfolding", "rule", "LRecurrenceBook$Rule;", true)
  | 1 => ("RecurrenceBook$Unfolding", "first", "I", true)
  | 2 => ("RecurrenceBook$Unfolding", "firstMonth", "I", true)
  | 3 => ("RecurrenceBook$Unfolding", "firstNumber", "I", true)
  | 4 => ("RecurrenceBook$Unfolding", "firstWeekday", "I", true)
  | 5 => ("RecurrenceBook$Unfolding", "interval", "I", true)
  | 6 => ("RecurrenceBook$Unfolding", "limit", "I", true)
  | 7 => ("RecurrenceBook$Unfolding", "row", "[I", true)
  | 8 => ("RecurrenceBook$Unfolding", "count", "I", false)
  | 9 => ("RecurrenceBook$Unfolding", "monthStart", "I", false)
  | 10 => ("RecurrenceBook$Unfolding", "monthLength", "I", false)
  | _ => ("RecurrenceBook$Unfolding", "monthMeant", "Z", false)
def xk6_t : Nat → FieldType := fun k => match k with
  | 0 => .object "RecurrenceBook$Rule"
  | 1 => .int
  | 2 => .int
  | 3 => .int
  | 4 => .int
  | 5 => .int
  | 6 => .int
  | 7 => (.array (.int))
  | 8 => .int
  | 9 => .int
  | 10 => .int
  | _ => .boolean
theorem xk6_ty : ∀ j, j < 12 → parseFieldDescriptor (xk6_T j).2.2.1 = some (xk6_t j) := by decide +kernel
theorem xk6_nm : ∀ a, a < 12 → ∀ b, b < 12 → a ≠ b → (xk6_T a).2.1 ≠ (xk6_T b).2.1 := by decide +kernel
theorem xk6_in : ∀ w ∈ u_ws xk6_R xk6_T 12, w ∈ xj_ws := by
  have h : (u_ws xk6_R xk6_T 12) = [562, 564, 566, 568, 570, 572, 574, 576, 578, 580, 582, 584].filterMap (fun i => tables_1[i]?) := by decide +kernel
  have hg : (u_ws xk6_R xk6_T 12).all xj_gd = true := by decide +kernel
  intro w hw
  have h1 := List.all_eq_true.mp hg w hw
  rw [h] at hw
  obtain ⟨i, -, hi⟩ := List.mem_filterMap.mp hw
  exact xm_t i hi h1
def xk7_R : String := "RecurrenceBookModel"
def xk7_T : u_T := fun k => match k with
  | 0 => ("RecurrenceBookModel", "thrown", "I", false)
  | 1 => ("RecurrenceBookModel", "text", "[I", true)
  | 2 => ("RecurrenceBookModel", "typed", "I", false)
  | 3 => ("RecurrenceBookModel", "standard", "I", false)
  | 4 => ("RecurrenceBookModel", "summer", "I", false)
  | 5 => ("RecurrenceBookModel", "begins", "[I", true)
  | 6 => ("RecurrenceBookModel", "ends", "[I", true)
  | 7 => ("RecurrenceBookModel", "events", "I", false)
  | 8 => ("RecurrenceBookModel", "minutes", "[I", true)
  | 9 => ("RecurrenceBookModel", "lengths", "[I", true)
  | 10 => ("RecurrenceBookModel", "days", "[I", true)
  | 11 => ("RecurrenceBookModel", "many", "[I", true)
  | 12 => ("RecurrenceBookModel", "excluded", "[I", true)
  | 13 => ("RecurrenceBookModel", "excludes", "[I", true)
  | 14 => ("RecurrenceBookModel", "at", "I", false)
  | 15 => ("RecurrenceBookModel", "frequency", "I", false)
  | 16 => ("RecurrenceBookModel", "interval", "I", false)
  | 17 => ("RecurrenceBookModel", "count", "I", false)
  | 18 => ("RecurrenceBookModel", "until", "I", false)
  | 19 => ("RecurrenceBookModel", "byMonth", "Z", false)
  | 20 => ("RecurrenceBookModel", "months", "[Z", true)
  | 21 => ("RecurrenceBookModel", "monthDays", "[I", true)
  | 22 => ("RecurrenceBookModel", "monthDayCount", "I", false)
  | 23 => ("RecurrenceBookModel", "weekdays", "[I", true)
  | 24 => ("RecurrenceBookModel", "nths", "[I", true)
  | 25 => ("RecurrenceBookModel", "weekdayCount", "I", false)
  | 26 => ("RecurrenceBookModel", "year", "I", false)
  | 27 => ("RecurrenceBookModel", "month", "I", false)
  | 28 => ("RecurrenceBookModel", "number", "I", false)
  | 29 => ("RecurrenceBookModel", "firstDay", "I", false)
  | 30 => ("RecurrenceBookModel", "firstYear", "I", false)
  | 31 => ("RecurrenceBookModel", "firstMonth", "I", false)
  | 32 => ("RecurrenceBookModel", "firstNumber", "I", false)
  | 33 => ("RecurrenceBookModel", "spans", "I", false)
  | 34 => ("RecurrenceBookModel", "spanFrom", "[I", true)
  | _ => ("RecurrenceBookModel", "spanTo", "[I", true)
def xk7_t : Nat → FieldType := fun k => match k with
  | 0 => .int
  | 1 => (.array (.int))
  | 2 => .int
  | 3 => .int
  | 4 => .int
  | 5 => (.array (.int))
  | 6 => (.array (.int))
  | 7 => .int
  | 8 => (.array (.int))
  | 9 => (.array (.int))
  | 10 => (.array (.int))
  | 11 => (.array (.int))
  | 12 => (.array (.int))
  | 13 => (.array (.int))
  | 14 => .int
  | 15 => .int
  | 16 => .int
  | 17 => .int
  | 18 => .int
  | 19 => .boolean
  | 20 => (.array (.boolean))
  | 21 => (.array (.int))
  | 22 => .int
  | 23 => (.array (.int))
  | 24 => (.array (.int))
  | 25 => .int
  | 26 => .int
  | 27 => .int
  | 28 => .int
  | 29 => .int
  | 30 => .int
  | 31 => .int
  | 32 => .int
  | 33 => .int
  | 34 => (.array (.int))
  | _ => (.array (.int))
theorem xk7_ty : ∀ j, j < 36 → parseFieldDescriptor (xk7_T j).2.2.1 = some (xk7_t j) := by decide +kernel
theorem xk7_nm : ∀ a, a < 36 → ∀ b, b < 36 → a ≠ b → (xk7_T a).2.1 ≠ (xk7_T b).2.1 := by decide +kernel
theorem xk7_in : ∀ w ∈ u_ws xk7_R xk7_T 36, w ∈ xj_ws := by
  have h : (u_ws xk7_R xk7_T 36) = [811, 813, 815, 817, 819, 821, 823, 825, 827, 829, 831, 833, 835, 837, 839, 841, 843, 845, 847, 849, 851, 853, 855, 857, 859, 861, 863, 865, 867, 869, 871, 873, 875, 877, 879, 881].filterMap (fun i => tables_1[i]?) := by decide +kernel
  have hg : (u_ws xk7_R xk7_T 36).all xj_gd = true := by decide +kernel
  intro w hw
  have h1 := List.all_eq_true.mp hg w hw
  rw [h] at hw
  obtain ⟨i, -, hi⟩ := List.mem_filterMap.mp hw
  exact xm_t i hi h1
def xj_cl : List vw_C := [(xk0_R, xk0_T, 7), (xk1_R, xk1_T, 4), (xk2_R, xk2_T, 6), (xk3_R, xk3_T, 5), (xk4_R, xk4_T, 11), (xk5_R, xk5_T, 4), (xk6_R, xk6_T, 12), (xk7_R, xk7_T, 36)]
def xj_en : String := "RecurrenceBook$Event"
def xj_tys (g : va_G × (Nat → ClassId) × (Nat → Nat) × (Nat → Int32) × Nat) : List (ClassId × FieldType) := [(g.2.1 0, .int), (g.2.1 1, .char), (g.2.1 2, .boolean), (g.2.1 3, .long), (g.2.1 4, .object xj_en)]
def xj_sr : List (String × Nat × Nat × String) := [("RecurrenceBook", 55, 0, "offset"), ("RecurrenceBook", 63, 1, "month"), ("RecurrenceBook", 65, 2, "number of the Sunday"), ("RecurrenceBook", 73, 3, "no room for an event"), ("RecurrenceBook", 84, 4, "day, minute or length"), ("RecurrenceBook$RuleReader", 52, 5, "FREQ="), ("RecurrenceBook$RuleReader", 107, 6, "DAILY"), ("RecurrenceBook$RuleReader", 108, 7, "WEEKLY"), ("RecurrenceBook$RuleReader", 112, 8, "MONTHLY"), ("RecurrenceBook$RuleReader", 116, 9, "YEARLY"), ("RecurrenceBook$RuleReader", 61, 10, "INTERVAL="), ("RecurrenceBook$RuleReader", 69, 11, "COUNT="), ("RecurrenceBook$RuleReader", 74, 12, "UNTIL="), ("RecurrenceBook$RuleReader", 83, 13, "BYDAY="), ("RecurrenceBook$RuleReader", 152, 14, "MOTUWETHFRSASU"), ("RecurrenceBook$RuleReader", 91, 15, "BYMONTHDAY="), ("RecurrenceBook$RuleReader", 99, 16, "BYMONTH="), ("RecurrenceBook", 90, 17, "no rule"), ("RecurrenceBook", 178, 18, "no such event"), ("RecurrenceBook", 180, 19, "no such time"), ("RecurrenceBook", 144, 20, "width"), ("RecurrenceBook", 165, 21, "no such span")]
def xj_sl : List Nat := [6, 5, 20, 20, 21, 5, 5, 6, 7, 6, 9, 6, 6, 6, 14, 11, 8, 7, 13, 12, 5, 12]
def xj_sb : List (List Int32) := [[111, 102, 102, 115, 101, 116], [109, 111, 110, 116, 104], [110, 117, 109, 98, 101, 114, 32, 111, 102, 32, 116, 104, 101, 32, 83, 117, 110, 100, 97, 121], [110, 111, 32, 114, 111, 111, 109, 32, 102, 111, 114, 32, 97, 110, 32, 101, 118, 101, 110, 116], [100, 97, 121, 44, 32, 109, 105, 110, 117, 116, 101, 32, 111, 114, 32, 108, 101, 110, 103, 116, 104], [70, 82, 69, 81, 61], [68, 65, 73, 76, 89], [87, 69, 69, 75, 76, 89], [77, 79, 78, 84, 72, 76, 89], [89, 69, 65, 82, 76, 89], [73, 78, 84, 69, 82, 86, 65, 76, 61], [67, 79, 85, 78, 84, 61], [85, 78, 84, 73, 76, 61], [66, 89, 68, 65, 89, 61], [77, 79, 84, 85, 87, 69, 84, 72, 70, 82, 83, 65, 83, 85], [66, 89, 77, 79, 78, 84, 72, 68, 65, 89, 61], [66, 89, 77, 79, 78, 84, 72, 61], [110, 111, 32, 114, 117, 108, 101], [110, 111, 32, 115, 117, 99, 104, 32, 101, 118, 101, 110, 116], [110, 111, 32, 115, 117, 99, 104, 32, 116, 105, 109, 101], [119, 105, 100, 116, 104], [110, 111, 32, 115, 117, 99, 104, 32, 115, 112, 97, 110]]
def xj_dm : List Int32 := [0, 31, 59, 90, 120, 151, 181, 212, 243, 273, 304, 334]
def xj_fq : String := "RecurrenceBook$Frequency"
def xj_fn : List String := ["DAILY", "WEEKLY", "MONTHLY", "YEARLY"]
def xj_jp : String := "jdk/internal/util/Preconditions"
def xj_jf : String := "Ljava/util/function/BiFunction;"
/-- a static field of a class, where it lies: null or some reference -/
def xj_L (C n d : String) (A : Nat → Prop) (U : State) (H : Heap) : Prop := ∃ (c : ClassId) (k : Class) (i : Nat) (f : Field) (a : Nat) (cell : Cell) (v : Value), U.vm.findClass C = some c ∧ U.fieldFound? C n d = some (c, k, i, f) ∧ f.isStatic = true ∧ k.statics = some a ∧ H[a]? = some cell ∧ cell.vm.isStatics = true ∧ cell.cls = c ∧ f.slot < cell.slots.size ∧ k.staticTypes[f.slot]? = some f.type ∧ cell.slots[f.slot]? = some v ∧ (v = .null ∨ ∃ b, v = .ref b) ∧ ¬ A a
theorem xj_L.moved {C n d : String} {A : Nat → Prop} {u U : State} {H : Heap} (hvm : u.vm.Alike U.vm) (h : xj_L C n d A u H) : xj_L C n d A U H := by
  obtain ⟨c, k, i, f, a, cell, v, h1, h2, h3, h4, h5, h6, h7, h8, h9, h10⟩ := h
  obtain ⟨k', hi', he⟩ := State.fieldFound?_setVm hvm h2
  exact ⟨c, k', i, f, a, cell, v, by rw [hvm.findClass]; exact h1, hi', h3, by rw [he]; exact h4, h5, h6, h7, h8, by rw [he]; exact h9, h10⟩
theorem xj_L.kept {C n d : String} {A : Nat → Prop} {U : State} {H H1 : Heap} (h : xj_L C n d A U H) (hq : ∀ a : Nat, a < H.size → ¬ A a → H1[a]? = H[a]?) : xj_L C n d A U H1 := by
  obtain ⟨c, k, i, f, a, cell, v, h1, h2, h3, h4, h5, h6, h7, h8, h9, h10, h11, h12⟩ := h
  exact ⟨c, k, i, f, a, cell, v, h1, h2, h3, h4, by rw [hq a (Array.getElem?_eq_some_iff.mp h5).1 h12]; exact h5, h6, h7, h8, h9, h10, h11, h12⟩
theorem xj_L.narrow {C n d : String} {A B : Nat → Prop} {U : State} {H : Heap} (h : xj_L C n d A U H) (hAB : ∀ q, B q → A q) : xj_L C n d B U H := by
  obtain ⟨c, k, i, f, a, cell, v, h1, h2, h3, h4, h5, h6, h7, h8, h9, h10, h11, h12⟩ := h
  exact ⟨c, k, i, f, a, cell, v, h1, h2, h3, h4, h5, h6, h7, h8, h9, h10, h11, fun q => h12 (hAB _ q)⟩
theorem xj_L.lays {C n d : String} {A : Nat → Prop} {s : State} {args : Array Value} (h : xj_L C n d A s s.heap) : (Cond.laysStatic C n d).before args s = true := by
  obtain ⟨c, k, i, f, a, cell, v, h1, h2, h3, h4, h5, h6, h7, h8, h9, -⟩ := h
  show (Cond.laysStatic C n d).holds args s none s [] = true
  exact Cond.laysStatic_of h1 h2 h3 h4 h5 h6 h7 h8 h9
theorem xj_L.isRef {C n d : String} {A : Nat → Prop} {s : State} {args : Array Value} (h : xj_L C n d A s s.heap) : (Cond.isRef (.static C n d)).before args s = true := by
  obtain ⟨c, k, i, f, a, cell, v, h1, h2, h3, h4, h5, h6, h7, h8, h9, h10, h11, h12⟩ := h
  have he : (Term.static C n d).eval args s none [] s = some v := by
    simp [Term.eval, State.fieldNamed?, h2, h3, h4, h5, h6, h10]
  rcases h11 with rfl | ⟨b, rfl⟩ <;> simp [Cond.before, Cond.holds, Cond.value, he]
theorem xj_L.of {C n d : String} {A : Nat → Prop} {s : State} {args : Array Value} (hl : (Cond.laysStatic C n d).before args s = true) (h : (Cond.isRef (.static C n d)).before args s = true) (hA : ∀ a : Nat, a < s.heap.size → ¬ A a) : xj_L C n d A s s.heap := by
  obtain ⟨c, k, i, f, a, cell, h1, h2, h3, h4, h5, h6, h7, h8, h9⟩ := Cond.laysStatic_spec hl
  have hv : cell.slots[f.slot]? = some (cell.slots[f.slot]'h8) := Array.getElem?_eq_getElem h8
  generalize cell.slots[f.slot]'h8 = v at hv
  have he : (Term.static C n d).eval args s none [] s = some v := by
    simp [Term.eval, State.fieldNamed?, h2, h3, h4, h5, h6, hv]
  refine ⟨c, k, i, f, a, cell, v, h1, h2, h3, h4, h5, h6, h7, h8, h9, hv, ?_, hA a (Array.getElem?_eq_some_iff.mp h5).1⟩
  simp only [Cond.before, Cond.holds, Cond.value, he] at h
  cases v with
  | null => exact Or.inl rfl
  | ref b => exact Or.inr ⟨b, rfl⟩
  | _ => simp at h
/-- what the run reads outside its own cells: strings, enum constants, a static table, the script -/
def xj_S (g : va_G × (Nat → ClassId) × (Nat → Nat) × (Nat → Int32) × Nat) (A : Nat → Prop) (U : State) (H : Heap) : Prop :=
  vk_S 22 xj_sl xj_sb (fun i => g.2.2.1 (100 + i)) (fun i => g.2.2.1 (300 + i)) A U H ∧ va_AO xj_en U ∧
  xj_L Bundle.tN "UNASSIGNED_STACK" Bundle.steD A U H ∧ xj_L Bundle.tN "SUPPRESSED_SENTINEL" Bundle.listD A U H ∧
  va_En xj_fq "LRecurrenceBook$Frequency;" xj_fn [] (fun i => g.2.2.1 i) A U H ∧
  va_Z "RecurrenceBook$Dates" "DAYS_BEFORE_MONTH" "[I" (.ref (g.2.2.1 50)) A U H ∧ va_T .int (g.2.2.1 50) 12 (fun j => .int (xj_dm.getD j 0)) A U H ∧
  (∀ q ∈ xj_sr, vk_R q.1 q.2.1 q.2.2.2 (g.2.2.1 (100 + q.2.2.1)) U) ∧
  va_Z "java/lang/String" "COMPACT_STRINGS" "Z" (.int 1) A U H ∧
  (va_Z xj_jp "SIOOBE_FORMATTER" xj_jf .null A U H ∨ va_Z xj_jp "SIOOBE_FORMATTER" xj_jf (.ref (g.2.2.1 60)) A U H) ∧
  (va_X (g.2.2.1 200) g.2.2.2.2 g.2.2.2.1 U H ∧ ¬ A (g.2.2.1 200)) ∧
  va_Nc "java/lang/IllegalArgumentException" "java/lang/IllegalStateException" U
theorem xj_S.warm {g : va_G × (Nat → ClassId) × (Nat → Nat) × (Nat → Int32) × Nat} {A : Nat → Prop} {s U : State} {H : Heap} (hW : s.WarmedH U.vm) (h : xj_S g A s H) : xj_S g A U H := by
  obtain ⟨h1, h2, h3, h4, h5, h6, h7, h8, h9, h10, h11, h12⟩ := h
  have ha := hW.alike
  exact ⟨vk_S.moved ha h1, va_AO.moved ha h2, xj_L.moved ha h3, xj_L.moved ha h4, va_En.moved ha h5, va_Z.moved ha h6, va_T.moved ha h7, fun q hq => vk_R.warm hW (h8 q hq), va_Z.moved ha h9, h10.elim (fun h => Or.inl (va_Z.moved ha h)) (fun h => Or.inr (va_Z.moved ha h)), ⟨va_X.moved ha h11.1, h11.2⟩, va_Nc.moved ha h12⟩
theorem xj_S.kept {g : va_G × (Nat → ClassId) × (Nat → Nat) × (Nat → Int32) × Nat} {A : Nat → Prop} {U : State} {H H1 : Heap} (h : xj_S g A U H) (hq : ∀ a : Nat, a < H.size → ¬ A a → H1[a]? = H[a]?) : xj_S g A U H1 := by
  obtain ⟨h1, h2, h3, h4, h5, h6, h7, h8, h9, h10, h11, h12⟩ := h
  have hb : g.2.2.1 200 < H.size := by
    obtain ⟨scr, hs, -⟩ := h11.1
    exact (Array.getElem?_eq_some_iff.mp hs).1
  exact ⟨vk_S.kept h1 hq, h2, xj_L.kept h3 hq, xj_L.kept h4 hq, va_En.kept h5 hq, va_Z.kept h6 hq, va_T.kept h7 hq, h8, va_Z.kept h9 hq, h10.elim (fun h => Or.inl (va_Z.kept h hq)) (fun h => Or.inr (va_Z.kept h hq)), ⟨va_X.kept h11.1 (hq _ hb h11.2), h11.2⟩, h12⟩
theorem xj_S.narrow {g : va_G × (Nat → ClassId) × (Nat → Nat) × (Nat → Int32) × Nat} {A B : Nat → Prop} {U : State} {H : Heap} (h : xj_S g A U H) (hAB : ∀ q, B q → A q) : xj_S g B U H := by
  obtain ⟨h1, h2, h3, h4, h5, h6, h7, h8, h9, h10, h11, h12⟩ := h
  exact ⟨vk_S.narrow h1 hAB, h2, xj_L.narrow h3 hAB, xj_L.narrow h4 hAB, va_En.narrow h5 hAB, va_Z.narrow h6 hAB, va_T.narrow h7 hAB, h8, va_Z.narrow h9 hAB, h10.elim (fun h => Or.inl (va_Z.narrow h hAB)) (fun h => Or.inr (va_Z.narrow h hAB)), ⟨h11.1, fun q => h11.2 (hAB _ q)⟩, h12⟩
theorem xj_S.str {g : va_G × (Nat → ClassId) × (Nat → Nat) × (Nat → Int32) × Nat} {A : Nat → Prop} {U : State} {H : Heap} (h : xj_S g A U H) {own tx : String} {k i : Nat} (hq : (own, k, i, tx) ∈ xj_sr) : vk_R own k tx (g.2.2.1 (100 + i)) U := h.2.2.2.2.2.2.2.1 _ hq
end
section
/-! The words of the tables, and how they ride on. -/
def xj_T (U : State) : Prop := (∀ w ∈ xj_ws, ∀ a : Array Value, w.before a U = true) ∧ ∀ w ∈ xj_nw, va_Nw w U
theorem xj_T.warm {s U : State} (hW : s.WarmedH U.vm) (h : xj_T s) : xj_T U := by
  refine ⟨fun w hw a => ?_, fun w hw => ?_⟩
  · rcases xj_ws_good w hw with hg | ⟨x, y, rfl⟩ | ⟨x, rfl⟩
    · exact word_at hW (good_of_word hg) (h.1 w hw #[])
    · exact xj_cast hW.alike (h.1 _ hw #[])
    · exact va_Nw.use rfl (va_Nw.warmD hW (va_Nw.of rfl (h.1 _ hw #[])))
  rcases xj_nw_nest w hw with ⟨a, i, b, n, d, k, rfl⟩ | ⟨a, i, x, k, rfl⟩
  · exact va_Nw.warmF hW (h.2 _ hw)
  · exact va_Nw.warmM hW (h.2 _ hw)
def xj_cw (y : MethodName) (cc : ByteArray) (nL : Nat) (ret : Option FieldType) (hs : List (Nat × Nat × Nat × Nat)) : Cond := match hs with
  | [] => .code y cc nL ret
  | q :: r => .codeWith y cc nL ret (q :: r)
theorem xj_cw_spec {y : MethodName} {cc : ByteArray} {nL : Nat} {ret : Option FieldType} {hs : List (Nat × Nat × Nat × Nat)} {s : State} {m : MethodId} {args : Array Value} (hn : s.methodNamed? y = some m) (h : (xj_cw y cc nL ret hs).before args s = true) :
    ∃ meth c, s.vm.method? m = some meth ∧ meth.code = some c ∧ c.code = cc ∧ c.maxLocals = nL ∧ meth.sig.returnType = ret ∧ meth.locks = false ∧ c.exceptionTable.toList = tableOf hs ∧ parseMethodDescriptor y.desc = some meth.sig := by
  cases hs with
  | nil =>
    obtain ⟨meth, c, h1, h2, h3, h4, h5, h6, h7, h8⟩ := Cond.code_spec hn h
    refine ⟨meth, c, h1, h2, h3, h4, h5, h6, ?_, h8⟩
    have : c.exceptionTable = #[] := by simpa [Array.isEmpty] using h7
    rw [this]; rfl
  | cons q r =>
    obtain ⟨m', meth, c, h0, h1, h2, h3, h4, h7, h5, h6, h8⟩ := Cond.codeWith_spec h
    cases hn.symm.trans h0
    exact ⟨meth, c, h1, h2, h3, h4, h5, h6, by rw [← h7, table_eq], h8⟩
theorem xj_cw_named {y : MethodName} {cc : ByteArray} {nL : Nat} {ret : Option FieldType} {hs : List (Nat × Nat × Nat × Nat)} {s : State} {args : Array Value} (h : (xj_cw y cc nL ret hs).before args s = true) : ∃ m, s.methodNamed? y = some m := by
  cases hs with
  | nil => exact Cond.code_named h
  | cons q r =>
    obtain ⟨m', meth, c, h0, -⟩ := Cond.codeWith_spec h
    exact ⟨m', h0⟩
/-! A frame: all that is fixed while a method's body runs. -/
abbrev xj_F : Type := Program × Env × Room × State × MethodId × Array Value × List Frame × Method × Code × xj_G × (Nat → Nat) × xj_H × xj_R
abbrev xf_p (z : xj_F) : Program := z.1
abbrev xf_e (z : xj_F) : Env := z.2.1
abbrev xf_R (z : xj_F) : Room := z.2.2.1
abbrev xf_s (z : xj_F) : State := z.2.2.2.1
abbrev xf_m (z : xj_F) : MethodId := z.2.2.2.2.1
abbrev xf_a (z : xj_F) : Array Value := z.2.2.2.2.2.1
abbrev xf_b (z : xj_F) : List Frame := z.2.2.2.2.2.2.1
abbrev xf_t (z : xj_F) : Method := z.2.2.2.2.2.2.2.1
abbrev xf_c (z : xj_F) : Code := z.2.2.2.2.2.2.2.2.1
abbrev xf_g (z : xj_F) : xj_G := z.2.2.2.2.2.2.2.2.2.1
abbrev xf_d (z : xj_F) : Nat → Nat := z.2.2.2.2.2.2.2.2.2.2.1
abbrev xf_H (z : xj_F) : xj_H := z.2.2.2.2.2.2.2.2.2.2.2.1
abbrev xf_r (z : xj_F) : xj_R := z.2.2.2.2.2.2.2.2.2.2.2.2
def xj_al (g : xj_G) (ad : Nat → Nat) (A : xj_H) (s : State) : Nat → Prop := va_A (xj_w g ad A.1) s.heap.size
def xj_rm (d : Nat) (A : xj_H) : Room := { frames := d, cells := A.2.1, slots := A.2.2, locals := 40 * d }
/-- how a frame ends: the outcome, and the cells behind it -/
def xj_O (g : xj_G) (ad : Nat → Nat) (r : xj_R) (s : State) (o : Outcome) (t : State) : Prop := match r.1 with
  | .inl v => o = .returned (v.map (xj_v g ad)) ∧ ∀ w, v = some w → xj_wv r.2.1.length w
  | .inr x => ∃ (a : Addr) (cell : Cell), o = .threw a ∧ t.heap[a]? = some cell ∧ cell.vm = .none ∧ s.vm.findClass x = some cell.cls
def xj_E (g : xj_G) (ad0 : Nat → Nat) (A0 : xj_H) (r : xj_R) (s : State) (o : Outcome) (t : State) : Prop :=
  ∃ (ad : Nat → Nat) (L : List Loc) (k n : Nat), (∀ j, j < A0.1.length → ad j = ad0 j) ∧ A0.1.length ≤ r.2.1.length ∧
    va_P g.1 xj_cl (xj_w g ad r.2.1) t.heap ∧ va_D (xj_al g ad0 A0 s) (xj_w g ad r.2.1) ∧ (∀ x ∈ r.2.1, xj_wc r.2.1.length x) ∧ va_F (xj_al g ad0 A0 s) s t ∧
    s.WarmedH t.vm ∧ s.sameButNew ({ t with vm := s.vm } : State) L k n ∧ (∀ q ∈ L, xj_al g ad0 A0 s q.base) ∧ k + r.2.2.1 ≤ A0.2.1 ∧ n + r.2.2.2 ≤ A0.2.2 ∧ xj_O g ad r s o t
def xj_Q (z : xj_F) (t : State) : Prop := ∃ o, t.status = .running ∧ Ended t (xf_b z) o ∧ xj_E (xf_g z) (xf_d z) (xf_H z) (xf_r z) (xf_s z) o t
/-- the cells stand in the heap -/
def xj_I (z : xj_F) (ad : Nat → Nat) (A : xj_H) (H : Heap) (locs : List Loc) (cells slots : Nat) : Prop :=
  (∀ j, j < (xf_H z).1.length → ad j = xf_d z j) ∧ (xf_H z).1.length ≤ A.1.length ∧
    va_P (xf_g z).1 xj_cl (xj_w (xf_g z) ad A.1) H ∧ va_D (xj_al (xf_g z) (xf_d z) (xf_H z) (xf_s z)) (xj_w (xf_g z) ad A.1) ∧ (∀ x ∈ A.1, xj_wc A.1.length x) ∧
    va_S (xj_al (xf_g z) (xf_d z) (xf_H z) (xf_s z)) (xf_s z).heap H locs ∧ cells + A.2.1 ≤ (xf_H z).2.1 ∧ slots + A.2.2 ≤ (xf_H z).2.2
def xj_W (l : Launch) (z : xj_F) (pc : Nat) (ls : List (Nat × Value)) (st : List Value) (A : xj_H) : Prop :=
  ∀ (ad : Nat → Nat) (H : Heap) (locs : List Loc) (cells slots : Nat) (lz : Array Slot), xj_I z ad A H locs cells slots → xj_wls A.1.length ls → xj_wst A.1.length st →
    lv_has lz (xf_c z).maxLocals (ls.map (fun q => (q.1, xj_v (xf_g z) ad q.2))) →
    W (xf_p z) l (xf_e z) (xf_R z) (xf_s z) (xf_m z) (xf_a z) (xf_b z) (xf_t z) (xf_c z) H locs cells slots (xj_Q z) (F0 (xf_m z) pc lz (st.map (xj_v (xf_g z) ad)))
/-- what holds of a frame of the method y -/
def xj_B (l : Launch) (y : MethodName) (cc : ByteArray) (nL : Nat) (ret : Option FieldType) (hs : List (Nat × Nat × Nat × Nat)) (d : Nat) (z : xj_F) : Prop :=
  (xf_p z).tables.exec = Jvm.exec ∧ (xf_c z).code = cc ∧ (xf_c z).maxLocals = nL ∧ (xf_t z).sig.returnType = ret ∧ (xf_t z).locks = false ∧ (xf_c z).exceptionTable.toList = tableOf hs ∧
    (xf_s z).vm.findClass y.cls = some (xf_m z).cls ∧ (xf_t z).name = y.name ∧ xj_T (xf_s z) ∧ va_K (xf_g z).1 xj_cl (xj_tys (xf_g z)) (xf_s z) ∧
    xj_S (xf_g z) (xj_al (xf_g z) (xf_d z) (xf_H z) (xf_s z)) (xf_s z) (xf_s z).heap ∧ va_P (xf_g z).1 xj_cl (xj_w (xf_g z) (xf_d z) (xf_H z).1) (xf_s z).heap ∧
    xf_R z = xj_rm d (xf_H z) ∧ (xf_e z).platform.stackTraces = false
def xj_pre (g : xj_G) (ad : Nat → Nat) (A : xj_H) (U : State) : Prop := xj_T U ∧ va_K g.1 xj_cl (xj_tys g) U ∧ xj_S g (xj_al g ad A U) U U.heap ∧ va_P g.1 xj_cl (xj_w g ad A.1) U.heap ∧ va_D (fun _ => True) (xj_w g ad A.1) ∧ ∀ x ∈ A.1, xj_wc A.1.length x
/-- a method's contract for arguments av and cells A: it ends with r -/
def xj_M (l : Launch) (y : MethodName) (cc : ByteArray) (nL : Nat) (ret : Option FieldType) (hs : List (Nat × Nat × Nat × Nat)) (d : Nat) (av : List Value) (A : xj_H) (r : xj_R) : Prop :=
  ∀ (g : xj_G) (ad : Nat → Nat), MetFree l y (headSpec [xj_cw y cc nL ret hs] (xj_rm d A)) (fun a U => a = (av.map (xj_v g ad)).toArray ∧ xj_wst A.1.length av ∧ xj_pre g ad A U) (fun _ _ _ _ _ => True) (fun _ U o t => xj_E g ad A r U o t)
theorem xj_lva (g : xj_G) (ad : Nat → Nat) : ∀ (i : Nat) (av : List Value), lv_args i (av.map (xj_v g ad)) = (lv_args i av).map (fun q => (q.1, xj_v g ad q.2))
  | _, [] => rfl
  | i, v :: vs => by
    simp only [List.map_cons, lv_args, xj_v_cat]
    rw [xj_lva g ad _ vs]
theorem xj_lva_mem : ∀ {i : Nat} {av : List Value} {q : Nat × Value}, q ∈ lv_args i av → q.2 ∈ av
  | i, v :: vs, q, h => by
    simp only [lv_args, List.mem_cons] at h
    rcases h with rfl | h
    · exact List.mem_cons_self
    · exact List.mem_cons_of_mem _ (xj_lva_mem h)
theorem xj_sl_len (g : xj_G) (ad : Nat → Nat) : ∀ av : List Value, (lg_sl (av.map (xj_v g ad))).length = (lg_sl av).length
  | [] => rfl
  | v :: vs => by
    have h := xj_sl_len g ad vs
    simp only [lg_sl, List.map_cons, List.flatMap_cons, List.length_append, xj_v_cat] at h ⊢
    rw [h]
    by_cases hc : v.category = 2 <;> simp [hc]
theorem xj_M.of {l : Launch} (hl : l.stackTraces = false) {y : MethodName} {cc : ByteArray} {nL : Nat} {ret : Option FieldType} {hs : List (Nat × Nat × Nat × Nat)} {d : Nat} {av : List Value} {A : xj_H} {r : xj_R} (hy : plainFor y = true) (hn : (lg_sl av).length ≤ nL)
    (body : ∀ z : xj_F, xj_B l y cc nL ret hs d z → xf_H z = A → xf_r z = r → xj_W l z 0 (lv_args 0 av) [] A) : xj_M l y cc nL ret hs d av A r := by
  intro g ad
  refine MetFree.of_bodySF (code := cc) (maxLocals := nL) (ret := ret) hy ?_ ?_
  · intro args s m h hn
    obtain ⟨meth, c, h1, h2, h3, h4, h5, h6, -, -⟩ := xj_cw_spec hn (atoms_spec (ws := [xj_cw y cc nL ret hs]) h _ List.mem_cons_self)
    exact ⟨meth, c, h1, h2, h3, h4, h5, h6⟩
  · intro p e s m args below meth c s₁ B hml ⟨ha, hwa, hT, hK, hS, hP, hD, hw⟩ _
    have hh0 : s₁.heap = s.heap := by rw [B.state]; rfl
    obtain ⟨meth', c', h1, h2, -, -, -, -, h7, -⟩ := xj_cw_spec B.named (atoms_spec (ws := [xj_cw y cc nL ret hs]) B.pre _ List.mem_cons_self)
    have X := Stand.of_body B
    cases B.method.symm.trans h1
    cases X.code.symm.trans h2
    have hnm := (name_of_methodNamed B.named B.method).1
    have htr : e.platform.stackTraces = false := by rw [X.admits.platform]; exact hl
    have hW := body (p, e, (headSpec [xj_cw y cc nL ret hs] (xj_rm d A)).room, s, m, args, below, meth, c, g, ad, A, r)
      ⟨B.exec, B.bytes, hml, B.returns, B.notSynchronized, h7, findClass_of_methodNamed B.named, hnm, hT, hK, hS, hP, rfl, htr⟩ rfl rfl
    have hlv := lv_entry (av.map (xj_v g ad)) (n := nL) (by rw [xj_sl_len]; exact hn)
    rw [xj_lva] at hlv
    have hk := hW ad s.heap [] 0 0 _ ⟨fun _ _ => rfl, Nat.le_refl _, hP, hD.self, hw, va_S.rf, by simp, by simp⟩ (fun q hq => xj_wst_of hwa _ (xj_lva_mem hq)) trivial (by
      show lv_has _ c.maxLocals _
      rw [hml]; exact hlv)
    obtain ⟨t, a1, o, b1, b2, b3⟩ := hk s₁ hh0 X
    refine ⟨t, o, ?_, b1, b2, b3⟩
    rw [ha, lg_entry_eq]
    exact a1
end
section
section Xrows
variable {l : Launch} {z : xj_F} {y0 : MethodName} {cc : ByteArray} {nL : Nat} {ret : Option FieldType} {hs : List (Nat × Nat × Nat × Nat)} {d pc : Nat} {ls : List (Nat × Value)} {st : List Value} {A : xj_H}
theorem xj_lk_at {lz : Array Slot} {n : Nat} {g : xj_G} {ad : Nat → Nat} {i : Nat} {v : Value} (h : lv_has lz n (ls.map (fun q => (q.1, xj_v g ad q.2)))) (hl : xj_lk ls i = some v) : lz[i]? = some (.val (xj_v g ad v)) :=
  h.2.2 (i, xj_v g ad v) (List.mem_map.mpr ⟨(i, v), xj_lk_mem hl, rfl⟩)
theorem xj_rv_cat (r : xj_Rf) : (xj_rv r).category = 1 := by
  match r with
  | none => rfl
  | some (.inl _) => rfl
  | some (.inr _) => rfl
def xj_nl (i : Nat) : List (Nat × Value) → Prop
  | [] => True
  | q :: r => (q.1 + 1 = i → q.2.category = 1) ∧ xj_nl i r
def xj_st1 (ls : List (Nat × Value)) (i : Nat) (v : Value) : List (Nat × Value) := (i, v) :: ls.filter (fun q => !(q.1 == i))
def xj_st2 (ls : List (Nat × Value)) (i : Nat) (v : Value) : List (Nat × Value) := (i, v) :: ls.filter (fun q => !(q.1 == i) && !(q.1 == i + 1))
theorem xj_f1 (g : xj_G) (ad : Nat → Nat) (i : Nat) : ∀ {ls : List (Nat × Value)}, xj_nl i ls → (ls.map (fun q => (q.1, xj_v g ad q.2))).filter (fun q => !(q.1 == i) && !(q.1 + 1 == i && q.2.category == 2)) = (ls.filter (fun q => !(q.1 == i))).map (fun q => (q.1, xj_v g ad q.2))
  | [], _ => rfl
  | q :: r, h => by
    have ih := xj_f1 g ad i h.2
    rw [List.map_cons, List.filter_cons, List.filter_cons, ih]
    have hc : ((q.1 + 1 == i) && ((xj_v g ad q.2).category == 2)) = false := by
      by_cases hq : q.1 + 1 = i
      · rw [xj_v_cat, h.1 hq]; simp
      · simp [hq]
    simp only [hc, Bool.not_false, Bool.and_true]
    by_cases hi : q.1 = i <;> simp [hi]
theorem xj_f2 (g : xj_G) (ad : Nat → Nat) (i : Nat) : ∀ {ls : List (Nat × Value)}, xj_nl i ls → (ls.map (fun q => (q.1, xj_v g ad q.2))).filter (fun q => !(q.1 == i) && (!(q.1 == i + 1) && !(q.1 + 1 == i && q.2.category == 2))) = (ls.filter (fun q => !(q.1 == i) && !(q.1 == i + 1))).map (fun q => (q.1, xj_v g ad q.2))
  | [], _ => rfl
  | q :: r, h => by
    have ih := xj_f2 g ad i h.2
    rw [List.map_cons, List.filter_cons, List.filter_cons, ih]
    have hc : ((q.1 + 1 == i) && ((xj_v g ad q.2).category == 2)) = false := by
      by_cases hq : q.1 + 1 = i
      · rw [xj_v_cat, h.1 hq]; simp
      · simp [hq]
    simp only [hc, Bool.not_false, Bool.and_true]
    by_cases hi : q.1 = i
    · simp [hi]
    · by_cases hj : q.1 = i + 1 <;> simp [hi, hj]
theorem xj_wls_st1 {n i : Nat} {v : Value} {ls' : List (Nat × Value)} (h : xj_wls n ls) (hv : xj_wv n v) (he : xj_st1 ls i v = ls') : xj_wls n ls' := by
  subst he
  intro q hq
  rcases List.mem_cons.mp hq with rfl | hq
  · exact hv
  · exact h q (List.mem_filter.mp hq).1
theorem xj_wls_st2 {n i : Nat} {v : Value} {ls' : List (Nat × Value)} (h : xj_wls n ls) (hv : xj_wv n v) (he : xj_st2 ls i v = ls') : xj_wls n ls' := by
  subst he
  intro q hq
  rcases List.mem_cons.mp hq with rfl | hq
  · exact hv
  · exact h q (List.mem_filter.mp hq).1
theorem xj_rv_wf {n : Nat} {i : Nat} : xj_wv n (xj_rv (some (.inr i))) := trivial
/-- fewer known values -/
theorem xg_sub {ls' : List (Nat × Value)} (ks : List Nat) (hk : lv_pick ls ks = ls') (k : xj_W l z pc ls' st A) : xj_W l z pc ls st A := by
  intro ad H locs cells slots lz hI hls hst hlv
  have hm : ∀ q ∈ ls', q ∈ ls := by
    intro q hq
    rw [← hk] at hq
    obtain ⟨i, -, hi⟩ := List.mem_filterMap.mp hq
    exact List.mem_of_getElem? hi
  exact k ad H locs cells slots lz hI (fun q hq => hls q (hm q hq)) hst ⟨hlv.1, hlv.2.1, fun q hq => by
    obtain ⟨q', h1, rfl⟩ := List.mem_map.mp hq
    exact hlv.2.2 _ (List.mem_map.mpr ⟨q', hm q' h1, rfl⟩)⟩
theorem xg_iconst (B : xj_B l y0 cc nL ret hs d z) {n : Int} {v : Int32} (hd : decode cc pc = .ok (.iconst n, 1)) (hv : Int32.ofInt n = v) (k : xj_W l z (pc + 1) ls (.int v :: st) A) : xj_W l z pc ls (st) A := by
  intro ad H locs cells slots lz hI hls hst hlv
  exact lv_iconst B.1 B.2.1 hd hv (k ad H locs cells slots lz hI hls ⟨trivial, hst⟩ hlv)
theorem xg_bipush (B : xj_B l y0 cc nL ret hs d z) {n : Int} {v : Int32} (hd : decode cc pc = .ok (.bipush n, 2)) (hv : (Int8.ofInt n).toInt32 = v) (k : xj_W l z (pc + 2) ls (.int v :: st) A) : xj_W l z pc ls (st) A := by
  intro ad H locs cells slots lz hI hls hst hlv
  exact lv_bipush B.1 B.2.1 hd hv (k ad H locs cells slots lz hI hls ⟨trivial, hst⟩ hlv)
theorem xg_sipush (B : xj_B l y0 cc nL ret hs d z) {n : Int} {v : Int32} (hd : decode cc pc = .ok (.sipush n, 3)) (hv : (Int16.ofInt n).toInt32 = v) (k : xj_W l z (pc + 3) ls (.int v :: st) A) : xj_W l z pc ls (st) A := by
  intro ad H locs cells slots lz hI hls hst hlv
  exact lv_sipush B.1 B.2.1 hd hv (k ad H locs cells slots lz hI hls ⟨trivial, hst⟩ hlv)
theorem xg_lconst (B : xj_B l y0 cc nL ret hs d z) {n : Fin 2} {v : Int64} (hd : decode cc pc = .ok (.lconst n, 1)) (hv : Int64.ofNat (n : Nat) = v) (k : xj_W l z (pc + 1) ls (.long v :: st) A) : xj_W l z pc ls (st) A := by
  intro ad H locs cells slots lz hI hls hst hlv
  exact lv_lconst B.1 B.2.1 hd hv (k ad H locs cells slots lz hI hls ⟨trivial, hst⟩ hlv)
theorem xg_null (B : xj_B l y0 cc nL ret hs d z)  (hd : decode cc pc = .ok (.aconst_null, 1)) (k : xj_W l z (pc + 1) ls (xj_rv none :: st) A) : xj_W l z pc ls (st) A := by
  intro ad H locs cells slots lz hI hls hst hlv
  exact lv_null B.1 B.2.1 hd (k ad H locs cells slots lz hI hls ⟨trivial, hst⟩ hlv)
theorem xg_ldc (B : xj_B l y0 cc nL ret hs d z) {index : Nat} {v : Int32} (hd : decode cc pc = .ok (.ldc index, 2)) (hw : Cond.constant y0.cls index v ∈ xj_ws) (k : xj_W l z (pc + 2) ls (.int v :: st) A) : xj_W l z pc ls st A := by
  intro ad H locs cells slots lz hI hls hst hlv
  exact lv_ldc B.1 B.2.1 B.2.2.2.2.2.2.1 (B.2.2.2.2.2.2.2.2.1.1 _ hw _) hd (k ad H locs cells slots lz hI hls ⟨trivial, hst⟩ hlv)
theorem xg_ldc2 (B : xj_B l y0 cc nL ret hs d z) {index : Nat} {v : Int64} (hd : decode cc pc = .ok (.ldc2_w index, 3)) (hw : Cond.constantLong y0.cls index v ∈ xj_ws) (k : xj_W l z (pc + 3) ls (.long v :: st) A) : xj_W l z pc ls st A := by
  intro ad H locs cells slots lz hI hls hst hlv
  exact lv_ldc2 B.1 B.2.1 B.2.2.2.2.2.2.1 (B.2.2.2.2.2.2.2.2.1.1 _ hw _) hd (k ad H locs cells slots lz hI hls ⟨trivial, hst⟩ hlv)
theorem xg_iload_n (B : xj_B l y0 cc nL ret hs d z) {k : Fin 4} {i : Nat} {x : Int32} (hd : decode cc pc = .ok (.iload_n k, 1)) (hi : (k : Nat) = i) (hl : xj_lk ls i = some (.int x)) (k : xj_W l z (pc + 1) ls (.int x :: st) A) : xj_W l z pc ls (st) A := by
  intro ad H locs cells slots lz hI hls hst hlv
  exact lv_iload_n B.1 B.2.1 hd hi (xj_lk_at hlv hl) (k ad H locs cells slots lz hI hls ⟨trivial, hst⟩ hlv)
theorem xg_iload (B : xj_B l y0 cc nL ret hs d z) {i : Nat} {x : Int32} (hd : decode cc pc = .ok (.iload i, 2)) (hl : xj_lk ls i = some (.int x)) (k : xj_W l z (pc + 2) ls (.int x :: st) A) : xj_W l z pc ls (st) A := by
  intro ad H locs cells slots lz hI hls hst hlv
  exact lv_iload B.1 B.2.1 hd (xj_lk_at hlv hl) (k ad H locs cells slots lz hI hls ⟨trivial, hst⟩ hlv)
theorem xg_lload_n (B : xj_B l y0 cc nL ret hs d z) {k : Fin 4} {i : Nat} {x : Int64} (hd : decode cc pc = .ok (.lload_n k, 1)) (hi : (k : Nat) = i) (hl : xj_lk ls i = some (.long x)) (k : xj_W l z (pc + 1) ls (.long x :: st) A) : xj_W l z pc ls (st) A := by
  intro ad H locs cells slots lz hI hls hst hlv
  exact lv_lload_n B.1 B.2.1 hd hi (xj_lk_at hlv hl) (k ad H locs cells slots lz hI hls ⟨trivial, hst⟩ hlv)
theorem xg_lload (B : xj_B l y0 cc nL ret hs d z) {i : Nat} {x : Int64} (hd : decode cc pc = .ok (.lload i, 2)) (hl : xj_lk ls i = some (.long x)) (k : xj_W l z (pc + 2) ls (.long x :: st) A) : xj_W l z pc ls (st) A := by
  intro ad H locs cells slots lz hI hls hst hlv
  exact lv_lload B.1 B.2.1 hd (xj_lk_at hlv hl) (k ad H locs cells slots lz hI hls ⟨trivial, hst⟩ hlv)
theorem xg_aload_n (B : xj_B l y0 cc nL ret hs d z) {k : Fin 4} {i : Nat} {r : xj_Rf} (hd : decode cc pc = .ok (.aload_n k, 1)) (hi : (k : Nat) = i) (hl : xj_lk ls i = some (xj_rv r)) (k : xj_W l z (pc + 1) ls (xj_rv r :: st) A) : xj_W l z pc ls st A := by
  intro ad H locs cells slots lz hI hls hst hlv
  have hw := hls _ (xj_lk_mem hl)
  have hk := k ad H locs cells slots lz hI hls ⟨hw, hst⟩ hlv
  have ha := xj_lk_at hlv hl
  match r with
  | none => exact lv_aload_nN B.1 B.2.1 hd hi ha hk
  | some (.inl j) => exact lv_aload_n B.1 B.2.1 hd hi ha hk
  | some (.inr j) => exact lv_aload_n B.1 B.2.1 hd hi ha hk
theorem xg_aload (B : xj_B l y0 cc nL ret hs d z) {i : Nat} {r : xj_Rf} (hd : decode cc pc = .ok (.aload i, 2)) (hl : xj_lk ls i = some (xj_rv r)) (k : xj_W l z (pc + 2) ls (xj_rv r :: st) A) : xj_W l z pc ls st A := by
  intro ad H locs cells slots lz hI hls hst hlv
  have hw := hls _ (xj_lk_mem hl)
  have hk := k ad H locs cells slots lz hI hls ⟨hw, hst⟩ hlv
  have ha := xj_lk_at hlv hl
  match r with
  | none => exact lv_aloadN B.1 B.2.1 hd ha hk
  | some (.inl j) => exact lv_aload B.1 B.2.1 hd ha hk
  | some (.inr j) => exact lv_aload B.1 B.2.1 hd ha hk
theorem xg_istore_n (B : xj_B l y0 cc nL ret hs d z) {k : Fin 4} {i : Nat} {x : Int32} {ls' : List (Nat × Value)} (hd : decode cc pc = .ok (.istore_n k, 1)) (hi : (k : Nat) = i) (hn : i < nL) (hq : xj_nl i ls) (he : xj_st1 ls i (.int x) = ls') (k : xj_W l z (pc + 1) ls' st A) : xj_W l z pc ls (.int x :: st) A := by
  intro ad H locs cells slots lz hI hls hst hlv
  refine lv_istore_n B.1 B.2.1 hd hi hlv (by rw [B.2.2.1]; exact hn) (lv' := ls'.map (fun q => (q.1, xj_v (xf_g z) ad q.2))) (by rw [xj_f1 _ _ _ hq, ← he]; rfl) (fun lz' hlv' => ?_)
  exact k ad H locs cells slots lz' hI (xj_wls_st1 hls hst.1 he) hst.2 hlv'
theorem xg_istore (B : xj_B l y0 cc nL ret hs d z) {i : Nat} {x : Int32} {ls' : List (Nat × Value)} (hd : decode cc pc = .ok (.istore i, 2)) (hn : i < nL) (hq : xj_nl i ls) (he : xj_st1 ls i (.int x) = ls') (k : xj_W l z (pc + 2) ls' st A) : xj_W l z pc ls (.int x :: st) A := by
  intro ad H locs cells slots lz hI hls hst hlv
  refine lv_istore B.1 B.2.1 hd hlv (by rw [B.2.2.1]; exact hn) (lv' := ls'.map (fun q => (q.1, xj_v (xf_g z) ad q.2))) (by rw [xj_f1 _ _ _ hq, ← he]; rfl) (fun lz' hlv' => ?_)
  exact k ad H locs cells slots lz' hI (xj_wls_st1 hls hst.1 he) hst.2 hlv'
theorem xg_lstore_n (B : xj_B l y0 cc nL ret hs d z) {k : Fin 4} {i : Nat} {x : Int64} {ls' : List (Nat × Value)} (hd : decode cc pc = .ok (.lstore_n k, 1)) (hi : (k : Nat) = i) (hn : i + 1 < nL) (hq : xj_nl i ls) (he : xj_st2 ls i (.long x) = ls') (k : xj_W l z (pc + 1) ls' st A) : xj_W l z pc ls (.long x :: st) A := by
  intro ad H locs cells slots lz hI hls hst hlv
  refine lv_lstore_n B.1 B.2.1 hd hi hlv (by rw [B.2.2.1]; exact hn) (lv' := ls'.map (fun q => (q.1, xj_v (xf_g z) ad q.2))) (by rw [xj_f2 _ _ _ hq, ← he]; rfl) (fun lz' hlv' => ?_)
  exact k ad H locs cells slots lz' hI (xj_wls_st2 hls hst.1 he) hst.2 hlv'
theorem xg_lstore (B : xj_B l y0 cc nL ret hs d z) {i : Nat} {x : Int64} {ls' : List (Nat × Value)} (hd : decode cc pc = .ok (.lstore i, 2)) (hn : i + 1 < nL) (hq : xj_nl i ls) (he : xj_st2 ls i (.long x) = ls') (k : xj_W l z (pc + 2) ls' st A) : xj_W l z pc ls (.long x :: st) A := by
  intro ad H locs cells slots lz hI hls hst hlv
  refine lv_lstore B.1 B.2.1 hd hlv (by rw [B.2.2.1]; exact hn) (lv' := ls'.map (fun q => (q.1, xj_v (xf_g z) ad q.2))) (by rw [xj_f2 _ _ _ hq, ← he]; rfl) (fun lz' hlv' => ?_)
  exact k ad H locs cells slots lz' hI (xj_wls_st2 hls hst.1 he) hst.2 hlv'
theorem xg_astore_n (B : xj_B l y0 cc nL ret hs d z) {k : Fin 4} {i : Nat} {r : xj_Rf} {ls' : List (Nat × Value)} (hd : decode cc pc = .ok (.astore_n k, 1)) (hi : (k : Nat) = i) (hn : i < nL) (hq : xj_nl i ls) (he : xj_st1 ls i (xj_rv r) = ls') (k : xj_W l z (pc + 1) ls' st A) : xj_W l z pc ls (xj_rv r :: st) A := by
  intro ad H locs cells slots lz hI hls hst hlv
  match r with
  | none => refine lv_astore_nN B.1 B.2.1 hd hi hlv (by rw [B.2.2.1]; exact hn) (lv' := ls'.map (fun q => (q.1, xj_v (xf_g z) ad q.2))) (by rw [xj_f1 _ _ _ hq, ← he]; rfl) (fun lz' hlv' => k ad H locs cells slots lz' hI (xj_wls_st1 hls hst.1 he) hst.2 hlv')
  | some (.inl j) => refine lv_astore_n B.1 B.2.1 hd hi hlv (by rw [B.2.2.1]; exact hn) (lv' := ls'.map (fun q => (q.1, xj_v (xf_g z) ad q.2))) (by rw [xj_f1 _ _ _ hq, ← he]; rfl) (fun lz' hlv' => k ad H locs cells slots lz' hI (xj_wls_st1 hls hst.1 he) hst.2 hlv')
  | some (.inr j) => refine lv_astore_n B.1 B.2.1 hd hi hlv (by rw [B.2.2.1]; exact hn) (lv' := ls'.map (fun q => (q.1, xj_v (xf_g z) ad q.2))) (by rw [xj_f1 _ _ _ hq, ← he]; rfl) (fun lz' hlv' => k ad H locs cells slots lz' hI (xj_wls_st1 hls hst.1 he) hst.2 hlv')
theorem xg_astore (B : xj_B l y0 cc nL ret hs d z) {i : Nat} {r : xj_Rf} {ls' : List (Nat × Value)} (hd : decode cc pc = .ok (.astore i, 2)) (hn : i < nL) (hq : xj_nl i ls) (he : xj_st1 ls i (xj_rv r) = ls') (k : xj_W l z (pc + 2) ls' st A) : xj_W l z pc ls (xj_rv r :: st) A := by
  intro ad H locs cells slots lz hI hls hst hlv
  match r with
  | none => refine lv_astoreN B.1 B.2.1 hd hlv (by rw [B.2.2.1]; exact hn) (lv' := ls'.map (fun q => (q.1, xj_v (xf_g z) ad q.2))) (by rw [xj_f1 _ _ _ hq, ← he]; rfl) (fun lz' hlv' => k ad H locs cells slots lz' hI (xj_wls_st1 hls hst.1 he) hst.2 hlv')
  | some (.inl j) => refine lv_astore B.1 B.2.1 hd hlv (by rw [B.2.2.1]; exact hn) (lv' := ls'.map (fun q => (q.1, xj_v (xf_g z) ad q.2))) (by rw [xj_f1 _ _ _ hq, ← he]; rfl) (fun lz' hlv' => k ad H locs cells slots lz' hI (xj_wls_st1 hls hst.1 he) hst.2 hlv')
  | some (.inr j) => refine lv_astore B.1 B.2.1 hd hlv (by rw [B.2.2.1]; exact hn) (lv' := ls'.map (fun q => (q.1, xj_v (xf_g z) ad q.2))) (by rw [xj_f1 _ _ _ hq, ← he]; rfl) (fun lz' hlv' => k ad H locs cells slots lz' hI (xj_wls_st1 hls hst.1 he) hst.2 hlv')
theorem xg_iinc (B : xj_B l y0 cc nL ret hs d z) {i : Nat} {n : Int} {x v : Int32} {ls' : List (Nat × Value)} (hd : decode cc pc = .ok (.iinc i n, 3)) (hl : xj_lk ls i = some (.int x)) (hv : x + Int32.ofInt n = v) (hn : i < nL) (hq : xj_nl i ls) (he : xj_st1 ls i (.int v) = ls') (k : xj_W l z (pc + 3) ls' st A) : xj_W l z pc ls st A := by
  intro ad H locs cells slots lz hI hls hst hlv
  obtain ⟨j, hj⟩ := List.getElem?_of_mem (xj_lk_mem hl)
  refine lv_iinc B.1 B.2.1 hd hlv (k := j) (by rw [List.getElem?_map, hj]; rfl) hv (by rw [B.2.2.1]; exact hn) (lv' := ls'.map (fun q => (q.1, xj_v (xf_g z) ad q.2))) (by rw [xj_f1 _ _ _ hq, ← he]; rfl) (fun lz' hlv' => ?_)
  exact k ad H locs cells slots lz' hI (xj_wls_st1 (v := .int v) hls trivial he) hst hlv'
theorem xg_iadd (B : xj_B l y0 cc nL ret hs d z) {x y : Int32} (hd : decode cc pc = .ok (.iadd, 1)) (k : xj_W l z (pc + 1) ls (.int (x + y) :: st) A) : xj_W l z pc ls (.int y :: .int x :: st) A := by
  intro ad H locs cells slots lz hI hls hst hlv
  exact lv_iadd B.1 B.2.1 hd (k ad H locs cells slots lz hI hls ⟨trivial, hst.2.2⟩ hlv)
theorem xg_isub (B : xj_B l y0 cc nL ret hs d z) {x y : Int32} (hd : decode cc pc = .ok (.isub, 1)) (k : xj_W l z (pc + 1) ls (.int (x - y) :: st) A) : xj_W l z pc ls (.int y :: .int x :: st) A := by
  intro ad H locs cells slots lz hI hls hst hlv
  exact lv_isub B.1 B.2.1 hd (k ad H locs cells slots lz hI hls ⟨trivial, hst.2.2⟩ hlv)
theorem xg_imul (B : xj_B l y0 cc nL ret hs d z) {x y : Int32} (hd : decode cc pc = .ok (.imul, 1)) (k : xj_W l z (pc + 1) ls (.int (x * y) :: st) A) : xj_W l z pc ls (.int y :: .int x :: st) A := by
  intro ad H locs cells slots lz hI hls hst hlv
  exact lv_imul B.1 B.2.1 hd (k ad H locs cells slots lz hI hls ⟨trivial, hst.2.2⟩ hlv)
theorem xg_iand (B : xj_B l y0 cc nL ret hs d z) {x y : Int32} (hd : decode cc pc = .ok (.iand, 1)) (k : xj_W l z (pc + 1) ls (.int (x &&& y) :: st) A) : xj_W l z pc ls (.int y :: .int x :: st) A := by
  intro ad H locs cells slots lz hI hls hst hlv
  exact lv_iand B.1 B.2.1 hd (k ad H locs cells slots lz hI hls ⟨trivial, hst.2.2⟩ hlv)
theorem xg_ior (B : xj_B l y0 cc nL ret hs d z) {x y : Int32} (hd : decode cc pc = .ok (.ior, 1)) (k : xj_W l z (pc + 1) ls (.int (x ||| y) :: st) A) : xj_W l z pc ls (.int y :: .int x :: st) A := by
  intro ad H locs cells slots lz hI hls hst hlv
  exact lv_ior B.1 B.2.1 hd (k ad H locs cells slots lz hI hls ⟨trivial, hst.2.2⟩ hlv)
theorem xg_ixor (B : xj_B l y0 cc nL ret hs d z) {x y : Int32} (hd : decode cc pc = .ok (.ixor, 1)) (k : xj_W l z (pc + 1) ls (.int (x ^^^ y) :: st) A) : xj_W l z pc ls (.int y :: .int x :: st) A := by
  intro ad H locs cells slots lz hI hls hst hlv
  exact lv_ixor B.1 B.2.1 hd (k ad H locs cells slots lz hI hls ⟨trivial, hst.2.2⟩ hlv)
theorem xg_ishl (B : xj_B l y0 cc nL ret hs d z) {x y : Int32} (hd : decode cc pc = .ok (.ishl, 1)) (k : xj_W l z (pc + 1) ls (.int (x <<< (y &&& 31)) :: st) A) : xj_W l z pc ls (.int y :: .int x :: st) A := by
  intro ad H locs cells slots lz hI hls hst hlv
  exact lv_ishl B.1 B.2.1 hd (k ad H locs cells slots lz hI hls ⟨trivial, hst.2.2⟩ hlv)
theorem xg_ishr (B : xj_B l y0 cc nL ret hs d z) {x y : Int32} (hd : decode cc pc = .ok (.ishr, 1)) (k : xj_W l z (pc + 1) ls (.int (x >>> (y &&& 31)) :: st) A) : xj_W l z pc ls (.int y :: .int x :: st) A := by
  intro ad H locs cells slots lz hI hls hst hlv
  exact lv_ishr B.1 B.2.1 hd (k ad H locs cells slots lz hI hls ⟨trivial, hst.2.2⟩ hlv)
theorem xg_ladd (B : xj_B l y0 cc nL ret hs d z) {x y : Int64} (hd : decode cc pc = .ok (.ladd, 1)) (k : xj_W l z (pc + 1) ls (.long (x + y) :: st) A) : xj_W l z pc ls (.long y :: .long x :: st) A := by
  intro ad H locs cells slots lz hI hls hst hlv
  exact lv_ladd B.1 B.2.1 hd (k ad H locs cells slots lz hI hls ⟨trivial, hst.2.2⟩ hlv)
theorem xg_lsub (B : xj_B l y0 cc nL ret hs d z) {x y : Int64} (hd : decode cc pc = .ok (.lsub, 1)) (k : xj_W l z (pc + 1) ls (.long (x - y) :: st) A) : xj_W l z pc ls (.long y :: .long x :: st) A := by
  intro ad H locs cells slots lz hI hls hst hlv
  exact lv_lsub B.1 B.2.1 hd (k ad H locs cells slots lz hI hls ⟨trivial, hst.2.2⟩ hlv)
theorem xg_lmul (B : xj_B l y0 cc nL ret hs d z) {x y : Int64} (hd : decode cc pc = .ok (.lmul, 1)) (k : xj_W l z (pc + 1) ls (.long (x * y) :: st) A) : xj_W l z pc ls (.long y :: .long x :: st) A := by
  intro ad H locs cells slots lz hI hls hst hlv
  exact lv_lmul B.1 B.2.1 hd (k ad H locs cells slots lz hI hls ⟨trivial, hst.2.2⟩ hlv)
theorem xg_land (B : xj_B l y0 cc nL ret hs d z) {x y : Int64} (hd : decode cc pc = .ok (.land, 1)) (k : xj_W l z (pc + 1) ls (.long (x &&& y) :: st) A) : xj_W l z pc ls (.long y :: .long x :: st) A := by
  intro ad H locs cells slots lz hI hls hst hlv
  exact lv_land B.1 B.2.1 hd (k ad H locs cells slots lz hI hls ⟨trivial, hst.2.2⟩ hlv)
theorem xg_lor (B : xj_B l y0 cc nL ret hs d z) {x y : Int64} (hd : decode cc pc = .ok (.lor, 1)) (k : xj_W l z (pc + 1) ls (.long (x ||| y) :: st) A) : xj_W l z pc ls (.long y :: .long x :: st) A := by
  intro ad H locs cells slots lz hI hls hst hlv
  exact lv_lor B.1 B.2.1 hd (k ad H locs cells slots lz hI hls ⟨trivial, hst.2.2⟩ hlv)
theorem xg_ineg (B : xj_B l y0 cc nL ret hs d z) {x : Int32} (hd : decode cc pc = .ok (.ineg, 1)) (k : xj_W l z (pc + 1) ls (.int (-x) :: st) A) : xj_W l z pc ls (.int x :: st) A := by
  intro ad H locs cells slots lz hI hls hst hlv
  exact lv_ineg B.1 B.2.1 hd (k ad H locs cells slots lz hI hls ⟨trivial, hst.2⟩ hlv)
theorem xg_idiv (B : xj_B l y0 cc nL ret hs d z) {x y : Int32} (hd : decode cc pc = .ok (.idiv, 1)) (hne : ¬ y = 0) (k : xj_W l z (pc + 1) ls (.int (x / y) :: st) A) : xj_W l z pc ls (.int y :: .int x :: st) A := by
  intro ad H locs cells slots lz hI hls hst hlv
  exact lv_idiv B.1 B.2.1 hd hne (k ad H locs cells slots lz hI hls ⟨trivial, hst.2.2⟩ hlv)
theorem xj_rem (x y : Int32) : x - x / y * y = x % y := by
  apply Int32.toInt_inj.mp
  rw [rem_toInt, Int32.toInt_mod]
theorem xg_irem (B : xj_B l y0 cc nL ret hs d z) {x y : Int32} (hd : decode cc pc = .ok (.irem, 1)) (hne : ¬ y = 0) (k : xj_W l z (pc + 1) ls (.int (x % y) :: st) A) : xj_W l z pc ls (.int y :: .int x :: st) A := by
  intro ad H locs cells slots lz hI hls hst hlv
  refine lv_irem B.1 B.2.1 hd hne ?_
  rw [xj_rem]
  exact k ad H locs cells slots lz hI hls ⟨trivial, hst.2.2⟩ hlv
theorem xg_lcmp (B : xj_B l y0 cc nL ret hs d z) {x y : Int64} (hd : decode cc pc = .ok (.lcmp, 1)) (k : xj_W l z (pc + 1) ls (.int (lg_cmp x y) :: st) A) : xj_W l z pc ls (.long y :: .long x :: st) A := by
  intro ad H locs cells slots lz hI hls hst hlv
  exact W.lcmp B.1 B.2.1 hd (k ad H locs cells slots lz hI hls ⟨trivial, hst.2.2⟩ hlv)
theorem xg_lshl (B : xj_B l y0 cc nL ret hs d z) {x : Int64} {y : Int32} (hd : decode cc pc = .ok (.lshl, 1)) (k : xj_W l z (pc + 1) ls (.long (x <<< (y.toInt64 &&& 63)) :: st) A) : xj_W l z pc ls (.int y :: .long x :: st) A := by
  intro ad H locs cells slots lz hI hls hst hlv
  exact lv_lshl B.1 B.2.1 hd rfl (k ad H locs cells slots lz hI hls ⟨trivial, hst.2.2⟩ hlv)
theorem xg_i2l (B : xj_B l y0 cc nL ret hs d z) {x : Int32} (hd : decode cc pc = .ok (.i2l, 1)) (k : xj_W l z (pc + 1) ls (.long x.toInt64 :: st) A) : xj_W l z pc ls (.int x :: st) A := by
  intro ad H locs cells slots lz hI hls hst hlv
  exact lv_i2l B.1 B.2.1 hd rfl (k ad H locs cells slots lz hI hls ⟨trivial, hst.2⟩ hlv)
theorem xg_l2i (B : xj_B l y0 cc nL ret hs d z) {x : Int64} (hd : decode cc pc = .ok (.l2i, 1)) (k : xj_W l z (pc + 1) ls (.int x.toInt32 :: st) A) : xj_W l z pc ls (.long x :: st) A := by
  intro ad H locs cells slots lz hI hls hst hlv
  exact lv_l2i B.1 B.2.1 hd rfl (k ad H locs cells slots lz hI hls ⟨trivial, hst.2⟩ hlv)
theorem xg_i2c (B : xj_B l y0 cc nL ret hs d z) {x : Int32} (hd : decode cc pc = .ok (.i2c, 1)) (k : xj_W l z (pc + 1) ls (.int ((x.toUInt32 % 65536).toInt32) :: st) A) : xj_W l z pc ls (.int x :: st) A := by
  intro ad H locs cells slots lz hI hls hst hlv
  exact lv_i2c B.1 B.2.1 hd rfl (k ad H locs cells slots lz hI hls ⟨trivial, hst.2⟩ hlv)
theorem xg_dup (B : xj_B l y0 cc nL ret hs d z) {va : Value} (hd : decode cc pc = .ok (.dup, 1)) (ha : va.category = 1) (k : xj_W l z (pc + 1) ls (va :: va :: st) A) : xj_W l z pc ls (va :: st) A := by
  intro ad H locs cells slots lz hI hls hst hlv
  exact lv_dup B.1 B.2.1 hd (by rw [xj_v_cat]; exact ha) (k ad H locs cells slots lz hI hls ⟨hst.1, hst⟩ hlv)
theorem xg_pop (B : xj_B l y0 cc nL ret hs d z) {va : Value} (hd : decode cc pc = .ok (.pop, 1)) (ha : va.category = 1) (k : xj_W l z (pc + 1) ls (st) A) : xj_W l z pc ls (va :: st) A := by
  intro ad H locs cells slots lz hI hls hst hlv
  exact lv_pop B.1 B.2.1 hd (by rw [xj_v_cat]; exact ha) (k ad H locs cells slots lz hI hls hst.2 hlv)
theorem xg_dup_x1 (B : xj_B l y0 cc nL ret hs d z) {va vb : Value} (hd : decode cc pc = .ok (.dup_x1, 1)) (ha : va.category = 1) (hb : vb.category = 1) (k : xj_W l z (pc + 1) ls (va :: vb :: va :: st) A) : xj_W l z pc ls (va :: vb :: st) A := by
  intro ad H locs cells slots lz hI hls hst hlv
  exact lv_dup_x1 B.1 B.2.1 hd (by rw [xj_v_cat]; exact ha) (by rw [xj_v_cat]; exact hb) (k ad H locs cells slots lz hI hls ⟨hst.1, hst.2.1, hst.1, hst.2.2⟩ hlv)
theorem xg_dup_x2 (B : xj_B l y0 cc nL ret hs d z) {va vb vd : Value} (hd : decode cc pc = .ok (.dup_x2, 1)) (ha : va.category = 1) (hb : vb.category = 1) (hc : vd.category = 1) (k : xj_W l z (pc + 1) ls (va :: vb :: vd :: va :: st) A) : xj_W l z pc ls (va :: vb :: vd :: st) A := by
  intro ad H locs cells slots lz hI hls hst hlv
  exact lv_dup_x2 B.1 B.2.1 hd (by rw [xj_v_cat]; exact ha) (by rw [xj_v_cat]; exact hb) (by rw [xj_v_cat]; exact hc) (k ad H locs cells slots lz hI hls ⟨hst.1, hst.2.1, hst.2.2.1, hst.1, hst.2.2.2⟩ hlv)
theorem xg_dup2 (B : xj_B l y0 cc nL ret hs d z) {va vb : Value} (hd : decode cc pc = .ok (.dup2, 1)) (ha : va.category = 1) (hb : vb.category = 1) (k : xj_W l z (pc + 1) ls (va :: vb :: va :: vb :: st) A) : xj_W l z pc ls (va :: vb :: st) A := by
  intro ad H locs cells slots lz hI hls hst hlv
  exact lv_dup2_11 B.1 B.2.1 hd (by rw [xj_v_cat]; exact ha) (by rw [xj_v_cat]; exact hb) (k ad H locs cells slots lz hI hls ⟨hst.1, hst.2.1, hst⟩ hlv)
theorem xg_pop2 (B : xj_B l y0 cc nL ret hs d z) {va : Value} (hd : decode cc pc = .ok (.pop2, 1)) (ha : va.category = 2) (k : xj_W l z (pc + 1) ls (st) A) : xj_W l z pc ls (va :: st) A := by
  intro ad H locs cells slots lz hI hls hst hlv
  exact lv_pop2_2 B.1 B.2.1 hd (by rw [xj_v_cat]; exact ha) (k ad H locs cells slots lz hI hls hst.2 hlv)
theorem xg_if_eq (B : xj_B l y0 cc nL ret hs d z) {x : Int32} {off : Int} {tgt : Nat} {P P' : Option xj_R} (hd : decode cc pc = .ok (.ifCond .eq off, 3)) (ht : (pc : Int) + off = (tgt : Int)) (h : (if x = 0 then P else P') = some (xf_r z)) (kt : x = 0 → P = some (xf_r z) → xj_W l z tgt ls st A) (kf : ¬ (x = 0) → P' = some (xf_r z) → xj_W l z (pc + 3) ls st A) : xj_W l z pc ls (.int x :: st) A := by
  intro ad H locs cells slots lz hI hls hst hlv
  refine lv_if_eq B.1 B.2.1 hd ht (fun hc => ?_) (fun hc => ?_)
  · first | exact kt hc (by rw [if_pos hc] at h; exact h) ad H locs cells slots lz hI hls hst.2 hlv | exact kt (by simpa using hc) (by rw [if_pos (by simpa using hc)] at h; exact h) ad H locs cells slots lz hI hls hst.2 hlv
  · first | exact kf hc (by rw [if_neg hc] at h; exact h) ad H locs cells slots lz hI hls hst.2 hlv | exact kf (by simpa using hc) (by rw [if_neg (by simpa using hc)] at h; exact h) ad H locs cells slots lz hI hls hst.2 hlv
theorem xg_icmp_eq (B : xj_B l y0 cc nL ret hs d z) {x y : Int32} {off : Int} {tgt : Nat} {P P' : Option xj_R} (hd : decode cc pc = .ok (.if_icmp .eq off, 3)) (ht : (pc : Int) + off = (tgt : Int)) (h : (if x = y then P else P') = some (xf_r z)) (kt : x = y → P = some (xf_r z) → xj_W l z tgt ls st A) (kf : ¬ (x = y) → P' = some (xf_r z) → xj_W l z (pc + 3) ls st A) : xj_W l z pc ls (.int y :: .int x :: st) A := by
  intro ad H locs cells slots lz hI hls hst hlv
  refine lv_icmp_eq B.1 B.2.1 hd ht (fun hc => ?_) (fun hc => ?_)
  · first | exact kt hc (by rw [if_pos hc] at h; exact h) ad H locs cells slots lz hI hls hst.2.2 hlv | exact kt (by simpa using hc) (by rw [if_pos (by simpa using hc)] at h; exact h) ad H locs cells slots lz hI hls hst.2.2 hlv
  · first | exact kf hc (by rw [if_neg hc] at h; exact h) ad H locs cells slots lz hI hls hst.2.2 hlv | exact kf (by simpa using hc) (by rw [if_neg (by simpa using hc)] at h; exact h) ad H locs cells slots lz hI hls hst.2.2 hlv
theorem xg_if_ne (B : xj_B l y0 cc nL ret hs d z) {x : Int32} {off : Int} {tgt : Nat} {P P' : Option xj_R} (hd : decode cc pc = .ok (.ifCond .ne off, 3)) (ht : (pc : Int) + off = (tgt : Int)) (h : (if ¬ x = 0 then P else P') = some (xf_r z)) (kt : ¬ x = 0 → P = some (xf_r z) → xj_W l z tgt ls st A) (kf : ¬ (¬ x = 0) → P' = some (xf_r z) → xj_W l z (pc + 3) ls st A) : xj_W l z pc ls (.int x :: st) A := by
  intro ad H locs cells slots lz hI hls hst hlv
  refine lv_if_ne B.1 B.2.1 hd ht (fun hc => ?_) (fun hc => ?_)
  · first | exact kt hc (by rw [if_pos hc] at h; exact h) ad H locs cells slots lz hI hls hst.2 hlv | exact kt (by simpa using hc) (by rw [if_pos (by simpa using hc)] at h; exact h) ad H locs cells slots lz hI hls hst.2 hlv
  · first | exact kf hc (by rw [if_neg hc] at h; exact h) ad H locs cells slots lz hI hls hst.2 hlv | exact kf (by simpa using hc) (by rw [if_neg (by simpa using hc)] at h; exact h) ad H locs cells slots lz hI hls hst.2 hlv
theorem xg_icmp_ne (B : xj_B l y0 cc nL ret hs d z) {x y : Int32} {off : Int} {tgt : Nat} {P P' : Option xj_R} (hd : decode cc pc = .ok (.if_icmp .ne off, 3)) (ht : (pc : Int) + off = (tgt : Int)) (h : (if ¬ x = y then P else P') = some (xf_r z)) (kt : ¬ x = y → P = some (xf_r z) → xj_W l z tgt ls st A) (kf : ¬ (¬ x = y) → P' = some (xf_r z) → xj_W l z (pc + 3) ls st A) : xj_W l z pc ls (.int y :: .int x :: st) A := by
  intro ad H locs cells slots lz hI hls hst hlv
  refine lv_icmp_ne B.1 B.2.1 hd ht (fun hc => ?_) (fun hc => ?_)
  · first | exact kt hc (by rw [if_pos hc] at h; exact h) ad H locs cells slots lz hI hls hst.2.2 hlv | exact kt (by simpa using hc) (by rw [if_pos (by simpa using hc)] at h; exact h) ad H locs cells slots lz hI hls hst.2.2 hlv
  · first | exact kf hc (by rw [if_neg hc] at h; exact h) ad H locs cells slots lz hI hls hst.2.2 hlv | exact kf (by simpa using hc) (by rw [if_neg (by simpa using hc)] at h; exact h) ad H locs cells slots lz hI hls hst.2.2 hlv
theorem xg_if_lt (B : xj_B l y0 cc nL ret hs d z) {x : Int32} {off : Int} {tgt : Nat} {P P' : Option xj_R} (hd : decode cc pc = .ok (.ifCond .lt off, 3)) (ht : (pc : Int) + off = (tgt : Int)) (h : (if x < 0 then P else P') = some (xf_r z)) (kt : x < 0 → P = some (xf_r z) → xj_W l z tgt ls st A) (kf : ¬ (x < 0) → P' = some (xf_r z) → xj_W l z (pc + 3) ls st A) : xj_W l z pc ls (.int x :: st) A := by
  intro ad H locs cells slots lz hI hls hst hlv
  refine lv_if_lt B.1 B.2.1 hd ht (fun hc => ?_) (fun hc => ?_)
  · first | exact kt hc (by rw [if_pos hc] at h; exact h) ad H locs cells slots lz hI hls hst.2 hlv | exact kt (by simpa using hc) (by rw [if_pos (by simpa using hc)] at h; exact h) ad H locs cells slots lz hI hls hst.2 hlv
  · first | exact kf hc (by rw [if_neg hc] at h; exact h) ad H locs cells slots lz hI hls hst.2 hlv | exact kf (by simpa using hc) (by rw [if_neg (by simpa using hc)] at h; exact h) ad H locs cells slots lz hI hls hst.2 hlv
theorem xg_icmp_lt (B : xj_B l y0 cc nL ret hs d z) {x y : Int32} {off : Int} {tgt : Nat} {P P' : Option xj_R} (hd : decode cc pc = .ok (.if_icmp .lt off, 3)) (ht : (pc : Int) + off = (tgt : Int)) (h : (if x < y then P else P') = some (xf_r z)) (kt : x < y → P = some (xf_r z) → xj_W l z tgt ls st A) (kf : ¬ (x < y) → P' = some (xf_r z) → xj_W l z (pc + 3) ls st A) : xj_W l z pc ls (.int y :: .int x :: st) A := by
  intro ad H locs cells slots lz hI hls hst hlv
  refine lv_icmp_lt B.1 B.2.1 hd ht (fun hc => ?_) (fun hc => ?_)
  · first | exact kt hc (by rw [if_pos hc] at h; exact h) ad H locs cells slots lz hI hls hst.2.2 hlv | exact kt (by simpa using hc) (by rw [if_pos (by simpa using hc)] at h; exact h) ad H locs cells slots lz hI hls hst.2.2 hlv
  · first | exact kf hc (by rw [if_neg hc] at h; exact h) ad H locs cells slots lz hI hls hst.2.2 hlv | exact kf (by simpa using hc) (by rw [if_neg (by simpa using hc)] at h; exact h) ad H locs cells slots lz hI hls hst.2.2 hlv
theorem xg_if_ge (B : xj_B l y0 cc nL ret hs d z) {x : Int32} {off : Int} {tgt : Nat} {P P' : Option xj_R} (hd : decode cc pc = .ok (.ifCond .ge off, 3)) (ht : (pc : Int) + off = (tgt : Int)) (h : (if 0 ≤ x then P else P') = some (xf_r z)) (kt : 0 ≤ x → P = some (xf_r z) → xj_W l z tgt ls st A) (kf : ¬ (0 ≤ x) → P' = some (xf_r z) → xj_W l z (pc + 3) ls st A) : xj_W l z pc ls (.int x :: st) A := by
  intro ad H locs cells slots lz hI hls hst hlv
  refine lv_if_ge B.1 B.2.1 hd ht (fun hc => ?_) (fun hc => ?_)
  · first | exact kt hc (by rw [if_pos hc] at h; exact h) ad H locs cells slots lz hI hls hst.2 hlv | exact kt (by simpa using hc) (by rw [if_pos (by simpa using hc)] at h; exact h) ad H locs cells slots lz hI hls hst.2 hlv
  · first | exact kf hc (by rw [if_neg hc] at h; exact h) ad H locs cells slots lz hI hls hst.2 hlv | exact kf (by simpa using hc) (by rw [if_neg (by simpa using hc)] at h; exact h) ad H locs cells slots lz hI hls hst.2 hlv
theorem xg_icmp_ge (B : xj_B l y0 cc nL ret hs d z) {x y : Int32} {off : Int} {tgt : Nat} {P P' : Option xj_R} (hd : decode cc pc = .ok (.if_icmp .ge off, 3)) (ht : (pc : Int) + off = (tgt : Int)) (h : (if y ≤ x then P else P') = some (xf_r z)) (kt : y ≤ x → P = some (xf_r z) → xj_W l z tgt ls st A) (kf : ¬ (y ≤ x) → P' = some (xf_r z) → xj_W l z (pc + 3) ls st A) : xj_W l z pc ls (.int y :: .int x :: st) A := by
  intro ad H locs cells slots lz hI hls hst hlv
  refine lv_icmp_ge B.1 B.2.1 hd ht (fun hc => ?_) (fun hc => ?_)
  · first | exact kt hc (by rw [if_pos hc] at h; exact h) ad H locs cells slots lz hI hls hst.2.2 hlv | exact kt (by simpa using hc) (by rw [if_pos (by simpa using hc)] at h; exact h) ad H locs cells slots lz hI hls hst.2.2 hlv
  · first | exact kf hc (by rw [if_neg hc] at h; exact h) ad H locs cells slots lz hI hls hst.2.2 hlv | exact kf (by simpa using hc) (by rw [if_neg (by simpa using hc)] at h; exact h) ad H locs cells slots lz hI hls hst.2.2 hlv
theorem xg_if_gt (B : xj_B l y0 cc nL ret hs d z) {x : Int32} {off : Int} {tgt : Nat} {P P' : Option xj_R} (hd : decode cc pc = .ok (.ifCond .gt off, 3)) (ht : (pc : Int) + off = (tgt : Int)) (h : (if 0 < x then P else P') = some (xf_r z)) (kt : 0 < x → P = some (xf_r z) → xj_W l z tgt ls st A) (kf : ¬ (0 < x) → P' = some (xf_r z) → xj_W l z (pc + 3) ls st A) : xj_W l z pc ls (.int x :: st) A := by
  intro ad H locs cells slots lz hI hls hst hlv
  refine lv_if_gt B.1 B.2.1 hd ht (fun hc => ?_) (fun hc => ?_)
  · first | exact kt hc (by rw [if_pos hc] at h; exact h) ad H locs cells slots lz hI hls hst.2 hlv | exact kt (by simpa using hc) (by rw [if_pos (by simpa using hc)] at h; exact h) ad H locs cells slots lz hI hls hst.2 hlv
  · first | exact kf hc (by rw [if_neg hc] at h; exact h) ad H locs cells slots lz hI hls hst.2 hlv | exact kf (by simpa using hc) (by rw [if_neg (by simpa using hc)] at h; exact h) ad H locs cells slots lz hI hls hst.2 hlv
theorem xg_icmp_gt (B : xj_B l y0 cc nL ret hs d z) {x y : Int32} {off : Int} {tgt : Nat} {P P' : Option xj_R} (hd : decode cc pc = .ok (.if_icmp .gt off, 3)) (ht : (pc : Int) + off = (tgt : Int)) (h : (if y < x then P else P') = some (xf_r z)) (kt : y < x → P = some (xf_r z) → xj_W l z tgt ls st A) (kf : ¬ (y < x) → P' = some (xf_r z) → xj_W l z (pc + 3) ls st A) : xj_W l z pc ls (.int y :: .int x :: st) A := by
  intro ad H locs cells slots lz hI hls hst hlv
  refine lv_icmp_gt B.1 B.2.1 hd ht (fun hc => ?_) (fun hc => ?_)
  · first | exact kt hc (by rw [if_pos hc] at h; exact h) ad H locs cells slots lz hI hls hst.2.2 hlv | exact kt (by simpa using hc) (by rw [if_pos (by simpa using hc)] at h; exact h) ad H locs cells slots lz hI hls hst.2.2 hlv
  · first | exact kf hc (by rw [if_neg hc] at h; exact h) ad H locs cells slots lz hI hls hst.2.2 hlv | exact kf (by simpa using hc) (by rw [if_neg (by simpa using hc)] at h; exact h) ad H locs cells slots lz hI hls hst.2.2 hlv
theorem xg_if_le (B : xj_B l y0 cc nL ret hs d z) {x : Int32} {off : Int} {tgt : Nat} {P P' : Option xj_R} (hd : decode cc pc = .ok (.ifCond .le off, 3)) (ht : (pc : Int) + off = (tgt : Int)) (h : (if x ≤ 0 then P else P') = some (xf_r z)) (kt : x ≤ 0 → P = some (xf_r z) → xj_W l z tgt ls st A) (kf : ¬ (x ≤ 0) → P' = some (xf_r z) → xj_W l z (pc + 3) ls st A) : xj_W l z pc ls (.int x :: st) A := by
  intro ad H locs cells slots lz hI hls hst hlv
  refine lv_if_le B.1 B.2.1 hd ht (fun hc => ?_) (fun hc => ?_)
  · first | exact kt hc (by rw [if_pos hc] at h; exact h) ad H locs cells slots lz hI hls hst.2 hlv | exact kt (by simpa using hc) (by rw [if_pos (by simpa using hc)] at h; exact h) ad H locs cells slots lz hI hls hst.2 hlv
  · first | exact kf hc (by rw [if_neg hc] at h; exact h) ad H locs cells slots lz hI hls hst.2 hlv | exact kf (by simpa using hc) (by rw [if_neg (by simpa using hc)] at h; exact h) ad H locs cells slots lz hI hls hst.2 hlv
theorem xg_icmp_le (B : xj_B l y0 cc nL ret hs d z) {x y : Int32} {off : Int} {tgt : Nat} {P P' : Option xj_R} (hd : decode cc pc = .ok (.if_icmp .le off, 3)) (ht : (pc : Int) + off = (tgt : Int)) (h : (if x ≤ y then P else P') = some (xf_r z)) (kt : x ≤ y → P = some (xf_r z) → xj_W l z tgt ls st A) (kf : ¬ (x ≤ y) → P' = some (xf_r z) → xj_W l z (pc + 3) ls st A) : xj_W l z pc ls (.int y :: .int x :: st) A := by
  intro ad H locs cells slots lz hI hls hst hlv
  refine lv_icmp_le B.1 B.2.1 hd ht (fun hc => ?_) (fun hc => ?_)
  · first | exact kt hc (by rw [if_pos hc] at h; exact h) ad H locs cells slots lz hI hls hst.2.2 hlv | exact kt (by simpa using hc) (by rw [if_pos (by simpa using hc)] at h; exact h) ad H locs cells slots lz hI hls hst.2.2 hlv
  · first | exact kf hc (by rw [if_neg hc] at h; exact h) ad H locs cells slots lz hI hls hst.2.2 hlv | exact kf (by simpa using hc) (by rw [if_neg (by simpa using hc)] at h; exact h) ad H locs cells slots lz hI hls hst.2.2 hlv
theorem xg_goto (B : xj_B l y0 cc nL ret hs d z) {off : Int} {tgt : Nat} (hd : decode cc pc = .ok (.goto off, 3)) (ht : (pc : Int) + off = (tgt : Int)) (k : xj_W l z tgt ls st A) : xj_W l z pc ls st A := by
  intro ad H locs cells slots lz hI hls hst hlv
  exact lv_goto B.1 B.2.1 hd ht (k ad H locs cells slots lz hI hls hst hlv)
theorem xg_ifnull (B : xj_B l y0 cc nL ret hs d z) {r : xj_Rf} {off : Int} {tgt : Nat} {P P' : Option xj_R} (hd : decode cc pc = .ok (.ifnull off, 3)) (ht : (pc : Int) + off = (tgt : Int)) (h : (if r = none then P else P') = some (xf_r z)) (kt : r = none → P = some (xf_r z) → xj_W l z tgt ls st A) (kf : ¬ (r = none) → P' = some (xf_r z) → xj_W l z (pc + 3) ls st A) : xj_W l z pc ls (xj_rv r :: st) A := by
  intro ad H locs cells slots lz hI hls hst hlv
  match r with
  | none => exact lv_ifnullN B.1 B.2.1 hd ht (kt rfl (by simpa using h) ad H locs cells slots lz hI hls hst.2 hlv)
  | some (.inl j) => exact lv_ifnull B.1 B.2.1 hd (kf (by simp) (by simpa using h) ad H locs cells slots lz hI hls hst.2 hlv)
  | some (.inr j) => exact lv_ifnull B.1 B.2.1 hd (kf (by simp) (by simpa using h) ad H locs cells slots lz hI hls hst.2 hlv)
theorem xg_ifnonnull (B : xj_B l y0 cc nL ret hs d z) {r : xj_Rf} {off : Int} {tgt : Nat} {P P' : Option xj_R} (hd : decode cc pc = .ok (.ifnonnull off, 3)) (ht : (pc : Int) + off = (tgt : Int)) (h : (if ¬ r = none then P else P') = some (xf_r z)) (kt : ¬ r = none → P = some (xf_r z) → xj_W l z tgt ls st A) (kf : ¬ (¬ r = none) → P' = some (xf_r z) → xj_W l z (pc + 3) ls st A) : xj_W l z pc ls (xj_rv r :: st) A := by
  intro ad H locs cells slots lz hI hls hst hlv
  match r with
  | none => exact lv_ifnonnullN B.1 B.2.1 hd (kf (by simp) (by simpa using h) ad H locs cells slots lz hI hls hst.2 hlv)
  | some (.inl j) => exact lv_ifnonnull B.1 B.2.1 hd ht (kt (by simp) (by simpa using h) ad H locs cells slots lz hI hls hst.2 hlv)
  | some (.inr j) => exact lv_ifnonnull B.1 B.2.1 hd ht (kt (by simp) (by simpa using h) ad H locs cells slots lz hI hls hst.2 hlv)
end Xrows
end
section
section Xheap
variable {l : Launch} {z : xj_F} {y0 : MethodName} {cc : ByteArray} {nL : Nat} {ret : Option FieldType} {hs : List (Nat × Nat × Nat × Nat)} {d pc : Nat} {ls : List (Nat × Value)} {st : List Value} {A : xj_H}
theorem xw_mono {p : Program} {e : Env} {R : Room} {s : State} {m : MethodId} {args : Array Value} {below : List Frame} {meth : Method} {c : Code} {H : Heap} {locs : List Loc} {cells slots : Nat} {Q Q' : State → Prop} {g : JFrame}
    (h : W p l e R s m args below meth c H locs cells slots Q g) (hq : ∀ t, Q t → Q' t) : W p l e R s m args below meth c H locs cells slots Q' g := fun T hT X => by
  obtain ⟨t, a, b⟩ := h T hT X
  exact ⟨t, a, hq t b⟩
theorem xj_gv_inv {o : xj_Rf} {ci k : Nat} {v : Value} (h : xj_gv A o ci k = some v) : ∃ (a : Nat) (fs : List Value), o = some (.inl a) ∧ A.1[a]? = some (.inr (ci, fs)) ∧ fs[k]? = some v := by
  unfold xj_gv at h
  split at h
  · rename_i a
    split at h
    · rename_i q hq
      by_cases hc : q.1 = ci
      · rw [if_pos hc] at h
        exact ⟨a, q.2, rfl, by rw [hq, ← hc], h⟩
      · rw [if_neg hc] at h
        cases h
    · cases h
  · cases h
theorem xj_gi_inv {o : xj_Rf} {ci k : Nat} {x : Int32} (h : xj_gi A o ci k = some x) : xj_gv A o ci k = some (.int x) := by
  unfold xj_gi at h
  split at h
  · rename_i y hy
    cases h
    exact hy
  · cases h
theorem xj_gl_inv {o : xj_Rf} {ci k : Nat} {x : Int64} (h : xj_gl A o ci k = some x) : xj_gv A o ci k = some (.long x) := by
  unfold xj_gl at h
  split at h
  · rename_i y hy
    cases h
    exact hy
  · cases h
theorem xj_vr_inv {v : Value} {r : xj_Rf} (h : xj_vr v = some r) : v = xj_rv r := by
  cases v <;> simp only [xj_vr, Option.some.injEq, reduceCtorEq] at h <;> subst h <;> rfl
theorem xj_gr_inv {o : xj_Rf} {ci k : Nat} {r : xj_Rf} (h : xj_gr A o ci k = some r) : xj_gv A o ci k = some (xj_rv r) := by
  unfold xj_gr at h
  obtain ⟨v, h1, h2⟩ := Option.bind_eq_some_iff.mp h
  rw [h1, xj_vr_inv h2]
def xj_fl (own : String) (index ci k : Nat) : Prop := ∃ (C : String) (T : u_T) (N : Nat), xj_cl[ci]? = some (C, T, N) ∧ k < N ∧ (∀ w ∈ u_ws C T N, w ∈ xj_ws) ∧
  (Cond.fieldLink own index (T k).1 (T k).2.1 (T k).2.2.1 ∈ xj_ws ∨ ∃ host, Cond.fieldLinkNest own index (T k).1 (T k).2.1 (T k).2.2.1 host ∈ xj_nw)
theorem xj_mem_wc {ad : Nat → Nat} {H : Heap} {locs : List Loc} {cells slots : Nat} (hI : xj_I z ad A H locs cells slots) {a : Nat} {x : xj_C} (h : A.1[a]? = some x) : xj_wc A.1.length x := hI.2.2.2.2.1 x (List.mem_of_getElem? h)
theorem xg_getv (B : xj_B l y0 cc nL ret hs d z) {o : xj_Rf} {ci k index : Nat} {v : Value} (hd : decode cc pc = .ok (.getfield index, 3)) (hf : xj_fl y0.cls index ci k) (hv : xj_gv A o ci k = some v) (kk : xj_W l z (pc + 3) ls (v :: st) A) : xj_W l z pc ls (xj_rv o :: st) A := by
  intro ad H locs cells slots lz hI hls hst hlv
  obtain ⟨a, fs, rfl, ha, hk⟩ := xj_gv_inv hv
  obtain ⟨C, T, N, hc, hN, hin, hlk⟩ := hf
  obtain ⟨hx, hb, hml, hr, hlo, htab, hown, hnm, hT, hK, hrest⟩ := B
  have he : (xj_w (xf_g z) ad A.1)[a]? = some (ad a, .inr (ci, fs.map (xj_v (xf_g z) ad))) := xj_w_at ha
  have hv' : (fs.map (xj_v (xf_g z) ad))[k]? = some (xj_v (xf_g z) ad v) := by rw [List.getElem?_map, hk]; rfl
  have hw : xj_wv A.1.length v := (xj_mem_wc hI ha) v (List.mem_of_getElem? hk)
  have hkk := kk ad H locs cells slots lz hI hls ⟨hw, hst.2⟩ hlv
  rcases hlk with hlk | ⟨host, hlk⟩
  · exact va_get (Ts := xj_ws) hx hb (fun w h => hT.1 w h _) hin hown hK hI.2.2.1 a he hc k hN (hT.1 _ hlk _) (fun _ h => h) hv' hd hkk
  · exact va_getN (Ts := xj_ws) hx hb (fun w h => hT.1 w h _) hin hown hK hI.2.2.1 a he hc k hN (va_Nw.use rfl (hT.2 _ hlk)) (fun _ h => h) hv' hd hkk
theorem xg_geti (B : xj_B l y0 cc nL ret hs d z) {o : xj_Rf} {ci k index : Nat} {K : Int32 → Option xj_R} (hd : decode cc pc = .ok (.getfield index, 3)) (hf : xj_fl y0.cls index ci k) (h : (xj_gi A o ci k).bind K = some (xf_r z)) (kk : ∀ x, xj_gi A o ci k = some x → K x = some (xf_r z) → xj_W l z (pc + 3) ls (.int x :: st) A) : xj_W l z pc ls (xj_rv o :: st) A := by
  obtain ⟨x, h1, h2⟩ := Option.bind_eq_some_iff.mp h
  exact xg_getv B hd hf (xj_gi_inv h1) (kk x h1 h2)
theorem xg_getl (B : xj_B l y0 cc nL ret hs d z) {o : xj_Rf} {ci k index : Nat} {K : Int64 → Option xj_R} (hd : decode cc pc = .ok (.getfield index, 3)) (hf : xj_fl y0.cls index ci k) (h : (xj_gl A o ci k).bind K = some (xf_r z)) (kk : ∀ x, xj_gl A o ci k = some x → K x = some (xf_r z) → xj_W l z (pc + 3) ls (.long x :: st) A) : xj_W l z pc ls (xj_rv o :: st) A := by
  obtain ⟨x, h1, h2⟩ := Option.bind_eq_some_iff.mp h
  exact xg_getv B hd hf (xj_gl_inv h1) (kk x h1 h2)
theorem xg_getr (B : xj_B l y0 cc nL ret hs d z) {o : xj_Rf} {ci k index : Nat} {K : xj_Rf → Option xj_R} (hd : decode cc pc = .ok (.getfield index, 3)) (hf : xj_fl y0.cls index ci k) (h : (xj_gr A o ci k).bind K = some (xf_r z)) (kk : ∀ x, xj_gr A o ci k = some x → K x = some (xf_r z) → xj_W l z (pc + 3) ls (xj_rv x :: st) A) : xj_W l z pc ls (xj_rv o :: st) A := by
  obtain ⟨x, h1, h2⟩ := Option.bind_eq_some_iff.mp h
  exact xg_getv B hd hf (xj_gr_inv h1) (kk x h1 h2)
/-! Writing. -/
theorem xj_I_set {ad : Nat → Nat} {H H1 : Heap} {locs locs1 : List Loc} {cells slots a : Nat} {x : xj_C} (hI : xj_I z ad A H locs cells slots) (hx : xj_wc A.1.length x)
    (hP : va_P (xf_g z).1 xj_cl ((xj_w (xf_g z) ad A.1).set a (ad a, xj_c (xf_g z) ad x)) H1) (hD : va_D (xj_al (xf_g z) (xf_d z) (xf_H z) (xf_s z)) ((xj_w (xf_g z) ad A.1).set a (ad a, xj_c (xf_g z) ad x)))
    (hS : va_S (xj_al (xf_g z) (xf_d z) (xf_H z) (xf_s z)) (xf_s z).heap H1 locs1) : xj_I z ad (A.1.set a x, A.2) H1 locs1 cells slots := by
  rw [xj_w_set] at hP hD
  refine ⟨hI.1, by simpa using hI.2.1, hP, hD, fun q hq => ?_, hS, hI.2.2.2.2.2.2.1, hI.2.2.2.2.2.2.2⟩
  have hl : (A.1.set a x).length = A.1.length := List.length_set
  show xj_wc (A.1.set a x).length q
  rw [hl]
  rcases List.mem_or_eq_of_mem_set hq with h | rfl
  · exact hI.2.2.2.2.1 q h
  · exact hx
theorem xj_len_set {a : Nat} {x : xj_C} : ((A.1.set a x, A.2) : xj_H).1.length = A.1.length := List.length_set
theorem xj_pv_inv {o : xj_Rf} {ci k : Nat} {v : Value} {A' : xj_H} (h : xj_pv A o ci k v = some A') : ∃ (a : Nat) (fs : List Value), o = some (.inl a) ∧ A.1[a]? = some (.inr (ci, fs)) ∧ k < fs.length ∧ A' = (A.1.set a (.inr (ci, fs.set k v)), A.2) := by
  unfold xj_pv at h
  split at h
  · rename_i a
    split at h
    · rename_i q hq
      by_cases hc : q.1 = ci ∧ k < q.2.length
      · rw [if_pos hc] at h
        exact ⟨a, q.2, rfl, by rw [hq, ← hc.1], hc.2, (Option.some.inj h).symm⟩
      · rw [if_neg hc] at h
        cases h
    · cases h
  · cases h
def xj_fp (own name : String) (index ci k : Nat) (ty : FieldType) : Prop := ∃ (C : String) (T : u_T) (N : Nat) (ty0 : Nat → FieldType), xj_cl[ci]? = some (C, T, N) ∧ k < N ∧ (∀ w ∈ u_ws C T N, w ∈ xj_ws) ∧ (∀ j, j < N → parseFieldDescriptor (T j).2.2.1 = some (ty0 j)) ∧ (∀ a, a < N → ∀ b, b < N → a ≠ b → (T a).2.1 ≠ (T b).2.1) ∧
  parseFieldDescriptor (T k).2.2.1 = some ty ∧ ((Cond.fieldLink own index (T k).1 (T k).2.1 (T k).2.2.1 ∈ xj_ws ∧ ((T k).2.2.2 = false ∨ ((T k).2.2.2 = true ∧ name = "<init>" ∧ (T k).1 = own))) ∨ ((T k).2.2.2 = false ∧ ∃ host, Cond.fieldLinkNest own index (T k).1 (T k).2.1 (T k).2.2.1 host ∈ xj_nw))
theorem xg_putv (B : xj_B l y0 cc nL ret hs d z) {o : xj_Rf} {ci k index : Nat} {v : Value} {ty : FieldType} {A' : xj_H} (hd : decode cc pc = .ok (.putfield index, 3)) (hf : xj_fp y0.cls y0.name index ci k ty) (hn : ∀ ad, narrow ty (xj_v (xf_g z) ad v) = xj_v (xf_g z) ad v) (hfit : ∀ ad, fits ty (xj_v (xf_g z) ad v) = true) (hv : xj_pv A o ci k v = some A') (kk : xj_W l z (pc + 3) ls st A') : xj_W l z pc ls (v :: xj_rv o :: st) A := by
  intro ad H locs cells slots lz hI hls hst hlv
  obtain ⟨a, fs, rfl, ha, hk, rfl⟩ := xj_pv_inv hv
  obtain ⟨C, T, N, ty0, hc, hN, hin, hty, hnm0, hd0, hlk⟩ := hf
  obtain ⟨hx, hb, hml, hr, hlo, htab, hown, hnm, hT, hK, hrest⟩ := B
  have he : (xj_w (xf_g z) ad A.1)[a]? = some (ad a, .inr (ci, fs.map (xj_v (xf_g z) ad))) := xj_w_at ha
  have hw : xj_wc A.1.length (.inr (ci, fs.set k v)) := by
    intro w hw
    rcases List.mem_or_eq_of_mem_set hw with h | rfl
    · exact (xj_mem_wc hI ha) w h
    · exact hst.1
  have hkk : ∀ (H1 : Heap) (locs1 : List Loc), va_P (xf_g z).1 xj_cl ((xj_w (xf_g z) ad A.1).set a (ad a, .inr (ci, (fs.map (xj_v (xf_g z) ad)).set k (xj_v (xf_g z) ad v)))) H1 → va_D (xj_al (xf_g z) (xf_d z) (xf_H z) (xf_s z)) ((xj_w (xf_g z) ad A.1).set a (ad a, .inr (ci, (fs.map (xj_v (xf_g z) ad)).set k (xj_v (xf_g z) ad v)))) → va_S (xj_al (xf_g z) (xf_d z) (xf_H z) (xf_s z)) (xf_s z).heap H1 locs1 →
      W (xf_p z) l (xf_e z) (xf_R z) (xf_s z) (xf_m z) (xf_a z) (xf_b z) (xf_t z) (xf_c z) H1 locs1 cells slots (xj_Q z) (F0 (xf_m z) (pc + 3) lz (st.map (xj_v (xf_g z) ad))) := by
    intro H1 locs1 h1 h2 h3
    rw [← List.map_set] at h1 h2
    exact kk ad H1 locs1 cells slots lz (xj_I_set (x := .inr (ci, fs.set k v)) hI hw h1 h2 h3) (by rw [xj_len_set]; exact hls) (by rw [xj_len_set]; exact hst.2.2) hlv
  have hl' : k < (fs.map (xj_v (xf_g z) ad)).length := by rw [List.length_map]; exact hk
  rcases hlk with ⟨hlk, hfin | ⟨hfin, hinit, hdecl⟩⟩ | ⟨hfin, host, hlk⟩
  · exact va_put (Ts := xj_ws) hx hb (fun w h => hT.1 w h _) hin ty0 hty hnm0 hown hK hI.2.2.1 hI.2.2.2.1 hI.2.2.2.2.2.1 a he hc k hN (hT.1 _ hlk _) (fun _ h => h) hfin hd0 (hn ad) (hfit ad) hl' hd hkk
  · exact va_putF (Ts := xj_ws) hx hb (fun w h => hT.1 w h _) hin ty0 hty hnm0 hown hK hI.2.2.1 hI.2.2.2.1 hI.2.2.2.2.2.1 a he hc k hN (hT.1 _ hlk _) (fun _ h => h) hfin (by rw [hnm]; exact hinit) hdecl hd0 (hn ad) (hfit ad) hl' hd hkk
  · exact va_putN (Ts := xj_ws) hx hb (fun w h => hT.1 w h _) hin ty0 hty hnm0 hown hK hI.2.2.1 hI.2.2.2.1 hI.2.2.2.2.2.1 a he hc k hN (va_Nw.use rfl (hT.2 _ hlk)) (fun _ h => h) hfin hd0 (hn ad) (hfit ad) hl' hd hkk
theorem xg_puti (B : xj_B l y0 cc nL ret hs d z) {o : xj_Rf} {ci k index : Nat} {x : Int32} {K : xj_H → Option xj_R} (hd : decode cc pc = .ok (.putfield index, 3)) (hf : xj_fp y0.cls y0.name index ci k .int) (h : (xj_pv A o ci k (.int x)).bind K = some (xf_r z)) (kk : ∀ A', xj_pv A o ci k (.int x) = some A' → K A' = some (xf_r z) → xj_W l z (pc + 3) ls st A') : xj_W l z pc ls (.int x :: xj_rv o :: st) A := by
  obtain ⟨A', h1, h2⟩ := Option.bind_eq_some_iff.mp h
  exact xg_putv B hd hf (fun _ => rfl) (fun _ => rfl) h1 (kk A' h1 h2)
theorem xg_putl (B : xj_B l y0 cc nL ret hs d z) {o : xj_Rf} {ci k index : Nat} {x : Int64} {K : xj_H → Option xj_R} (hd : decode cc pc = .ok (.putfield index, 3)) (hf : xj_fp y0.cls y0.name index ci k .long) (h : (xj_pv A o ci k (.long x)).bind K = some (xf_r z)) (kk : ∀ A', xj_pv A o ci k (.long x) = some A' → K A' = some (xf_r z) → xj_W l z (pc + 3) ls st A') : xj_W l z pc ls (.long x :: xj_rv o :: st) A := by
  obtain ⟨A', h1, h2⟩ := Option.bind_eq_some_iff.mp h
  exact xg_putv B hd hf (fun _ => rfl) (fun _ => rfl) h1 (kk A' h1 h2)
theorem xg_putz (B : xj_B l y0 cc nL ret hs d z) {o : xj_Rf} {ci k index : Nat} {x : Int32} {K : xj_H → Option xj_R} (hd : decode cc pc = .ok (.putfield index, 3)) (hf : xj_fp y0.cls y0.name index ci k .boolean) (h : (xj_pz A o ci k x).bind K = some (xf_r z)) (kk : ∀ A', xj_pz A o ci k x = some A' → K A' = some (xf_r z) → xj_W l z (pc + 3) ls st A') : xj_W l z pc ls (.int x :: xj_rv o :: st) A := by
  obtain ⟨A', h1, h2⟩ := Option.bind_eq_some_iff.mp h
  have h3 := h1
  unfold xj_pz at h3
  by_cases hz : x = 0 ∨ x = 1
  · rw [if_pos hz] at h3
    refine xg_putv B hd hf (fun _ => ?_) (fun _ => ?_) h3 (kk A' h1 h2)
    · rcases hz with rfl | rfl <;> rfl
    · rcases hz with rfl | rfl <;> rfl
  · rw [if_neg hz] at h3
    cases h3
theorem xg_putr (B : xj_B l y0 cc nL ret hs d z) {o r : xj_Rf} {ci k index : Nat} {ty : FieldType} (hty : (∃ n, ty = .object n) ∨ ∃ t, ty = .array t) {K : xj_H → Option xj_R} (hd : decode cc pc = .ok (.putfield index, 3)) (hf : xj_fp y0.cls y0.name index ci k ty) (h : (xj_pv A o ci k (xj_rv r)).bind K = some (xf_r z)) (kk : ∀ A', xj_pv A o ci k (xj_rv r) = some A' → K A' = some (xf_r z) → xj_W l z (pc + 3) ls st A') : xj_W l z pc ls (xj_rv r :: xj_rv o :: st) A := by
  obtain ⟨A', h1, h2⟩ := Option.bind_eq_some_iff.mp h
  refine xg_putv B hd hf (fun _ => ?_) (fun _ => ?_) h1 (kk A' h1 h2)
  · rcases hty with ⟨n, rfl⟩ | ⟨t, rfl⟩ <;> (match r with
    | none => rfl
    | some (.inl _) => rfl
    | some (.inr _) => rfl)
  · rcases hty with ⟨n, rfl⟩ | ⟨t, rfl⟩ <;> (match r with
    | none => rfl
    | some (.inl _) => rfl
    | some (.inr _) => rfl)
/-! Arrays. -/
theorem xj_ar_inv {o : xj_Rf} {t n : Nat} {f : Nat → Int32} (h : xj_ar A o t = some (n, f)) : ∃ a, o = some (.inl a) ∧ A.1[a]? = some (.inl (t, n, .inl f)) := by
  unfold xj_ar at h
  split at h
  · rename_i a
    split at h
    · rename_i t' n' f' hq
      by_cases hc : t' = t
      · rw [if_pos hc] at h
        cases h
        exact ⟨a, rfl, by rw [hq, hc]⟩
      · rw [if_neg hc] at h
        cases h
    · cases h
  · cases h
theorem xj_ai_inv {o : xj_Rf} {t : Nat} {i x : Int32} (h : xj_ai A o t i = some x) : ∃ (a n : Nat) (f : Nat → Int32), o = some (.inl a) ∧ A.1[a]? = some (.inl (t, n, .inl f)) ∧ vp_in i n ∧ x = f i.toNatClampNeg := by
  unfold xj_ai at h
  obtain ⟨⟨n, f⟩, h1, h2⟩ := Option.bind_eq_some_iff.mp h
  obtain ⟨a, ho, ha⟩ := xj_ar_inv h1
  by_cases hc : i < 0 ∨ n ≤ i.toNatClampNeg
  · rw [if_pos hc] at h2
    cases h2
  · rw [if_neg hc] at h2
    exact ⟨a, n, f, ho, ha, hc, (Option.some.inj h2).symm⟩
theorem xj_as_inv {o : xj_Rf} {t : Nat} {i x : Int32} {A' : xj_H} (h : xj_as A o t i x = some A') : ∃ (a n : Nat) (f : Nat → Int32), o = some (.inl a) ∧ A.1[a]? = some (.inl (t, n, .inl f)) ∧ vp_in i n ∧ A' = (A.1.set a (.inl (t, n, .inl (upd f i.toNatClampNeg x))), A.2) := by
  unfold xj_as at h
  split at h
  · rename_i a
    split at h
    · rename_i t' n f hq
      by_cases hc : t' = t ∧ ¬ (i < 0 ∨ n ≤ i.toNatClampNeg)
      · rw [if_pos hc] at h
        exact ⟨a, n, f, rfl, by rw [hq, hc.1], hc.2, (Option.some.inj h).symm⟩
      · rw [if_neg hc] at h
        cases h
    · cases h
  · cases h
theorem xg_iaload (B : xj_B l y0 cc nL ret hs d z) {o : xj_Rf} {i : Int32} {K : Int32 → Option xj_R} (hd : decode cc pc = .ok (.iaload, 1)) (h : (xj_ai A o 0 i).bind K = some (xf_r z)) (kk : ∀ x, xj_ai A o 0 i = some x → K x = some (xf_r z) → xj_W l z (pc + 1) ls (.int x :: st) A) : xj_W l z pc ls (.int i :: xj_rv o :: st) A := by
  obtain ⟨x, h1, h2⟩ := Option.bind_eq_some_iff.mp h
  have k := kk x h1 h2
  obtain ⟨a, n, f, rfl, ha, hin, rfl⟩ := xj_ai_inv h1
  intro ad H locs cells slots lz hI hls hst hlv
  obtain ⟨hx, hb, hml, hr, hlo, htab, hown, hnm, hT, hK, hrest⟩ := B
  have he : (xj_w (xf_g z) ad A.1)[a]? = some (ad a, .inl ((xf_g z).2.1 0, n, .inl f)) := xj_w_at ha
  exact va_iald hx hb hK hI.2.2.1 a 0 he rfl hin hd (k ad H locs cells slots lz hI hls ⟨trivial, hst.2.2⟩ hlv)
theorem xg_iastore (B : xj_B l y0 cc nL ret hs d z) {o : xj_Rf} {i x : Int32} {K : xj_H → Option xj_R} (hd : decode cc pc = .ok (.iastore, 1)) (h : (xj_as A o 0 i (x)).bind K = some (xf_r z)) (kk : ∀ A', xj_as A o 0 i (x) = some A' → K A' = some (xf_r z) → xj_W l z (pc + 1) ls st A') : xj_W l z pc ls (.int x :: .int i :: xj_rv o :: st) A := by
  obtain ⟨A', h1, h2⟩ := Option.bind_eq_some_iff.mp h
  have k := kk A' h1 h2
  obtain ⟨a, n, f, rfl, ha, hin, rfl⟩ := xj_as_inv h1
  intro ad H locs cells slots lz hI hls hst hlv
  obtain ⟨hx, hb, hml, hr, hlo, htab, hown, hnm, hT, hK, hrest⟩ := B
  have he : (xj_w (xf_g z) ad A.1)[a]? = some (ad a, .inl ((xf_g z).2.1 0, n, .inl f)) := xj_w_at ha
  refine va_iast hx hb hK hI.2.2.1 hI.2.2.2.1 hI.2.2.2.2.2.1 a 0 he rfl hin hd (fun H1 locs1 g1 g2 g3 => ?_)
  exact k ad H1 locs1 cells slots lz (xj_I_set (x := .inl (0, n, .inl (upd f i.toNatClampNeg (x)))) hI trivial g1 g2 g3) (by rw [xj_len_set]; exact hls) (by rw [xj_len_set]; exact hst.2.2.2) hlv
theorem xg_caload (B : xj_B l y0 cc nL ret hs d z) {o : xj_Rf} {i : Int32} {K : Int32 → Option xj_R} (hd : decode cc pc = .ok (.caload, 1)) (h : (xj_ai A o 1 i).bind K = some (xf_r z)) (kk : ∀ x, xj_ai A o 1 i = some x → K x = some (xf_r z) → xj_W l z (pc + 1) ls (.int x :: st) A) : xj_W l z pc ls (.int i :: xj_rv o :: st) A := by
  obtain ⟨x, h1, h2⟩ := Option.bind_eq_some_iff.mp h
  have k := kk x h1 h2
  obtain ⟨a, n, f, rfl, ha, hin, rfl⟩ := xj_ai_inv h1
  intro ad H locs cells slots lz hI hls hst hlv
  obtain ⟨hx, hb, hml, hr, hlo, htab, hown, hnm, hT, hK, hrest⟩ := B
  have he : (xj_w (xf_g z) ad A.1)[a]? = some (ad a, .inl ((xf_g z).2.1 1, n, .inl f)) := xj_w_at ha
  exact va_cald hx hb hK hI.2.2.1 a 1 he rfl hin hd (k ad H locs cells slots lz hI hls ⟨trivial, hst.2.2⟩ hlv)
theorem xg_castore (B : xj_B l y0 cc nL ret hs d z) {o : xj_Rf} {i x : Int32} {K : xj_H → Option xj_R} (hd : decode cc pc = .ok (.castore, 1)) (h : (xj_as A o 1 i (vp_nar .char x)).bind K = some (xf_r z)) (kk : ∀ A', xj_as A o 1 i (vp_nar .char x) = some A' → K A' = some (xf_r z) → xj_W l z (pc + 1) ls st A') : xj_W l z pc ls (.int x :: .int i :: xj_rv o :: st) A := by
  obtain ⟨A', h1, h2⟩ := Option.bind_eq_some_iff.mp h
  have k := kk A' h1 h2
  obtain ⟨a, n, f, rfl, ha, hin, rfl⟩ := xj_as_inv h1
  intro ad H locs cells slots lz hI hls hst hlv
  obtain ⟨hx, hb, hml, hr, hlo, htab, hown, hnm, hT, hK, hrest⟩ := B
  have he : (xj_w (xf_g z) ad A.1)[a]? = some (ad a, .inl ((xf_g z).2.1 1, n, .inl f)) := xj_w_at ha
  refine va_cast hx hb hK hI.2.2.1 hI.2.2.2.1 hI.2.2.2.2.2.1 a 1 he rfl hin hd (fun H1 locs1 g1 g2 g3 => ?_)
  exact k ad H1 locs1 cells slots lz (xj_I_set (x := .inl (1, n, .inl (upd f i.toNatClampNeg (vp_nar .char x)))) hI trivial g1 g2 g3) (by rw [xj_len_set]; exact hls) (by rw [xj_len_set]; exact hst.2.2.2) hlv
theorem xg_zaload (B : xj_B l y0 cc nL ret hs d z) {o : xj_Rf} {i : Int32} {K : Int32 → Option xj_R} (hd : decode cc pc = .ok (.baload, 1)) (h : (xj_ai A o 2 i).bind K = some (xf_r z)) (kk : ∀ x, xj_ai A o 2 i = some x → K x = some (xf_r z) → xj_W l z (pc + 1) ls (.int x :: st) A) : xj_W l z pc ls (.int i :: xj_rv o :: st) A := by
  obtain ⟨x, h1, h2⟩ := Option.bind_eq_some_iff.mp h
  have k := kk x h1 h2
  obtain ⟨a, n, f, rfl, ha, hin, rfl⟩ := xj_ai_inv h1
  intro ad H locs cells slots lz hI hls hst hlv
  obtain ⟨hx, hb, hml, hr, hlo, htab, hown, hnm, hT, hK, hrest⟩ := B
  have he : (xj_w (xf_g z) ad A.1)[a]? = some (ad a, .inl ((xf_g z).2.1 2, n, .inl f)) := xj_w_at ha
  exact va_zald hx hb hK hI.2.2.1 a 2 he rfl hin hd (k ad H locs cells slots lz hI hls ⟨trivial, hst.2.2⟩ hlv)
theorem xg_zastore (B : xj_B l y0 cc nL ret hs d z) {o : xj_Rf} {i x : Int32} {K : xj_H → Option xj_R} (hd : decode cc pc = .ok (.bastore, 1)) (h : (xj_as A o 2 i (vp_nar .boolean x)).bind K = some (xf_r z)) (kk : ∀ A', xj_as A o 2 i (vp_nar .boolean x) = some A' → K A' = some (xf_r z) → xj_W l z (pc + 1) ls st A') : xj_W l z pc ls (.int x :: .int i :: xj_rv o :: st) A := by
  obtain ⟨A', h1, h2⟩ := Option.bind_eq_some_iff.mp h
  have k := kk A' h1 h2
  obtain ⟨a, n, f, rfl, ha, hin, rfl⟩ := xj_as_inv h1
  intro ad H locs cells slots lz hI hls hst hlv
  obtain ⟨hx, hb, hml, hr, hlo, htab, hown, hnm, hT, hK, hrest⟩ := B
  have he : (xj_w (xf_g z) ad A.1)[a]? = some (ad a, .inl ((xf_g z).2.1 2, n, .inl f)) := xj_w_at ha
  refine va_zast hx hb hK hI.2.2.1 hI.2.2.2.1 hI.2.2.2.2.2.1 a 2 he rfl hin hd (fun H1 locs1 g1 g2 g3 => ?_)
  exact k ad H1 locs1 cells slots lz (xj_I_set (x := .inl (2, n, .inl (upd f i.toNatClampNeg (vp_nar .boolean x)))) hI trivial g1 g2 g3) (by rw [xj_len_set]; exact hls) (by rw [xj_len_set]; exact hst.2.2.2) hlv
theorem xj_lai_inv {o : xj_Rf} {i : Int32} {x : Int64} (h : xj_lai A o i = some x) : ∃ (a n : Nat) (f : Nat → Int64), o = some (.inl a) ∧ A.1[a]? = some (.inl (3, n, .inr (.inl f))) ∧ vp_in i n ∧ x = f i.toNatClampNeg := by
  unfold xj_lai at h
  split at h
  · rename_i a
    split at h
    · rename_i t' n f hq
      by_cases hc : t' = 3 ∧ ¬ (i < 0 ∨ n ≤ i.toNatClampNeg)
      · rw [if_pos hc] at h
        exact ⟨a, n, f, rfl, by rw [hq, hc.1], hc.2, (Option.some.inj h).symm⟩
      · rw [if_neg hc] at h
        cases h
    · cases h
  · cases h
theorem xj_las_inv {o : xj_Rf} {i : Int32} {x : Int64} {A' : xj_H} (h : xj_las A o i x = some A') : ∃ (a n : Nat) (f : Nat → Int64), o = some (.inl a) ∧ A.1[a]? = some (.inl (3, n, .inr (.inl f))) ∧ vp_in i n ∧ A' = (A.1.set a (.inl (3, n, .inr (.inl (vp_updL f i.toNatClampNeg x)))), A.2) := by
  unfold xj_las at h
  split at h
  · rename_i a
    split at h
    · rename_i t' n f hq
      by_cases hc : t' = 3 ∧ ¬ (i < 0 ∨ n ≤ i.toNatClampNeg)
      · rw [if_pos hc] at h
        exact ⟨a, n, f, rfl, by rw [hq, hc.1], hc.2, (Option.some.inj h).symm⟩
      · rw [if_neg hc] at h
        cases h
    · cases h
  · cases h
theorem xg_laload (B : xj_B l y0 cc nL ret hs d z) {o : xj_Rf} {i : Int32} {K : Int64 → Option xj_R} (hd : decode cc pc = .ok (.laload, 1)) (h : (xj_lai A o i).bind K = some (xf_r z)) (kk : ∀ x, xj_lai A o i = some x → K x = some (xf_r z) → xj_W l z (pc + 1) ls (.long x :: st) A) : xj_W l z pc ls (.int i :: xj_rv o :: st) A := by
  obtain ⟨x, h1, h2⟩ := Option.bind_eq_some_iff.mp h
  have k := kk x h1 h2
  obtain ⟨a, n, f, rfl, ha, hin, rfl⟩ := xj_lai_inv h1
  intro ad H locs cells slots lz hI hls hst hlv
  obtain ⟨hx, hb, hml, hr, hlo, htab, hown, hnm, hT, hK, hrest⟩ := B
  have he : (xj_w (xf_g z) ad A.1)[a]? = some (ad a, .inl ((xf_g z).2.1 3, n, .inr (.inl f))) := xj_w_at ha
  exact va_lald hx hb hK hI.2.2.1 a 3 he rfl hin hd (k ad H locs cells slots lz hI hls ⟨trivial, hst.2.2⟩ hlv)
theorem xg_lastore (B : xj_B l y0 cc nL ret hs d z) {o : xj_Rf} {i : Int32} {x : Int64} {K : xj_H → Option xj_R} (hd : decode cc pc = .ok (.lastore, 1)) (h : (xj_las A o i x).bind K = some (xf_r z)) (kk : ∀ A', xj_las A o i x = some A' → K A' = some (xf_r z) → xj_W l z (pc + 1) ls st A') : xj_W l z pc ls (.long x :: .int i :: xj_rv o :: st) A := by
  obtain ⟨A', h1, h2⟩ := Option.bind_eq_some_iff.mp h
  have k := kk A' h1 h2
  obtain ⟨a, n, f, rfl, ha, hin, rfl⟩ := xj_las_inv h1
  intro ad H locs cells slots lz hI hls hst hlv
  obtain ⟨hx, hb, hml, hr, hlo, htab, hown, hnm, hT, hK, hrest⟩ := B
  have he : (xj_w (xf_g z) ad A.1)[a]? = some (ad a, .inl ((xf_g z).2.1 3, n, .inr (.inl f))) := xj_w_at ha
  refine va_last hx hb hK hI.2.2.1 hI.2.2.2.1 hI.2.2.2.2.2.1 a 3 he rfl hin hd (fun H1 locs1 g1 g2 g3 => ?_)
  exact k ad H1 locs1 cells slots lz (xj_I_set (x := .inl (3, n, .inr (.inl (vp_updL f i.toNatClampNeg x)))) hI trivial g1 g2 g3) (by rw [xj_len_set]; exact hls) (by rw [xj_len_set]; exact hst.2.2.2) hlv
theorem xj_ral_inv {o : xj_Rf} {i : Int32} {x : xj_Rf} (h : xj_ral A o i = some x) : ∃ (a n : Nat) (f : Nat → Option Nat), o = some (.inl a) ∧ A.1[a]? = some (.inl (4, n, .inr (.inr (.inr (.inr f))))) ∧ vp_in i n ∧ x = (f i.toNatClampNeg).map .inl := by
  unfold xj_ral at h
  split at h
  · rename_i a
    split at h
    · rename_i t' n f hq
      by_cases hc : t' = 4 ∧ ¬ (i < 0 ∨ n ≤ i.toNatClampNeg)
      · rw [if_pos hc] at h
        exact ⟨a, n, f, rfl, by rw [hq, hc.1], hc.2, (Option.some.inj h).symm⟩
      · rw [if_neg hc] at h
        cases h
    · cases h
  · cases h
theorem xj_rf_v (g : xj_G) (ad : Nat → Nat) (r : Option Nat) : va_rf (r.map ad) = xj_v g ad (xj_rv (r.map .inl)) := by cases r <;> rfl
theorem xg_aaload (B : xj_B l y0 cc nL ret hs d z) {o : xj_Rf} {i : Int32} {K : xj_Rf → Option xj_R} (hd : decode cc pc = .ok (.aaload, 1)) (h : (xj_ral A o i).bind K = some (xf_r z)) (kk : ∀ x, xj_ral A o i = some x → K x = some (xf_r z) → xj_W l z (pc + 1) ls (xj_rv x :: st) A) : xj_W l z pc ls (.int i :: xj_rv o :: st) A := by
  obtain ⟨x, h1, h2⟩ := Option.bind_eq_some_iff.mp h
  have k := kk x h1 h2
  obtain ⟨a, n, f, rfl, ha, hin, rfl⟩ := xj_ral_inv h1
  intro ad H locs cells slots lz hI hls hst hlv
  obtain ⟨hx, hb, hml, hr, hlo, htab, hown, hnm, hT, hK, hrest⟩ := B
  have he : (xj_w (xf_g z) ad A.1)[a]? = some (ad a, .inl ((xf_g z).2.1 4, n, .inr (.inr (.inr (.inr (fun i => (f i).map ad)))))) := xj_w_at ha
  have hw : xj_wv A.1.length (xj_rv ((f i.toNatClampNeg).map .inl)) := by
    have h3 := xj_mem_wc hI ha
    cases hf : f i.toNatClampNeg with
    | none => trivial
    | some j => exact h3 _ _ hf
  refine va_aldq hx hb hK hI.2.2.1 a 4 he rfl hin hd ?_
  rw [xj_rf_v (xf_g z)]
  exact k ad H locs cells slots lz hI hls ⟨hw, hst.2.2⟩ hlv
theorem xj_ras_inv {o v : xj_Rf} {i : Int32} {ci : Nat} {A' : xj_H} (h : xj_ras A o i ci v = some A') : ∃ (a b n : Nat) (f : Nat → Option Nat) (vs : List Value), o = some (.inl a) ∧ v = some (.inl b) ∧ A.1[a]? = some (.inl (4, n, .inr (.inr (.inr (.inr f))))) ∧ A.1[b]? = some (.inr (ci, vs)) ∧ vp_in i n ∧ A' = (A.1.set a (.inl (4, n, .inr (.inr (.inr (.inr (va_up f i.toNatClampNeg (some b))))))), A.2) := by
  unfold xj_ras at h
  split at h
  · rename_i a b
    split at h
    · rename_i t' n f q hq hq2
      by_cases hc : t' = 4 ∧ q.1 = ci ∧ ¬ (i < 0 ∨ n ≤ i.toNatClampNeg)
      · rw [if_pos hc] at h
        exact ⟨a, b, n, f, q.2, rfl, rfl, by rw [hq, hc.1], by rw [hq2, ← hc.2.1], hc.2.2, (Option.some.inj h).symm⟩
      · rw [if_neg hc] at h
        cases h
    · cases h
  · cases h
theorem xg_aastore (B : xj_B l y0 cc nL ret hs d z) {o v : xj_Rf} {i : Int32} {ci : Nat} {K : xj_H → Option xj_R} (hci : ∃ r : vw_C, xj_cl[ci]? = some r ∧ r.1 = xj_en) (hd : decode cc pc = .ok (.aastore, 1)) (h : (xj_ras A o i ci v).bind K = some (xf_r z)) (kk : ∀ A', xj_ras A o i ci v = some A' → K A' = some (xf_r z) → xj_W l z (pc + 1) ls st A') : xj_W l z pc ls (xj_rv v :: .int i :: xj_rv o :: st) A := by
  obtain ⟨A', h1, h2⟩ := Option.bind_eq_some_iff.mp h
  have k := kk A' h1 h2
  obtain ⟨a, b, n, f, vs, rfl, rfl, ha, hb2, hin, rfl⟩ := xj_ras_inv h1
  obtain ⟨r, hr1, hr2⟩ := hci
  intro ad H locs cells slots lz hI hls hst hlv
  obtain ⟨hx, hb, hml, hr, hlo, htab, hown, hnm, hT, hK, hrest⟩ := B
  have he : (xj_w (xf_g z) ad A.1)[a]? = some (ad a, .inl ((xf_g z).2.1 4, n, .inr (.inr (.inr (.inr (fun i => (f i).map ad)))))) := xj_w_at ha
  have he2 : (xj_w (xf_g z) ad A.1)[b]? = some (ad b, .inr (ci, vs.map (xj_v (xf_g z) ad))) := xj_w_at hb2
  have hw : xj_wc A.1.length (.inl (4, n, .inr (.inr (.inr (.inr (va_up f i.toNatClampNeg (some b))))))) := by
    intro j q hq
    simp only [va_up] at hq
    by_cases hj : j = i.toNatClampNeg
    · rw [if_pos hj] at hq
      cases hq
      exact (List.getElem?_eq_some_iff.mp hb2).1
    · rw [if_neg hj] at hq
      exact (xj_mem_wc hI ha) j q hq
  refine va_astq hx hb hK hI.2.2.1 hI.2.2.2.1 hI.2.2.2.2.2.1 a 4 b ci he (by rw [hr2]; rfl) he2 hr1 hin hd (fun H1 locs1 g1 g2 g3 => ?_)
  have hup : va_up (fun i => (f i).map ad) i.toNatClampNeg (some (ad b)) = fun j => (va_up f i.toNatClampNeg (some b) j).map ad := by
    funext j
    simp only [va_up]
    by_cases hj : j = i.toNatClampNeg <;> simp [hj]
  rw [hup] at g1 g2
  exact k ad H1 locs1 cells slots lz (xj_I_set (x := .inl (4, n, .inr (.inr (.inr (.inr (va_up f i.toNatClampNeg (some b))))))) hI hw g1 g2 g3) (by rw [xj_len_set]; exact hls) (by rw [xj_len_set]; exact hst.2.2.2) hlv
theorem xg_alen (B : xj_B l y0 cc nL ret hs d z) {o : xj_Rf} {t : Nat} {ty : FieldType} (ht : ∀ g, (xj_tys g)[t]? = some (g.2.1 t, ty)) {K : Int32 → Option xj_R} (hd : decode cc pc = .ok (.arraylength, 1)) (h : (xj_len A o t).bind K = some (xf_r z)) (kk : ∀ x, xj_len A o t = some x → K x = some (xf_r z) → xj_W l z (pc + 1) ls (.int x :: st) A) : xj_W l z pc ls (xj_rv o :: st) A := by
  obtain ⟨x, h1, h2⟩ := Option.bind_eq_some_iff.mp h
  have k := kk x h1 h2
  unfold xj_len at h1
  split at h1
  · rename_i a
    split at h1
    · rename_i t' n y hq
      by_cases hc : t' = t
      · rw [if_pos hc] at h1
        subst hc
        intro ad H locs cells slots lz hI hls hst hlv
        obtain ⟨hx, hb, hml, hr, hlo, htab, hown, hnm, hT, hK, hrest⟩ := B
        have hx1 : ∃ y', xj_c (xf_g z) ad (.inl (t', n, y)) = .inl ((xf_g z).2.1 t', n, y') := by
          match y with
          | .inl f => exact ⟨_, rfl⟩
          | .inr (.inl f) => exact ⟨_, rfl⟩
          | .inr (.inr (.inl f)) => exact ⟨_, rfl⟩
          | .inr (.inr (.inr (.inl f))) => exact ⟨_, rfl⟩
          | .inr (.inr (.inr (.inr f))) => exact ⟨_, rfl⟩
        obtain ⟨y', hy'⟩ := hx1
        have he : (xj_w (xf_g z) ad A.1)[a]? = some (ad a, .inl ((xf_g z).2.1 t', n, y')) := by rw [xj_w_at hq, hy']
        exact va_alen hx hb hK hI.2.2.1 a t' (x := (n, y')) he (ht _) (Option.some.inj h1) hd (k ad H locs cells slots lz hI hls ⟨trivial, hst.2⟩ hlv)
      · rw [if_neg hc] at h1
        cases h1
    · cases h1
  · cases h1
end Xheap
end
section
section Xends
variable {l : Launch} {z : xj_F} {y0 : MethodName} {cc : ByteArray} {nL : Nat} {ret : Option FieldType} {hs : List (Nat × Nat × Nat × Nat)} {d pc : Nat} {ls : List (Nat × Value)} {st : List Value} {A : xj_H}
/-! Returning. -/
theorem xj_ends {ad : Nat → Nat} {H : Heap} {locs : List Loc} {cells slots : Nat} {v : Option Value} (hI : xj_I z ad A H locs cells slots) (hr : xf_r z = (.inl v, A)) (hv : ∀ w, v = some w → xj_wv A.1.length w) {t : State}
    (h : MQ (xf_b z) (fun _ _ o t => o = .returned (v.map (xj_v (xf_g z) ad)) ∧ t.heap = H) (xf_a z) (xf_s z) cells slots (xj_al (xf_g z) (xf_d z) (xf_H z) (xf_s z)) t) : xj_Q z t := by
  obtain ⟨o, hrun, hend, ⟨ho, hh⟩, L, ⟨-, hW, hsame⟩, hL⟩ := h
  refine ⟨o, hrun, hend, ad, L, cells, slots, hI.1, ?_, ?_, ?_, ?_, hI.2.2.2.2.2.1.F hh, hW, hsame, hL, ?_, ?_, ?_⟩
  · rw [hr]; exact hI.2.1
  · rw [hr, hh]; exact hI.2.2.1
  · rw [hr]; exact hI.2.2.2.1
  · rw [hr]; exact hI.2.2.2.2.1
  · rw [hr]; exact hI.2.2.2.2.2.2.1
  · rw [hr]; exact hI.2.2.2.2.2.2.2
  · rw [hr]; exact ⟨ho, hv⟩
theorem xg_iret (B : xj_B l y0 cc nL (some .int) hs d z) {x : Int32} (hd : decode cc pc = .ok (.ireturn, 1)) (h : some ((.inl (some (.int x)), A) : xj_R) = some (xf_r z)) : xj_W l z pc ls [.int x] A := by
  intro ad H locs cells slots lz hI hls hst hlv
  have hr := (Option.some.inj h).symm
  refine xw_mono (W.iret (Qc := fun _ _ o t => o = .returned ((some (Value.int x)).map (xj_v (xf_g z) ad)) ∧ t.heap = H) (free := xj_al (xf_g z) (xf_d z) (xf_H z) (xf_s z)) B.1 B.2.1 B.2.2.2.1 (fun t ht _ => ⟨rfl, ht⟩) hI.2.2.2.2.2.1.2.2 hd B.2.2.2.2.1) (fun t ht => ?_)
  exact xj_ends hI hr (fun w hw => by cases hw; trivial) ht
theorem xg_zret (B : xj_B l y0 cc nL (some .boolean) hs d z) {x : Int32} (hd : decode cc pc = .ok (.ireturn, 1)) (h : xj_rz x A = some (xf_r z)) : xj_W l z pc ls [.int x] A := by
  intro ad H locs cells slots lz hI hls hst hlv
  unfold xj_rz at h
  by_cases hz : x = 0 ∨ x = 1
  · rw [if_pos hz] at h
    have hr := (Option.some.inj h).symm
    refine xw_mono (W.zret (ty := .boolean) (Qc := fun _ _ o t => o = .returned ((some (Value.int x)).map (xj_v (xf_g z) ad)) ∧ t.heap = H) (free := xj_al (xf_g z) (xf_d z) (xf_H z) (xf_s z)) B.1 B.2.1 B.2.2.2.1 (by rcases hz with rfl | rfl <;> rfl) (fun t ht _ => ⟨rfl, ht⟩) hI.2.2.2.2.2.1.2.2 hd B.2.2.2.2.1) (fun t ht => ?_)
    exact xj_ends hI hr (fun w hw => by cases hw; trivial) ht
  · rw [if_neg hz] at h
    cases h
theorem xg_lret (B : xj_B l y0 cc nL (some .long) hs d z) {x : Int64} (hd : decode cc pc = .ok (.lreturn, 1)) (h : some ((.inl (some (.long x)), A) : xj_R) = some (xf_r z)) : xj_W l z pc ls [.long x] A := by
  intro ad H locs cells slots lz hI hls hst hlv
  have hr := (Option.some.inj h).symm
  refine xw_mono (W.lret (Qc := fun _ _ o t => o = .returned ((some (Value.long x)).map (xj_v (xf_g z) ad)) ∧ t.heap = H) (free := xj_al (xf_g z) (xf_d z) (xf_H z) (xf_s z)) B.1 B.2.1 B.2.2.2.1 (fun t ht _ => ⟨rfl, ht⟩) hI.2.2.2.2.2.1.2.2 hd B.2.2.2.2.1) (fun t ht => ?_)
  exact xj_ends hI hr (fun w hw => by cases hw; trivial) ht
theorem xg_vret (B : xj_B l y0 cc nL none hs d z) (hd : decode cc pc = .ok (.return_, 1)) (h : some ((.inl none, A) : xj_R) = some (xf_r z)) : xj_W l z pc ls [] A := by
  intro ad H locs cells slots lz hI hls hst hlv
  have hr := (Option.some.inj h).symm
  refine xw_mono (W.vret (Qc := fun _ _ o t => o = .returned ((none : Option Value).map (xj_v (xf_g z) ad)) ∧ t.heap = H) (free := xj_al (xf_g z) (xf_d z) (xf_H z) (xf_s z)) B.1 B.2.1 B.2.2.2.1 (fun t ht _ => ⟨rfl, ht⟩) hI.2.2.2.2.2.1.2.2 hd B.2.2.2.2.1) (fun t ht => ?_)
  exact xj_ends hI hr (fun w hw => by cases hw) ht
theorem xg_aret {rt : FieldType} (B : xj_B l y0 cc nL (some rt) hs d z) (hrt : (∃ n, rt = .object n) ∨ ∃ t, rt = .array t) {r : xj_Rf} (hd : decode cc pc = .ok (.areturn, 1)) (h : some ((.inl (some (xj_rv r)), A) : xj_R) = some (xf_r z)) : xj_W l z pc ls [xj_rv r] A := by
  intro ad H locs cells slots lz hI hls hst hlv
  have hr := (Option.some.inj h).symm
  refine xw_mono (W.aret (v := xj_v (xf_g z) ad (xj_rv r)) (Qc := fun _ _ o t => o = .returned ((some (xj_rv r)).map (xj_v (xf_g z) ad)) ∧ t.heap = H) (free := xj_al (xf_g z) (xf_d z) (xf_H z) (xf_s z)) B.1 B.2.1 B.2.2.2.1 hrt ?_ (fun t ht _ => ⟨rfl, ht⟩) hI.2.2.2.2.2.1.2.2 hd B.2.2.2.2.1) (fun t ht => ?_)
  · match r with
    | none => exact Or.inl rfl
    | some (.inl j) => exact Or.inr ⟨_, rfl⟩
    | some (.inr j) => exact Or.inr ⟨_, rfl⟩
  · exact xj_ends hI hr (fun w hw => by cases hw; exact hst.1) ht
/-! Making. -/
theorem xj_mk_inv {x : xj_C} {n : Nat} {A' : xj_H} (h : xj_mk A x n = some A') : 1 ≤ A.2.1 ∧ n ≤ A.2.2 ∧ A' = (A.1 ++ [x], A.2.1 - 1, A.2.2 - n) := by
  unfold xj_mk at h
  by_cases hc : 1 ≤ A.2.1 ∧ n ≤ A.2.2
  · rw [if_pos hc] at h
    exact ⟨hc.1, hc.2, (Option.some.inj h).symm⟩
  · rw [if_neg hc] at h
    cases h
def xj_ext (ad : Nat → Nat) (n q : Nat) : Nat → Nat := fun k => if k = n then q else ad k
theorem xj_ext_lt {ad : Nat → Nat} {n q k : Nat} (h : k < n) : xj_ext ad n q k = ad k := by
  unfold xj_ext
  rw [if_neg (by omega)]
theorem xj_w_ext {g : xj_G} {ad : Nat → Nat} {Ac : List xj_C} {x : xj_C} {q : Nat} (hw : ∀ y ∈ Ac, xj_wc Ac.length y) (hx : ∀ ad', xj_c g ad' x = xj_c g ad x) : xj_w g (xj_ext ad Ac.length q) (Ac ++ [x]) = xj_w g ad Ac ++ [(q, xj_c g ad x)] := by
  rw [xj_w_push, xj_w_same (fun k hk => xj_ext_lt hk) hw, hx]
  simp [xj_ext]
/-- behind a making: the same frame with one cell more -/
theorem xj_made {ad : Nat → Nat} {H H1 : Heap} {locs : List Loc} {cells slots n q : Nat} {x : xj_C} {lz : Array Slot} {pc' : Nat} (hI : xj_I z ad A H locs cells slots) (hls : xj_wls A.1.length ls) (hst : xj_wst A.1.length st)
    (hlv : lv_has lz (xf_c z).maxLocals (ls.map (fun q => (q.1, xj_v (xf_g z) ad q.2)))) (hx : ∀ ad', xj_c (xf_g z) ad' x = xj_c (xf_g z) ad x) (hwx : xj_wc (A.1.length + 1) x) (h1 : 1 ≤ A.2.1) (h2 : n ≤ A.2.2)
    (hP : va_P (xf_g z).1 xj_cl (xj_w (xf_g z) ad A.1 ++ [(q, xj_c (xf_g z) ad x)]) H1) (hD : va_D (xj_al (xf_g z) (xf_d z) (xf_H z) (xf_s z)) (xj_w (xf_g z) ad A.1 ++ [(q, xj_c (xf_g z) ad x)]))
    (hS : va_S (xj_al (xf_g z) (xf_d z) (xf_H z) (xf_s z)) (xf_s z).heap H1 locs)
    (k : xj_W l z pc' ls (xj_rv (xj_o A.1.length) :: st) (A.1 ++ [x], A.2.1 - 1, A.2.2 - n)) :
    W (xf_p z) l (xf_e z) (xf_R z) (xf_s z) (xf_m z) (xf_a z) (xf_b z) (xf_t z) (xf_c z) H1 locs (cells + 1) (slots + n) (xj_Q z) (F0 (xf_m z) pc' lz (.ref q :: st.map (xj_v (xf_g z) ad))) := by
  have hle : A.1.length ≤ (A.1 ++ [x]).length := by simp
  have hk := k (xj_ext ad A.1.length q) H1 locs (cells + 1) (slots + n) lz ?_ (xj_wls_mono hle hls) ⟨?_, xj_wst_mono hle hst⟩ ?_
  · have he : (xj_rv (xj_o A.1.length) :: st).map (xj_v (xf_g z) (xj_ext ad A.1.length q)) = .ref q :: st.map (xj_v (xf_g z) ad) := by
      rw [List.map_cons, xj_st_same (fun k hk => xj_ext_lt hk) hst]
      simp [xj_rv, xj_o, xj_v, xj_ext]
    rw [he] at hk
    exact hk
  · obtain ⟨i1, i2, i3, i4, i5, i6, i7, i8⟩ := hI
    refine ⟨fun j hj => ?_, ?_, ?_, ?_, ?_, hS, ?_, ?_⟩
    · rw [xj_ext_lt (Nat.lt_of_lt_of_le hj i2)]; exact i1 j hj
    · exact Nat.le_trans i2 hle
    · rw [xj_w_ext i5 hx]; exact hP
    · rw [xj_w_ext i5 hx]; exact hD
    · intro y hy
      rcases List.mem_append.mp hy with hy | hy
      · exact xj_wc_mono hle (i5 y hy)
      · rw [List.mem_singleton.mp hy]
        show xj_wc (A.1 ++ [x]).length x
        rw [List.length_append]
        exact hwx
    · show cells + 1 + (A.2.1 - 1) ≤ _
      omega
    · show slots + n + (A.2.2 - n) ≤ _
      omega
  · show A.1.length < (A.1 ++ [x]).length
    simp
  · rw [xj_ls_same (fun k hk => xj_ext_lt hk) hls]; exact hlv
def xj_pl : List Value → Bool
  | [] => true
  | .int _ :: r => xj_pl r
  | .long _ :: r => xj_pl r
  | .null :: r => xj_pl r
  | _ :: _ => false
theorem xj_pl_same (g : xj_G) (ad : Nat → Nat) : ∀ {fs : List Value}, xj_pl fs = true → fs.map (xj_v g ad) = fs
  | [], _ => rfl
  | .int _ :: r, h => by rw [List.map_cons, xj_pl_same g ad (fs := r) h]; rfl
  | .long _ :: r, h => by rw [List.map_cons, xj_pl_same g ad (fs := r) h]; rfl
  | .null :: r, h => by rw [List.map_cons, xj_pl_same g ad (fs := r) h]; rfl
theorem xj_pl_wf {n : Nat} : ∀ {fs : List Value}, xj_pl fs = true → ∀ v ∈ fs, xj_wv n v
  | .int _ :: r, h, v, hv => by
    rcases List.mem_cons.mp hv with rfl | hv
    · trivial
    · exact xj_pl_wf (fs := r) h v hv
  | .long _ :: r, h, v, hv => by
    rcases List.mem_cons.mp hv with rfl | hv
    · trivial
    · exact xj_pl_wf (fs := r) h v hv
  | .null :: r, h, v, hv => by
    rcases List.mem_cons.mp hv with rfl | hv
    · trivial
    · exact xj_pl_wf (fs := r) h v hv
def xj_nk (own : String) (index ci N : Nat) (fs : List Value) : Prop := ∃ (C : String) (T : u_T) (ty : Nat → FieldType), xj_cl[ci]? = some (C, T, N) ∧ (∀ w ∈ u_ws C T N, w ∈ xj_ws) ∧ (∀ j, j < N → parseFieldDescriptor (T j).2.2.1 = some (ty j)) ∧ Cond.classLink own index C ∈ xj_ws ∧ Cond.instantiable C N ∈ xj_ws ∧ Cond.initialized C ∈ xj_ws ∧ (∀ j, j < N → defaultValue (ty j) = vp_V fs j) ∧ xj_pl fs = true
theorem xg_new (B : xj_B l y0 cc nL ret hs d z) {index ci N : Nat} {fs : List Value} {K : xj_H → Option xj_R} (hd : decode cc pc = .ok (.new index, 3)) (hf : xj_nk y0.cls index ci N fs) (h : (xj_mk A (.inr (ci, fs)) N).bind K = some (xf_r z)) (kk : ∀ A', xj_mk A (.inr (ci, fs)) N = some A' → K A' = some (xf_r z) → xj_W l z (pc + 3) ls (xj_rv (xj_o A.1.length) :: st) A') : xj_W l z pc ls st A := by
  obtain ⟨A', h1, h2⟩ := Option.bind_eq_some_iff.mp h
  have k := kk A' h1 h2
  obtain ⟨g1, g2, rfl⟩ := xj_mk_inv h1
  obtain ⟨C, T, ty, hc, hin, hty, w1, w2, w3, hdf, hpl⟩ := hf
  intro ad H locs cells slots lz hI hls hst hlv
  obtain ⟨hx, hb, hml, hr, hlo, htab, hown, hnm, hT, hK, hS, hP0, hR, htr⟩ := B
  have hc0 : ∀ ad', xj_c (xf_g z) ad' (.inr (ci, fs)) = .inr (ci, fs) := fun ad' => by simp only [xj_c, xj_pl_same _ _ hpl]
  refine va_new (Ts := xj_ws) (c0 := xf_c z) hx hb (fun w h => hT.1 w h _) hin ty hty hown (hT.1 _ w1 _) (hT.1 _ w2 _) (hT.1 _ w3 _) hK hI.2.2.1 hI.2.2.2.1 hI.2.2.2.2.2.1 (fun q hq => Or.inr hq) hc hdf ?_ ?_ hd (fun q H1 p1 p2 p3 => ?_)
  · rw [hR]; show cells + 1 ≤ (xf_H z).2.1; have := hI.2.2.2.2.2.2.1; omega
  · rw [hR]; show slots + N ≤ (xf_H z).2.2; have := hI.2.2.2.2.2.2.2; omega
  · exact xj_made (x := .inr (ci, fs)) hI hls hst hlv (fun ad' => by rw [hc0, hc0]) (xj_pl_wf hpl) g1 g2 (by rw [hc0]; exact p1) (by rw [hc0]; exact p2) p3 k
theorem xj_cA {g : xj_G} {U : State} {t : Nat} {ty : FieldType} {cA : ClassId} (ht : (xj_tys g)[t]? = some (g.2.1 t, ty)) (hty : ∀ C, ty ≠ .object C) (hK : va_K g.1 xj_cl (xj_tys g) U) (hK' : va_K g.1 xj_cl (xj_tys g ++ [(cA, ty)]) U) : cA = g.2.1 t := by
  have h1 := (hK.2 t _ ht).2
  have h2 := (hK'.2 (xj_tys g).length (cA, ty) (by simp)).2
  cases ty with
  | object C => exact absurd rfl (hty C)
  | _ => exact Option.some.inj (h2.symm.trans h1)
theorem xj_cAo {g : xj_G} {U : State} {t : Nat} {C : String} {cA : ClassId} (ht : (xj_tys g)[t]? = some (g.2.1 t, .object C)) (hK : va_K g.1 xj_cl (xj_tys g) U) (hK' : va_K g.1 xj_cl (xj_tys g ++ [(cA, .object C)]) U) : cA = g.2.1 t := by
  obtain ⟨_, _, -, -, -, h1⟩ := (hK.2 t _ ht).2
  obtain ⟨_, _, -, -, -, h2⟩ := (hK'.2 (xj_tys g).length (cA, .object C) (by simp)).2
  exact Option.some.inj (h2.symm.trans h1)
theorem xg_newa (B : xj_B l y0 cc nL ret hs d z) {atype : ArrayType} {ty : FieldType} {t N : Nat} {n : Int32} {a1 : (Nat → Int32) ⊕ (Nat → Int64) ⊕ (Nat → UInt32) ⊕ (Nat → UInt64) ⊕ (Nat → Option Nat)} {K : xj_H → Option xj_R} (hd : decode cc pc = .ok (.newarray atype, 2)) (hta : newarray.typeOf atype = ty) (ht : ∀ g, (xj_tys g)[t]? = some (g.2.1 t, ty)) (hty : ∀ C, ty ≠ .object C) (hw : Cond.arrayClass ty ∈ xj_ws)
    (ha : ∀ cA : ClassId, vp_cell cA (N, a1) = arrV cA N (fun _ => defaultValue ty)) (hax : ∀ g ad, xj_c g ad (.inl (t, N, a1)) = .inl (g.2.1 t, N, a1)) (hawf : ∀ k, xj_wc k (.inl (t, N, a1))) (hn : ¬ n < 0) (hN : n.toNatClampNeg = N) (hby : N * componentBytes ty ≤ 536870912)
    (h : (xj_mk A (.inl (t, N, a1)) N).bind K = some (xf_r z)) (kk : ∀ A', xj_mk A (.inl (t, N, a1)) N = some A' → K A' = some (xf_r z) → xj_W l z (pc + 2) ls (xj_rv (xj_o A.1.length) :: st) A') : xj_W l z pc ls (.int n :: st) A := by
  obtain ⟨A', h1, h2⟩ := Option.bind_eq_some_iff.mp h
  have k := kk A' h1 h2
  obtain ⟨g1, g2, rfl⟩ := xj_mk_inv h1
  intro ad H locs cells slots lz hI hls hst hlv
  obtain ⟨hx, hb, hml, hr, hlo, htab, hown, hnm, hT, hK, hS, hP0, hR, htr⟩ := B
  refine va_newa (a0 := (N, a1)) (ty := ty) hx hb (by rw [hta]; exact hT.1 _ hw _) hta hK hI.2.2.1 hI.2.2.2.1 hI.2.2.2.2.2.1 (fun q hq => Or.inr hq) ha hn hN hby ?_ ?_ hd (fun q cA H1 p0 p1 p2 p3 => ?_)
  · rw [hR]; show cells + 1 ≤ (xf_H z).2.1; have := hI.2.2.2.2.2.2.1; omega
  · rw [hR]; show slots + N ≤ (xf_H z).2.2; have := hI.2.2.2.2.2.2.2; omega
  · have hcA := xj_cA (ht _) hty hK p0
    subst hcA
    exact xj_made (x := .inl (t, N, a1)) hI hls hst.2 hlv (fun ad' => by rw [hax, hax]) (hawf _) g1 g2 (by rw [hax]; exact p1) (by rw [hax]; exact p2) p3 k
theorem xg_newq (B : xj_B l y0 cc nL ret hs d z) {index N : Nat} {n : Int32} {K : xj_H → Option xj_R} (hd : decode cc pc = .ok (.anewarray index, 3)) (hw : Cond.classLink y0.cls index xj_en ∈ xj_ws) (hn : ¬ n < 0) (hN : n.toNatClampNeg = N) (hby : N * 4 ≤ 536870912)
    (h : (xj_mk A (.inl (4, N, .inr (.inr (.inr (.inr (fun _ => none)))))) N).bind K = some (xf_r z)) (kk : ∀ A', xj_mk A (.inl (4, N, .inr (.inr (.inr (.inr (fun _ => none)))))) N = some A' → K A' = some (xf_r z) → xj_W l z (pc + 3) ls (xj_rv (xj_o A.1.length) :: st) A') : xj_W l z pc ls (.int n :: st) A := by
  obtain ⟨A', h1, h2⟩ := Option.bind_eq_some_iff.mp h
  have k := kk A' h1 h2
  obtain ⟨g1, g2, rfl⟩ := xj_mk_inv h1
  intro ad H locs cells slots lz hI hls hst hlv
  obtain ⟨hx, hb, hml, hr, hlo, htab, hown, hnm, hT, hK, hS, hP0, hR, htr⟩ := B
  refine va_newq (C := xj_en) hx hb hown (hT.1 _ hw _) hS.2.1 hK hI.2.2.1 hI.2.2.2.1 hI.2.2.2.2.2.1 (fun q hq => Or.inr hq) hn hN hby ?_ ?_ hd (fun q cA H1 p0 p1 p2 p3 => ?_)
  · rw [hR]; show cells + 1 ≤ (xf_H z).2.1; have := hI.2.2.2.2.2.2.1; omega
  · rw [hR]; show slots + N ≤ (xf_H z).2.2; have := hI.2.2.2.2.2.2.2; omega
  · have hcA := xj_cAo (t := 4) rfl hK p0
    subst hcA
    exact xj_made (x := .inl (4, N, .inr (.inr (.inr (.inr (fun _ => none)))))) hI hls hst.2 hlv (fun ad' => rfl) (fun _ _ h => by cases h) g1 g2 p1 p2 p3 k
/-! Object's own constructor. -/
theorem xg_objInit (B : xj_B l y0 cc nL ret hs d z) {index : Nat} {o : xj_Rf} {a : Nat} (ho : o = some (.inl a)) (hd : decode cc pc = .ok (.invokespecial index, 3)) (w1 : Cond.methodLink y0.cls index Lib.objectInit ∈ xj_ws) (w2 : Cond.instanceMethod Lib.objectInit ∈ xj_ws) (w3 : Cond.code Lib.objectInit ⟨#[0xb1]⟩ 1 none ∈ xj_ws) (hdp : 1 ≤ d) (hst8 : (st.map fun v => v.category).sum ≤ 8) (k : xj_W l z (pc + 3) ls st A) : xj_W l z pc ls (xj_rv o :: st) A := by
  subst ho
  intro ad H locs cells slots lz hI hls hst hlv
  obtain ⟨hx, hb, hml, hr, hlo, htab, hown, hnm, hT, hK, hS, hP0, hR, htr⟩ := B
  refine W.objInit hx hb hown (hT.1 _ w1 _) (hT.1 _ w2 _) (hT.1 _ w3 _) (g := F0 (xf_m z) pc lz ((xj_rv (some (.inl a)) :: st).map (xj_v (xf_g z) ad))) rfl hlv.1 rfl hd ?_ ?_ (k ad H locs cells slots lz hI hls hst.2 hlv)
  · rw [hR]; exact hdp
  · rw [hR]
    have h8 : ((st.map (xj_v (xf_g z) ad)).map fun v => v.category).sum ≤ 8 := by
      rw [List.map_map]
      have : ((fun v : Value => v.category) ∘ xj_v (xf_g z) ad) = fun v => v.category := funext fun v => xj_v_cat _ _ v
      rw [this]; exact hst8
    have := lv_room (m := xf_m z) (pc := pc) (ls := lz) (rest := (xj_rv (some (.inl a)) :: st).map (xj_v (xf_g z) ad)) h8
    show _ + 12 ≤ 40 * d
    omega
end Xends
end
section
section Xcalls
variable {l : Launch} {z : xj_F} {y0 : MethodName} {cc : ByteArray} {nL : Nat} {ret : Option FieldType} {hs : List (Nat × Nat × Nat × Nat)} {d pc : Nat} {ls : List (Nat × Value)} {st : List Value} {A : xj_H}
theorem xj_pre.at {g : xj_G} {ad : Nat → Nat} {A : xj_H} {T U : State} (h : xj_pre g ad A T) (hH : U.heap = T.heap) (hW : T.WarmedH U.vm) : xj_pre g ad A U := by
  obtain ⟨h1, h2, h3, h4, h5, h6⟩ := h
  have he : xj_al g ad A U = xj_al g ad A T := by unfold xj_al; rw [hH]
  refine ⟨h1.warm hW, h2.moved hW.alike, ?_, by rw [hH]; exact h4, h5, h6⟩
  rw [he, hH]
  exact xj_S.warm hW h3
/-- a call by a contract, however it ends -/
theorem xc_pay {p : Program} {e : Env} {R : Room} {s : State} {m : MethodId} {args : Array Value} {below : List Frame} {meth : Method} {c : Code} {T : State} {locs : List Loc} {cells slots : Nat}
    (X : Stand p l e R s m args below meth c T locs cells slots) {y : MethodName} {cy : ByteArray} {nLy : Nat} {rety : Option FieldType} {hsy : List (Nat × Nat × Nat × Nat)} {d' : Nat} {av : List Value} {A : xj_H} {r : xj_R} (hM : xj_M l y cy nLy rety hsy d' av A r) (g : xj_G) (ad : Nat → Nat)
    (hpre : xj_pre g ad A T) (hwa : xj_wst A.1.length av) {mk : MethodId} (hn : T.methodNamed? y = some mk) (hwy : xj_cw y cy nLy rety hsy ∈ xj_ws) (hwi : Cond.initialized y.cls ∈ xj_ws) (hfr : d' + 1 ≤ R.frames) (hlo : 8 + (nLy + 11) + 40 * d' ≤ R.locals) (hce : cells + A.2.1 ≤ R.cells) (hsl : slots + A.2.2 ≤ R.slots)
    {gf : JFrame} {ig : Instr} {len : Nat} (hg : gf.method = m) (hsize : gf.locals.size = c.maxLocals) (hdg : decode c.code gf.pc = .ok (ig, len)) (hW : 2 * gf.monitorRoom + (gf.stack.map fun v => v.category).sum ≤ 8) :
    ∃ (o : Outcome) (t : State) (ad' : Nat → Nat) (L : List Loc) (k n : Nat) (Bt : State), (∀ j, j < A.1.length → ad' j = ad j) ∧ A.1.length ≤ r.2.1.length ∧ va_P g.1 xj_cl (xj_w g ad' r.2.1) Bt.heap ∧ va_D (xj_al g ad A T) (xj_w g ad' r.2.1) ∧ (∀ x ∈ r.2.1, xj_wc r.2.1.length x) ∧ (T.heap.size ≤ Bt.heap.size ∧ ∀ q : Nat, q < T.heap.size → ¬ xj_al g ad A T q → Bt.heap[q]? = T.heap[q]?) ∧
      (∀ q ∈ L, xj_al g ad A T q.base) ∧ k + r.2.2.1 ≤ A.2.1 ∧ n + r.2.2.2 ≤ A.2.2 ∧ t.heap = Bt.heap ∧ xj_O g ad' r T o t ∧ Stand p l e R s m args below meth c Bt (locs ++ L) (cells + k) (slots + n) ∧
      Steps p.tables e below (doInvoke e (T.setTop gf) [] mk (av.map (xj_v g ad)).toArray).1 (match o with
        | .returned v => Bt.setTop { gf with pc := gf.pc + len, stack := v.toList ++ gf.stack }
        | .threw x => (Bt.setTop gf).pushFrame (.throwing x)) := by
  have hcw := hpre.1.1 _ hwy (av.map (xj_v g ad)).toArray
  have hci := hpre.1.1 _ hwi (av.map (xj_v g ad)).toArray
  obtain ⟨methY, cY, hmY, hcY, -, hlY, -, -, -, -⟩ := xj_cw_spec hn hcw
  obtain ⟨kY, hkY, -⟩ := className_of_methodNamed hn
  have hinitY : kY.init = .initialized := Cond.initialized_spec (findClass_of_methodNamed hn) hkY hci
  have h : At T gf.method c below := by rw [hg]; exact X.here
  have happ : (headSpec [xj_cw y cy nLy rety hsy] (xj_rm d' A)).appliesLoose y e.platform (T.calling gf mk (av.map (xj_v g ad)).toArray) = true :=
    Spec.appliesLoose_calling (g := gf) h hdg hn hkY hinitY (X.room_calling (g := gf) (R' := xj_rm d' A) hsize hmY hcY hfr (by rw [hlY]; show _ + _ + _ + 40 * d' ≤ _; omega) hce hsl) (atoms_intro fun w hw => by rw [List.mem_singleton.mp hw]; exact hcw)
  obtain ⟨mid, hmid⟩ := h.above
  have hframes : (T.setTop gf).frames = (.java gf :: mid) ++ below := by rw [State.frames_setTop' gf h.top, hmid]; rfl
  obtain ⟨o, t, hsteps, -, hend, hq⟩ := Steps.callFree (hM g ad) p X.admits X.cas X.clock (acts := []) hframes happ ⟨rfl, hwa, hpre.at rfl (State.WarmedH.refl T)⟩ trivial
  obtain ⟨ad', L, k, n, q1, q2, q3, q4, q5, q6, q7, q8, q9, q10, q11, q12⟩ := hq
  rw [State.frames_setTop' gf h.top] at hend
  obtain ⟨e2, s2, s3, s4, s5, s6⟩ := id q8
  have hW' : T.WarmedH t.vm := q7
  obtain ⟨g₀, hg0⟩ := Option.isSome_iff_exists.mp h.top
  obtain ⟨rr, hr⟩ := State.topJava?_eq_some.mp hg0
  have hr' : (({ T with heap := t.heap, slotsUsed := t.slotsUsed } : State).setVm t.vm).frames = .java g₀ :: rr := hr
  have e3 : t = ({ (T.calling gf mk (av.map (xj_v g ad)).toArray).setFrames t.frames with heap := t.heap, slotsUsed := t.slotsUsed } : State).setVm t.vm := by
    have hh : t = ({ t with vm := (T.calling gf mk (av.map (xj_v g ad)).toArray).vm } : State).setVm t.vm := rfl
    rw [show ({ t with vm := (T.calling gf mk (av.map (xj_v g ad)).toArray).vm } : State) = _ from e2] at hh
    exact hh
  have hsame : T.sameButNew ({ T with heap := t.heap, slotsUsed := t.slotsUsed } : State) L k n := by
    refine ⟨?_, s2, s3, s4, s5, s6⟩
    obtain ⟨th, hth, -⟩ := State.frames_cons hr
    show ({ T with heap := t.heap, slotsUsed := t.slotsUsed } : State) = { T.setFrames T.frames with heap := t.heap, slotsUsed := t.slotsUsed }
    rw [State.setFrames_self hth]
  subst hg
  refine ⟨o, t, ad', L, k, n, (({ T with heap := t.heap, slotsUsed := t.slotsUsed } : State).setVm t.vm), q1, q2, q3, q4, q5, q6, q9, q10, q11, rfl, q12, ⟨X.admits, X.cas, X.clock, X.frames, X.room, X.hears, X.method, X.code, (X.here.setHeapUsed t.heap t.slotsUsed).setVm hW'.alike, X.tail, State.WarmedH.trans X.warmed hW', X.limits, X.bytes, X.same.trans (hsame.setVm s.vm)⟩, ?_⟩
  cases o with
  | returned v =>
    obtain ⟨c₂, i₂, len₂, hc₂, hd₂, hf₂⟩ := hend
    have hcc : c₂ = c := by
      have h1 : t.code? gf.method = T.code? gf.method := by rw [State.code?_eq, State.code?_eq, hW'.alike.method?]
      exact Option.some.inj (hc₂.symm.trans (h1.trans h.code))
    subst hcc
    have hlen : len₂ = len := by rw [hdg] at hd₂; cases hd₂; rfl
    subst hlen
    have hs₂ : t = (({ T with heap := t.heap, slotsUsed := t.slotsUsed } : State).setVm t.vm).setTop { gf with pc := gf.pc + len₂, stack := v.toList ++ gf.stack } := by
      refine e3.trans ?_
      rw [hf₂, State.calling_eq h.top, State.setFrames_setFrames, State.setTop_of_frames _ hr', hr]
      rfl
    show Steps p.tables e below _ ((({ T with heap := t.heap, slotsUsed := t.slotsUsed } : State).setVm t.vm).setTop { gf with pc := gf.pc + len₂, stack := v.toList ++ gf.stack })
    rw [← hs₂]
    exact hsteps
  | threw x =>
    have hf₂ : t.frames = .throwing x :: .java gf :: T.frames.tail := hend
    have hs₂ : t = ((({ T with heap := t.heap, slotsUsed := t.slotsUsed } : State).setVm t.vm).setTop gf).pushFrame (.throwing x) := by
      refine e3.trans ?_
      rw [hf₂, State.calling_eq h.top, State.setFrames_setFrames, State.pushFrame, State.frames_setTop _ hr', State.setTop_of_frames _ hr', State.setFrames_setFrames, hr]
      rfl
    show Steps p.tables e below _ (((({ T with heap := t.heap, slotsUsed := t.slotsUsed } : State).setVm t.vm).setTop gf).pushFrame (.throwing x))
    rw [← hs₂]
    exact hsteps
/-- a thrown object of the class x lies over the frame at pc -/
def xj_X (l : Launch) (z : xj_F) (pc : Nat) (ls : List (Nat × Value)) (x : String) (A : xj_H) : Prop :=
  ∀ (ad : Nat → Nat) (H : Heap) (locs : List Loc) (cells slots : Nat) (lz : Array Slot) (stC : List Value) (a : Addr) (cell : Cell) (T : State), xj_I z ad A H locs cells slots → xj_wls A.1.length ls →
    lv_has lz (xf_c z).maxLocals (ls.map (fun q => (q.1, xj_v (xf_g z) ad q.2))) → H[a]? = some cell → cell.vm = .none → (xf_s z).vm.findClass x = some cell.cls → T.heap = H →
    Stand (xf_p z) l (xf_e z) (xf_R z) (xf_s z) (xf_m z) (xf_a z) (xf_b z) (xf_t z) (xf_c z) T locs cells slots → ∃ t, Steps (xf_p z).tables (xf_e z) (xf_b z) ((T.setTop (F0 (xf_m z) pc lz stC)).pushFrame (.throwing a)) t ∧ xj_Q z t
theorem xj_X.leave (B : xj_B l y0 cc nL ret hs d z) {x : String} (hout : (tableOf hs).all (fun q => !covers q pc) = true) (hr : xf_r z = (.inr x, A)) : xj_X l z pc ls x A := by
  intro ad H locs cells slots lz stC a cell T hI hls hlv hcell hvm hcls hT X
  have htab := B.2.2.2.2.2.1
  have hlocks := B.2.2.2.2.1
  obtain ⟨h1, h2, h3, h4, h5⟩ := X.leaveThrown a (g := F0 (xf_m z) pc lz stC) rfl rfl rfl (outside_of_table htab hout) hlocks
  refine ⟨_, h1, .threw a, h2, h3, ad, locs, cells, slots, hI.1, ?_, ?_, ?_, ?_, ?_, h4, h5, hI.2.2.2.2.2.1.2.2, ?_, ?_, ?_⟩
  · rw [hr]; exact hI.2.1
  · rw [hr]; show va_P _ _ _ T.heap; rw [hT]; exact hI.2.2.1
  · rw [hr]; exact hI.2.2.2.1
  · rw [hr]; exact hI.2.2.2.2.1
  · exact hI.2.2.2.2.2.1.F (t := T.setFrames _) hT
  · rw [hr]; exact hI.2.2.2.2.2.2.1
  · rw [hr]; exact hI.2.2.2.2.2.2.2
  · rw [hr]; exact ⟨a, cell, rfl, by show T.heap[a]? = _; rw [hT]; exact hcell, hvm, hcls⟩
/-- how the machine comes from an invoking instruction at pc to the method y -/
def xj_inv (l : Launch) (z : xj_F) (pc : Nat) (y : MethodName) (n : Nat) (need : Heap → List Value → Prop) : Prop :=
  ∀ (T : State) (locs : List Loc) (cells slots : Nat) (lz : Array Slot) (av rest : List Value), Stand (xf_p z) l (xf_e z) (xf_R z) (xf_s z) (xf_m z) (xf_a z) (xf_b z) (xf_t z) (xf_c z) T locs cells slots → av.length = n → need T.heap av →
    ∃ (vm₁ : Vm) (mk : MethodId), Stand (xf_p z) l (xf_e z) (xf_R z) (xf_s z) (xf_m z) (xf_a z) (xf_b z) (xf_t z) (xf_c z) (T.setVm vm₁) locs cells slots ∧ (T.setVm vm₁).methodNamed? y = some mk ∧
      ∀ target, Steps (xf_p z).tables (xf_e z) (xf_b z) (doInvoke (xf_e z) ((T.setVm vm₁).setTop (F0 (xf_m z) pc lz rest)) [] mk av.toArray).1 target → Steps (xf_p z).tables (xf_e z) (xf_b z) (T.setTop (F0 (xf_m z) pc lz (av.reverse ++ rest))) target
theorem xj_al_sub {ad : Nat → Nat} {H : Heap} {locs : List Loc} {cells slots : Nat} (hI : xj_I z ad A H locs cells slots) {T : State} (hT : T.heap = H) {q : Nat} (h : xj_al (xf_g z) ad A T q) : xj_al (xf_g z) (xf_d z) (xf_H z) (xf_s z) q := by
  rcases h with ⟨k, e, hk⟩ | h
  · exact hI.2.2.2.1.2 k _ hk
  · refine Or.inr (Nat.le_trans hI.2.2.2.2.2.1.1 ?_)
    rw [← hT]; exact h
theorem xj_pre_at (B : xj_B l y0 cc nL ret hs d z) {ad : Nat → Nat} {H : Heap} {locs : List Loc} {cells slots : Nat} (hI : xj_I z ad A H locs cells slots) {T : State} (hT : T.heap = H) (hW : (xf_s z).WarmedH T.vm) : xj_pre (xf_g z) ad A T := by
  obtain ⟨hx, hb, hml, hr, hlo, htab, hown, hnm, hTt, hK, hS, hP0, hR, htr⟩ := B
  refine ⟨hTt.warm hW, hK.moved hW.alike, ?_, by rw [hT]; exact hI.2.2.1, hI.2.2.2.1.weaken (fun _ _ _ _ => trivial), hI.2.2.2.2.1⟩
  rw [hT]
  refine xj_S.warm hW (xj_S.narrow (xj_S.kept hS hI.2.2.2.2.2.1.2.1) (fun q hq => xj_al_sub hI hT ?_))
  exact hq
theorem xj_cat_sum (g : xj_G) (ad : Nat → Nat) (st : List Value) : ((st.map (xj_v g ad)).map fun v => v.category).sum = (st.map fun v => v.category).sum := by
  rw [List.map_map]
  have h : ((fun v : Value => v.category) ∘ xj_v g ad) = fun v => v.category := funext fun v => xj_v_cat _ _ v
  rw [h]
theorem xg_core (B : xj_B l y0 cc nL ret hs d z) {y : MethodName} {cy : ByteArray} {nLy : Nat} {rety : Option FieldType} {hsy : List (Nat × Nat × Nat × Nat)} {d' : Nat} {av : List Value} {r' : xj_R} {need : Heap → List Value → Prop} {ig : Instr} (hd : decode cc pc = .ok (ig, 3)) (hinv : xj_inv l z pc y av.length need)
    (hneed : ∀ ad H locs cells slots, xj_I z ad A H locs cells slots → need H (av.map (xj_v (xf_g z) ad))) (hM : xj_M l y cy nLy rety hsy d' av A r') (hwy : xj_cw y cy nLy rety hsy ∈ xj_ws) (hwi : Cond.initialized y.cls ∈ xj_ws) (hdd : d' + 1 ≤ d) (hnLy : nLy ≤ 21) (hst8 : (st.map fun v => v.category).sum ≤ 8)
    (kr : ∀ v, r'.1 = .inl v → xj_W l z (pc + 3) ls (v.toList ++ st) r'.2) (kt : ∀ x, r'.1 = .inr x → xj_X l z pc ls x r'.2) : xj_W l z pc ls (av.reverse ++ st) A := by
  intro ad H locs cells slots lz hI hls hst hlv T hT X
  obtain ⟨hwav, hwst⟩ := xj_wst_app hst
  have hwa : xj_wst A.1.length av := xj_wst_mem fun v hv => xj_wst_of hwav v (List.mem_reverse.mpr hv)
  obtain ⟨vm₁, mk, X₁, hn, hstep⟩ := hinv T locs cells slots lz (av.map (xj_v (xf_g z) ad)) (st.map (xj_v (xf_g z) ad)) X (by simp) (by rw [hT]; exact hneed _ _ _ _ _ hI)
  have hpre := xj_pre_at B (T := T.setVm vm₁) hI hT X₁.warmed
  have hb := B.2.1
  have hml := B.2.2.1
  have hR := B.2.2.2.2.2.2.2.2.2.2.2.2.1
  obtain ⟨o, t, ad', L, k, n, Bt, q1, q2, q3, q4, q5, q6, q9, q10, q11, q12, q13, XB, hsteps⟩ := xc_pay X₁ hM (xf_g z) ad hpre hwa hn hwy hwi (by rw [hR]; exact hdd) (by rw [hR]; show _ ≤ 40 * d; omega) (by rw [hR]; exact hI.2.2.2.2.2.2.1) (by rw [hR]; exact hI.2.2.2.2.2.2.2)
    (gf := F0 (xf_m z) pc lz (st.map (xj_v (xf_g z) ad))) (ig := ig) (len := 3) rfl hlv.1 (by rw [hb]; exact hd) (lv_room (by rw [xj_cat_sum]; exact hst8))
  have hal : ∀ q, xj_al (xf_g z) ad A (T.setVm vm₁) q → xj_al (xf_g z) (xf_d z) (xf_H z) (xf_s z) q := fun q hq => xj_al_sub hI (T := T.setVm vm₁) hT hq
  have hTh : (T.setVm vm₁).heap = H := hT
  rw [hTh] at q6
  have hI' : xj_I z ad' r'.2 Bt.heap (locs ++ L) (cells + k) (slots + n) := by
    refine ⟨fun j hj => ?_, Nat.le_trans hI.2.1 q2, q3, q4.weaken (fun _ _ _ h => hal _ h), q5, ?_, ?_, ?_⟩
    · rw [q1 j (Nat.lt_of_lt_of_le hj hI.2.1)]; exact hI.1 j hj
    · refine ⟨Nat.le_trans hI.2.2.2.2.2.1.1 q6.1, fun q hq hna => ?_, fun q hq => ?_⟩
      · rw [q6.2 q (Nat.lt_of_lt_of_le hq hI.2.2.2.2.2.1.1) (fun h => hna (hal q h))]
        exact hI.2.2.2.2.2.1.2.1 q hq hna
      · rcases List.mem_append.mp hq with h | h
        · exact hI.2.2.2.2.2.1.2.2 q h
        · exact hal _ (q9 q h)
    · have := hI.2.2.2.2.2.2.1; omega
    · have := hI.2.2.2.2.2.2.2; omega
  have hls' : xj_wls r'.2.1.length ls := xj_wls_mono q2 hls
  have hlv' : lv_has lz (xf_c z).maxLocals (ls.map (fun q => (q.1, xj_v (xf_g z) ad' q.2))) := by rw [xj_ls_same q1 hls]; exact hlv
  have hgoal : (av.reverse ++ st).map (xj_v (xf_g z) ad) = (av.map (xj_v (xf_g z) ad)).reverse ++ st.map (xj_v (xf_g z) ad) := by rw [List.map_append, List.map_reverse]
  rw [hgoal]
  unfold xj_O at q13
  cases hr1 : r'.1 with
  | inl v =>
    rw [hr1] at q13
    obtain ⟨ho, hwv⟩ := q13
    subst ho
    have hwst' : xj_wst r'.2.1.length (v.toList ++ st) := by
      cases v with
      | none => exact xj_wst_mono q2 hwst
      | some w => exact ⟨hwv w rfl, xj_wst_mono q2 hwst⟩
    obtain ⟨t', ht1, ht2⟩ := kr v hr1 ad' Bt.heap (locs ++ L) (cells + k) (slots + n) lz hI' hls' hwst' hlv' Bt rfl XB
    refine ⟨t', hstep _ (hsteps.trans ?_), ht2⟩
    have he : (v.toList ++ st).map (xj_v (xf_g z) ad') = (v.map (xj_v (xf_g z) ad')).toList ++ st.map (xj_v (xf_g z) ad) := by
      rw [List.map_append, xj_st_same q1 hwst]
      cases v <;> rfl
    rw [he] at ht1
    exact ht1
  | inr x =>
    rw [hr1] at q13
    obtain ⟨a, cell, ho, hc1, hc2, hc3⟩ := q13
    subst ho
    rw [q12] at hc1
    obtain ⟨t', ht1, ht2⟩ := kt x hr1 ad' Bt.heap (locs ++ L) (cells + k) (slots + n) lz (st.map (xj_v (xf_g z) ad)) a cell Bt hI' hls' hlv' hc1 hc2 (by rw [← X₁.warmed.alike.findClass]; exact hc3) rfl XB
    exact ⟨t', hstep _ (hsteps.trans ht1), ht2⟩
/-! The three ways of invoking. -/
theorem xj_inv_static (B : xj_B l y0 cc nL ret hs d z) {y : MethodName} {cy : ByteArray} {nLy n index : Nat} {rety : Option FieldType} {hsy : List (Nat × Nat × Nat × Nat)} (hd : decode cc pc = .ok (.invokestatic index, 3))
    (hl : Cond.methodLink y0.cls index y ∈ xj_ws ∨ ∃ host, Cond.methodLinkNest y0.cls index y host ∈ xj_nw) (hst : Cond.static y ∈ xj_ws) (hwy : xj_cw y cy nLy rety hsy ∈ xj_ws) (hwi : Cond.initialized y.cls ∈ xj_ws) (hy : y.cls ≠ "java/lang/invoke/MethodHandle" ∧ y.cls ≠ "java/lang/invoke/VarHandle") (hn : (parseMethodDescriptor y.desc).map (fun q => q.parameters.length) = some n) :
    xj_inv l z pc y n (fun _ _ => True) := by
  intro T locs cells slots lz av rest X hav _
  obtain ⟨hx, hb, hml, hr, hlo, htab, hown, hnm, hTt, hK, hS, hP0, hR, htr⟩ := B
  obtain ⟨mk, hnamed⟩ := xj_cw_named (hTt.1 _ hwy #[])
  obtain ⟨methM, cM, hmethM, -, -, -, -, -, -, hsigM⟩ := xj_cw_spec hnamed (hTt.1 _ hwy #[])
  have hstatic : methM.isStatic = true := Cond.static_spec hnamed hmethM (hTt.1 _ hst #[])
  obtain ⟨kP, hkP, -⟩ := className_of_methodNamed hnamed
  have hinitP : kP.init = .initialized := Cond.initialized_spec (findClass_of_methodNamed hnamed) hkP (hTt.1 _ hwi #[])
  have hlen : av.length = methM.sig.parameters.length := by
    rw [hsigM] at hn
    rw [hav]; exact (Option.some.inj hn).symm
  rcases hl with hl | ⟨host, hl⟩
  · obtain ⟨vm₁, X₁, hstep₁⟩ := X.invokestatic hx hown (hTt.1 _ hl _) hnamed hmethM hstatic hkP hinitP hy (g := F0 (xf_m z) pc lz (av.reverse ++ rest)) rfl (argsL := av) (rest := rest) hlen rfl (by rw [hb]; exact hd)
    exact ⟨vm₁, mk, X₁, X₁.named hnamed, fun target h => hstep₁ _ fun acts => by rw [doInvoke_state]; exact h⟩
  · obtain ⟨vm₁, X₁, hstep₁⟩ := X.invokestaticNest hx hown (va_Nw.use rfl (hTt.2 _ hl)) hnamed hmethM hstatic hkP hinitP hy (g := F0 (xf_m z) pc lz (av.reverse ++ rest)) rfl (argsL := av) (rest := rest) hlen rfl (by rw [hb]; exact hd)
    exact ⟨vm₁, mk, X₁, X₁.named hnamed, fun target h => hstep₁ _ fun acts => by rw [doInvoke_state]; exact h⟩
theorem xj_inv_virtual (B : xj_B l y0 cc nL ret hs d z) {y : MethodName} {n index : Nat} {C : String} (hd : decode cc pc = .ok (.invokevirtual index, 3))
    (hl : Cond.methodLink y0.cls index y ∈ xj_ws ∨ ∃ host, Cond.methodLinkNest y0.cls index y host ∈ xj_nw) (hst : Cond.instanceMethod y ∈ xj_ws) (hse : Cond.selects C y y ∈ xj_ws) (hy : y.cls ≠ "java/lang/invoke/MethodHandle" ∧ y.cls ≠ "java/lang/invoke/VarHandle") (hn : (parseMethodDescriptor y.desc).map (fun q => q.parameters.length) = some n) (hcd : ∃ w ∈ xj_ws, ∃ cy nLy rety hsy, w = xj_cw y cy nLy rety hsy) :
    xj_inv l z pc y (n + 1) (fun H av => ∃ (b : Addr) (as : List Value) (cell : Cell), av = .ref b :: as ∧ H[b]? = some cell ∧ cell.vm.isStatics = false ∧ (xf_s z).vm.findClass C = some cell.cls) := by
  intro T locs cells slots lz av rest X hav ⟨b, as, cl0, hab, hcell, hobj, hcls⟩
  subst hab
  obtain ⟨hx, hb, hml, hr, hlo, htab, hown, hnm, hTt, hK, hS, hP0, hR, htr⟩ := B
  obtain ⟨w, hw, cy, nLy, rety, hsy, rfl⟩ := hcd
  obtain ⟨mk, methM, hnamed, hmethM, hstM, habM⟩ := Cond.instanceMethod_spec (hTt.1 _ hst #[])
  obtain ⟨methM', cM, hmethM', -, -, -, -, -, -, hsigM⟩ := xj_cw_spec hnamed (hTt.1 _ hw #[])
  cases hmethM.symm.trans hmethM'
  obtain ⟨c2, r2, m2, q1, q2, q3, q4, kP, hkP, hkPi⟩ := Cond.selects_spec (hTt.1 _ hse #[])
  cases hcls.symm.trans q1
  cases (State.methodFound?_of_named hnamed hy).symm.trans q2
  cases hnamed.symm.trans q3
  have hselP : selectMethod (xf_e z).platform (xf_s z).vm cl0.cls mk = .method mk := by rw [Launch.admits_selectMethod X.admits]; exact q4
  have hlen : as.length = methM.sig.parameters.length := by
    rw [hsigM] at hn
    have h2 : _ = n := Option.some.inj hn
    have h3 : as.length + 1 = n + 1 := hav
    exact (Nat.succ.inj h3).trans h2.symm
  have hst : (Value.ref b :: as).reverse ++ rest = as.reverse ++ .ref b :: rest := by simp
  rcases hl with hl | ⟨host, hl⟩
  · obtain ⟨vm₁, X₁, hstep₁⟩ := X.invokevirtual hx hown (hTt.1 _ hl _) hnamed hmethM hstM hkP hkPi hy (a := b) (cell := cl0) hcell (fun q h => by rw [h] at hobj; cases hobj) hselP hmethM habM hkP hkPi (g := F0 (xf_m z) pc lz ((Value.ref b :: as).reverse ++ rest)) rfl (argsL := as) (rest := rest) hlen hst (by rw [hb]; exact hd)
    exact ⟨vm₁, mk, X₁, X₁.named hnamed, fun target h => hstep₁ _ fun acts => by rw [doInvoke_state]; exact h⟩
  · obtain ⟨vm₁, X₁, hstep₁⟩ := X.invokevirtualNest hx hown (va_Nw.use rfl (hTt.2 _ hl)) hnamed hmethM hstM hkP hkPi hy (a := b) (cell := cl0) hcell (fun q h => by rw [h] at hobj; cases hobj) hselP hmethM habM hkP hkPi (g := F0 (xf_m z) pc lz ((Value.ref b :: as).reverse ++ rest)) rfl (argsL := as) (rest := rest) hlen hst (by rw [hb]; exact hd)
    exact ⟨vm₁, mk, X₁, X₁.named hnamed, fun target h => hstep₁ _ fun acts => by rw [doInvoke_state]; exact h⟩
theorem xj_inv_init (B : xj_B l y0 cc nL ret hs d z) {y : MethodName} {cy : ByteArray} {nLy n index : Nat} (hd : decode cc pc = .ok (.invokespecial index, 3)) (hy1 : y.name = "<init>")
    (hl : Cond.methodLink y0.cls index y ∈ xj_ws ∨ ∃ host, Cond.methodLinkNest y0.cls index y host ∈ xj_nw) (hst : Cond.instanceMethod y ∈ xj_ws) (hwy : Cond.code y cy nLy none ∈ xj_ws) (hy : y.cls ≠ "java/lang/invoke/MethodHandle" ∧ y.cls ≠ "java/lang/invoke/VarHandle") (hn : (parseMethodDescriptor y.desc).map (fun q => q.parameters.length) = some n) :
    xj_inv l z pc y (n + 1) (fun _ av => ∃ (b : Addr) (as : List Value), av = .ref b :: as) := by
  intro T locs cells slots lz av rest X hav ⟨b, as, hab⟩
  subst hab
  obtain ⟨hx, hb, hml, hr, hlo, htab, hown, hnm, hTt, hK, hS, hP0, hR, htr⟩ := B
  have hpl : (xf_e z).platform.magicAccessors = ({} : Platform).magicAccessors := by rw [X.admits.platform]
  have hlen : ∀ sig, parseMethodDescriptor y.desc = some sig → as.length = sig.parameters.length := fun sig h => by
    rw [h] at hn
    have h2 : _ = n := Option.some.inj hn
    have h3 : as.length + 1 = n + 1 := hav
    exact (Nat.succ.inj h3).trans h2.symm
  have hst' : (Value.ref b :: as).reverse ++ rest = as.reverse ++ .ref b :: rest := by simp
  rcases hl with hl | ⟨host, hl⟩
  · obtain ⟨mk, methM, cM, kP, vm₁, hnamed, hmethM, hcodeM, -, hlocalsM, -, hkP, -, hW₁, hstep₁⟩ := Steps.initColdArgs (e := xf_e z) X.here hx X.warmed hpl hown hy1 hy (hTt.1 _ hl #[]) (hTt.1 _ hst #[]) (hTt.1 _ hwy #[]) (f := F0 (xf_m z) pc lz ((Value.ref b :: as).reverse ++ rest)) rfl hlen hst' (by rw [hb]; exact hd)
    have X₁ := X.noted hW₁
    exact ⟨vm₁, mk, X₁, X₁.named hnamed, fun target h => hstep₁ _ fun acts => by rw [doInvoke_state]; exact h⟩
  · obtain ⟨mk, methM, cM, kP, vm₁, hnamed, hmethM, hcodeM, -, hlocalsM, -, hkP, -, hW₁, hstep₁⟩ := Steps.initColdArgsNest (e := xf_e z) X.here hx X.warmed hpl hown hy1 hy (va_Nw.use (A := #[]) rfl (hTt.2 _ hl)) (hTt.1 _ hst #[]) (hTt.1 _ hwy #[]) (f := F0 (xf_m z) pc lz ((Value.ref b :: as).reverse ++ rest)) rfl hlen hst' (by rw [hb]; exact hd)
    have X₁ := X.noted hW₁
    exact ⟨vm₁, mk, X₁, X₁.named hnamed, fun target h => hstep₁ _ fun acts => by rw [doInvoke_state]; exact h⟩
end Xcalls
end
section
section Xcalls2
variable {l : Launch} {z : xj_F} {y0 : MethodName} {cc : ByteArray} {nL : Nat} {ret : Option FieldType} {hs : List (Nat × Nat × Nat × Nat)} {d pc : Nat} {ls : List (Nat × Value)} {st : List Value} {A : xj_H}
def xj_go (l : Launch) (z : xj_F) (pc : Nat) (A : xj_H) (y : MethodName) (av : List Value) : Prop := ∃ need : Heap → List Value → Prop, xj_inv l z pc y av.length need ∧ ∀ ad H locs cells slots, xj_I z ad A H locs cells slots → need H (av.map (xj_v (xf_g z) ad))
def xj_is (A : xj_H) (o : xj_Rf) (ci : Nat) : Bool := match o with
  | some (.inl a) => match A.1[a]? with
    | some (.inr q) => q.1 == ci
    | _ => false
  | _ => false
def xj_rq (A : xj_H) (o : xj_Rf) (ci : Nat) (F : Option xj_R) : Option xj_R := if xj_is A o ci = true then F else none
theorem xj_is_inv {o : xj_Rf} {ci : Nat} (h : xj_is A o ci = true) : ∃ (a : Nat) (fs : List Value), o = some (.inl a) ∧ A.1[a]? = some (.inr (ci, fs)) := by
  unfold xj_is at h
  split at h
  · rename_i a
    split at h
    · rename_i q hq
      have := beq_iff_eq.mp h
      exact ⟨a, q.2, rfl, by rw [hq, ← this]⟩
    · cases h
  · cases h
theorem xj_rq_i {o : xj_Rf} {ci : Nat} {F : Option xj_R} {K : Int32 → xj_H → Option xj_R} {r : xj_R} (h : xj_bi (xj_rq A o ci F) K = some r) : xj_is A o ci = true ∧ xj_bi F K = some r := by
  unfold xj_rq at h
  by_cases hc : xj_is A o ci = true
  · rw [if_pos hc] at h; exact ⟨hc, h⟩
  · rw [if_neg hc] at h; cases h
theorem xj_rq_l {o : xj_Rf} {ci : Nat} {F : Option xj_R} {K : Int64 → xj_H → Option xj_R} {r : xj_R} (h : xj_bl (xj_rq A o ci F) K = some r) : xj_is A o ci = true ∧ xj_bl F K = some r := by
  unfold xj_rq at h
  by_cases hc : xj_is A o ci = true
  · rw [if_pos hc] at h; exact ⟨hc, h⟩
  · rw [if_neg hc] at h; cases h
theorem xj_rq_r {o : xj_Rf} {ci : Nat} {F : Option xj_R} {K : xj_Rf → xj_H → Option xj_R} {r : xj_R} (h : xj_br (xj_rq A o ci F) K = some r) : xj_is A o ci = true ∧ xj_br F K = some r := by
  unfold xj_rq at h
  by_cases hc : xj_is A o ci = true
  · rw [if_pos hc] at h; exact ⟨hc, h⟩
  · rw [if_neg hc] at h; cases h
theorem xj_rq_v {o : xj_Rf} {ci : Nat} {F : Option xj_R} {K : xj_H → Option xj_R} {r : xj_R} (h : xj_bv (xj_rq A o ci F) K = some r) : xj_is A o ci = true ∧ xj_bv F K = some r := by
  unfold xj_rq at h
  by_cases hc : xj_is A o ci = true
  · rw [if_pos hc] at h; exact ⟨hc, h⟩
  · rw [if_neg hc] at h; cases h
theorem xj_bi_inv {F : Option xj_R} {K : Int32 → xj_H → Option xj_R} {r : xj_R} (h : xj_bi F K = some r) : (∃ v A', F = some (.inl (some (.int v)), A') ∧ K v A' = some r) ∨ ∃ x A', F = some (.inr x, A') ∧ r = (.inr x, A') := by
  unfold xj_bi at h
  split at h
  · exact Or.inl ⟨_, _, rfl, h⟩
  · exact Or.inr ⟨_, _, rfl, (Option.some.inj h).symm⟩
  · cases h
theorem xj_bl_inv {F : Option xj_R} {K : Int64 → xj_H → Option xj_R} {r : xj_R} (h : xj_bl F K = some r) : (∃ v A', F = some (.inl (some (.long v)), A') ∧ K v A' = some r) ∨ ∃ x A', F = some (.inr x, A') ∧ r = (.inr x, A') := by
  unfold xj_bl at h
  split at h
  · exact Or.inl ⟨_, _, rfl, h⟩
  · exact Or.inr ⟨_, _, rfl, (Option.some.inj h).symm⟩
  · cases h
theorem xj_br_inv {F : Option xj_R} {K : xj_Rf → xj_H → Option xj_R} {r : xj_R} (h : xj_br F K = some r) : (∃ v A', F = some (.inl (some (xj_rv v)), A') ∧ K v A' = some r) ∨ ∃ x A', F = some (.inr x, A') ∧ r = (.inr x, A') := by
  unfold xj_br at h
  split at h
  · obtain ⟨q, h1, h2⟩ := Option.bind_eq_some_iff.mp h
    exact Or.inl ⟨q, _, by rw [xj_vr_inv h1], h2⟩
  · exact Or.inr ⟨_, _, rfl, (Option.some.inj h).symm⟩
  · cases h
theorem xj_bv_inv {F : Option xj_R} {K : xj_H → Option xj_R} {r : xj_R} (h : xj_bv F K = some r) : (∃ A', F = some (.inl none, A') ∧ K A' = some r) ∨ ∃ x A', F = some (.inr x, A') ∧ r = (.inr x, A') := by
  unfold xj_bv at h
  split at h
  · exact Or.inl ⟨_, rfl, h⟩
  · exact Or.inr ⟨_, _, rfl, (Option.some.inj h).symm⟩
  · cases h
def xj_sw (own : String) (index : Nat) (y : MethodName) (cy : ByteArray) (nLy : Nat) (rety : Option FieldType) (hsy : List (Nat × Nat × Nat × Nat)) (n : Nat) : Prop :=
  (Cond.methodLink own index y ∈ xj_ws ∨ ∃ host, Cond.methodLinkNest own index y host ∈ xj_nw) ∧ Cond.static y ∈ xj_ws ∧ xj_cw y cy nLy rety hsy ∈ xj_ws ∧ Cond.initialized y.cls ∈ xj_ws ∧ (y.cls ≠ "java/lang/invoke/MethodHandle" ∧ y.cls ≠ "java/lang/invoke/VarHandle") ∧ (parseMethodDescriptor y.desc).map (fun q => q.parameters.length) = some n
def xj_vw (own : String) (index : Nat) (ci : Nat) (y : MethodName) (cy : ByteArray) (nLy : Nat) (rety : Option FieldType) (hsy : List (Nat × Nat × Nat × Nat)) (n : Nat) : Prop :=
  ∃ (C : String) (T : u_T) (N : Nat), xj_cl[ci]? = some (C, T, N) ∧ (Cond.methodLink own index y ∈ xj_ws ∨ ∃ host, Cond.methodLinkNest own index y host ∈ xj_nw) ∧ Cond.instanceMethod y ∈ xj_ws ∧ Cond.selects C y y ∈ xj_ws ∧ xj_cw y cy nLy rety hsy ∈ xj_ws ∧ Cond.initialized y.cls ∈ xj_ws ∧ (y.cls ≠ "java/lang/invoke/MethodHandle" ∧ y.cls ≠ "java/lang/invoke/VarHandle") ∧ (parseMethodDescriptor y.desc).map (fun q => q.parameters.length) = some n
def xj_iw (own : String) (index : Nat) (y : MethodName) (cy : ByteArray) (nLy : Nat) (n : Nat) : Prop :=
  (Cond.methodLink own index y ∈ xj_ws ∨ ∃ host, Cond.methodLinkNest own index y host ∈ xj_nw) ∧ Cond.instanceMethod y ∈ xj_ws ∧ Cond.code y cy nLy none ∈ xj_ws ∧ Cond.initialized y.cls ∈ xj_ws ∧ (y.cls ≠ "java/lang/invoke/MethodHandle" ∧ y.cls ≠ "java/lang/invoke/VarHandle") ∧ (parseMethodDescriptor y.desc).map (fun q => q.parameters.length) = some n ∧ y.name = "<init>"
theorem xj_go_s (B : xj_B l y0 cc nL ret hs d z) {y : MethodName} {cy : ByteArray} {nLy n index : Nat} {rety : Option FieldType} {hsy : List (Nat × Nat × Nat × Nat)} {av : List Value} (hd : decode cc pc = .ok (.invokestatic index, 3)) (hw : xj_sw y0.cls index y cy nLy rety hsy n) (hn : av.length = n) : xj_go l z pc A y av := by
  obtain ⟨w1, w2, w3, w4, w5, w6⟩ := hw
  exact ⟨_, by rw [hn]; exact xj_inv_static B hd w1 w2 w3 w4 w5 w6, fun _ _ _ _ _ _ => trivial⟩
theorem xj_go_v (B : xj_B l y0 cc nL ret hs d z) {y : MethodName} {cy : ByteArray} {nLy n index ci : Nat} {rety : Option FieldType} {hsy : List (Nat × Nat × Nat × Nat)} {o : xj_Rf} {as : List Value} (hd : decode cc pc = .ok (.invokevirtual index, 3)) (hw : xj_vw y0.cls index ci y cy nLy rety hsy n) (hn : as.length = n) (hq : xj_is A o ci = true) : xj_go l z pc A y (xj_rv o :: as) := by
  obtain ⟨C, T, N, w0, w1, w2, w3, w4, w5, w6, w7⟩ := hw
  refine ⟨_, by rw [List.length_cons, hn]; exact xj_inv_virtual B hd w1 w2 w3 w6 w7 ⟨_, w4, _, _, _, _, rfl⟩, fun ad H locs cells slots hI => ?_⟩
  obtain ⟨a, fs, rfl, ha⟩ := xj_is_inv hq
  obtain ⟨r, h1, cell, q1, q2, q3, q4⟩ := hI.2.2.1 a _ (xj_w_at ha)
  have hr : r = (C, T, N) := Option.some.inj (h1.symm.trans w0)
  subst hr
  obtain ⟨hS, hfc, kC, hkC, hkind⟩ := B.2.2.2.2.2.2.2.2.2.1.1 ci _ w0
  exact ⟨ad a, as.map (xj_v (xf_g z) ad), cell, rfl, q1, by rw [q3]; rfl, by rw [q2]; exact hfc⟩
theorem xj_go_i (B : xj_B l y0 cc nL ret hs d z) {y : MethodName} {cy : ByteArray} {nLy n index a : Nat} {as : List Value} (hd : decode cc pc = .ok (.invokespecial index, 3)) (hw : xj_iw y0.cls index y cy nLy n) (hn : as.length = n) : xj_go l z pc A y (xj_rv (xj_o a) :: as) := by
  obtain ⟨w1, w2, w3, w4, w5, w6, w7⟩ := hw
  refine ⟨_, by rw [List.length_cons, hn]; exact xj_inv_init B hd w7 w1 w2 w3 w5 w6, fun ad H locs cells slots hI => ?_⟩
  exact ⟨ad a, as.map (xj_v (xf_g z) ad), rfl⟩
theorem xg_ci (B : xj_B l y0 cc nL ret hs d z) {y : MethodName} {cy : ByteArray} {nLy d' : Nat} {rety : Option FieldType} {hsy : List (Nat × Nat × Nat × Nat)} {av : List Value} {F : Option xj_R} {K : Int32 → xj_H → Option xj_R} {ig : Instr} (hd : decode cc pc = .ok (ig, 3)) (hgo : xj_go l z pc A y av) (hwy : xj_cw y cy nLy rety hsy ∈ xj_ws) (hwi : Cond.initialized y.cls ∈ xj_ws) (hdd : d' + 1 ≤ d) (hnLy : nLy ≤ 21) (hst8 : (st.map fun v => v.category).sum ≤ 8) (hout : (tableOf hs).all (fun q => !covers q pc) = true)
    (hM : ∀ r', F = some r' → xj_M l y cy nLy rety hsy d' av A r') (h : xj_bi F K = some (xf_r z)) (kk : ∀ v A', F = some (.inl (some (.int v)), A') → K v A' = some (xf_r z) → xj_W l z (pc + 3) ls (.int v :: st) A') : xj_W l z pc ls (av.reverse ++ st) A := by
  obtain ⟨need, hinv, hneed⟩ := hgo
  rcases xj_bi_inv h with ⟨v, A', hF, hK⟩ | ⟨x, A', hF, hr⟩
  · exact xg_core B hd hinv hneed (hM _ hF) hwy hwi hdd hnLy hst8 (fun w hw => by cases hw; exact kk v A' hF hK) (fun x hx => by cases hx)
  · exact xg_core B hd hinv hneed (hM _ hF) hwy hwi hdd hnLy hst8 (fun w hw => by cases hw) (fun w hx => by cases hx; exact xj_X.leave B hout hr)
theorem xg_cl (B : xj_B l y0 cc nL ret hs d z) {y : MethodName} {cy : ByteArray} {nLy d' : Nat} {rety : Option FieldType} {hsy : List (Nat × Nat × Nat × Nat)} {av : List Value} {F : Option xj_R} {K : Int64 → xj_H → Option xj_R} {ig : Instr} (hd : decode cc pc = .ok (ig, 3)) (hgo : xj_go l z pc A y av) (hwy : xj_cw y cy nLy rety hsy ∈ xj_ws) (hwi : Cond.initialized y.cls ∈ xj_ws) (hdd : d' + 1 ≤ d) (hnLy : nLy ≤ 21) (hst8 : (st.map fun v => v.category).sum ≤ 8) (hout : (tableOf hs).all (fun q => !covers q pc) = true)
    (hM : ∀ r', F = some r' → xj_M l y cy nLy rety hsy d' av A r') (h : xj_bl F K = some (xf_r z)) (kk : ∀ v A', F = some (.inl (some (.long v)), A') → K v A' = some (xf_r z) → xj_W l z (pc + 3) ls (.long v :: st) A') : xj_W l z pc ls (av.reverse ++ st) A := by
  obtain ⟨need, hinv, hneed⟩ := hgo
  rcases xj_bl_inv h with ⟨v, A', hF, hK⟩ | ⟨x, A', hF, hr⟩
  · exact xg_core B hd hinv hneed (hM _ hF) hwy hwi hdd hnLy hst8 (fun w hw => by cases hw; exact kk v A' hF hK) (fun x hx => by cases hx)
  · exact xg_core B hd hinv hneed (hM _ hF) hwy hwi hdd hnLy hst8 (fun w hw => by cases hw) (fun w hx => by cases hx; exact xj_X.leave B hout hr)
theorem xg_cr (B : xj_B l y0 cc nL ret hs d z) {y : MethodName} {cy : ByteArray} {nLy d' : Nat} {rety : Option FieldType} {hsy : List (Nat × Nat × Nat × Nat)} {av : List Value} {F : Option xj_R} {K : xj_Rf → xj_H → Option xj_R} {ig : Instr} (hd : decode cc pc = .ok (ig, 3)) (hgo : xj_go l z pc A y av) (hwy : xj_cw y cy nLy rety hsy ∈ xj_ws) (hwi : Cond.initialized y.cls ∈ xj_ws) (hdd : d' + 1 ≤ d) (hnLy : nLy ≤ 21) (hst8 : (st.map fun v => v.category).sum ≤ 8) (hout : (tableOf hs).all (fun q => !covers q pc) = true)
    (hM : ∀ r', F = some r' → xj_M l y cy nLy rety hsy d' av A r') (h : xj_br F K = some (xf_r z)) (kk : ∀ v A', F = some (.inl (some (xj_rv v)), A') → K v A' = some (xf_r z) → xj_W l z (pc + 3) ls (xj_rv v :: st) A') : xj_W l z pc ls (av.reverse ++ st) A := by
  obtain ⟨need, hinv, hneed⟩ := hgo
  rcases xj_br_inv h with ⟨v, A', hF, hK⟩ | ⟨x, A', hF, hr⟩
  · exact xg_core B hd hinv hneed (hM _ hF) hwy hwi hdd hnLy hst8 (fun w hw => by cases hw; exact kk v A' hF hK) (fun x hx => by cases hx)
  · exact xg_core B hd hinv hneed (hM _ hF) hwy hwi hdd hnLy hst8 (fun w hw => by cases hw) (fun w hx => by cases hx; exact xj_X.leave B hout hr)
theorem xg_cv (B : xj_B l y0 cc nL ret hs d z) {y : MethodName} {cy : ByteArray} {nLy d' : Nat} {rety : Option FieldType} {hsy : List (Nat × Nat × Nat × Nat)} {av : List Value} {F : Option xj_R} {K : xj_H → Option xj_R} {ig : Instr} (hd : decode cc pc = .ok (ig, 3)) (hgo : xj_go l z pc A y av) (hwy : xj_cw y cy nLy rety hsy ∈ xj_ws) (hwi : Cond.initialized y.cls ∈ xj_ws) (hdd : d' + 1 ≤ d) (hnLy : nLy ≤ 21) (hst8 : (st.map fun v => v.category).sum ≤ 8) (hout : (tableOf hs).all (fun q => !covers q pc) = true)
    (hM : ∀ r', F = some r' → xj_M l y cy nLy rety hsy d' av A r') (h : xj_bv F K = some (xf_r z)) (kk : ∀ A', F = some (.inl none, A') → K A' = some (xf_r z) → xj_W l z (pc + 3) ls (st) A') : xj_W l z pc ls (av.reverse ++ st) A := by
  obtain ⟨need, hinv, hneed⟩ := hgo
  rcases xj_bv_inv h with ⟨A', hF, hK⟩ | ⟨x, A', hF, hr⟩
  · exact xg_core B hd hinv hneed (hM _ hF) hwy hwi hdd hnLy hst8 (fun w hw => by cases hw; exact kk A' hF hK) (fun x hx => by cases hx)
  · exact xg_core B hd hinv hneed (hM _ hF) hwy hwi hdd hnLy hst8 (fun w hw => by cases hw) (fun w hx => by cases hx; exact xj_X.leave B hout hr)
end Xcalls2
end
section
section Xown
/-- the words of a 'throw new X(text)' whose constructor passes its text on to Y's -/
def xh_at (own : String) (ic : Nat) (X Y : String) (idx : Nat) (bytes : ByteArray) (names : List String) : List Cond :=
  (Bundle.throwableAtoms ++ Bundle.throwableSAtoms ++ Bundle.passSAtoms X Y idx bytes ++ Bundle.chainSAtoms Y names) ++
  ([.methodLink own ic (Bundle.initS X), .instantiable X 6, .selects X Bundle.tFill0 Bundle.tFill0, .selects X Bundle.tFill Bundle.tFill] ++
    ([("cause", "Ljava/lang/Throwable;"), ("stackTrace", Bundle.steD), ("suppressedExceptions", Bundle.listD), ("detailMessage", "Ljava/lang/String;"), ("backtrace", "Ljava/lang/Object;")].map (fun q => Cond.lays X Bundle.tN q.1 q.2)) ++
    [.isRef (.static Bundle.tN "UNASSIGNED_STACK" Bundle.steD), .isRef (.static Bundle.tN "SUPPRESSED_SENTINEL" Bundle.listD), .fieldLink Bundle.tN 198 Bundle.tN "backtrace" "Ljava/lang/Object;", .lays Bundle.tN Bundle.tN "backtrace" "Ljava/lang/Object;"])
theorem xh_sel {e : Env} {l : Launch} {args : Array Value} {s : State} {X : String} {y : MethodName} {cX : ClassId} {my : MethodId} (ha : l.admits e) (hX : s.vm.findClass X = some cX) (hy : s.methodNamed? y = some my) (hne : y.cls ≠ "java/lang/invoke/MethodHandle" ∧ y.cls ≠ "java/lang/invoke/VarHandle") (h : (Cond.selects X y y).before args s = true) : selectMethod e.platform s.vm cX my = .method my := by
  obtain ⟨c2, r2, m2, q1, q2, q3, q4, -⟩ := Cond.selects_spec h
  cases Option.some.inj (q1.symm.trans hX)
  cases Option.some.inj (q2.symm.trans (State.methodFound?_of_named hy hne))
  cases Option.some.inj (q3.symm.trans hy)
  rw [Launch.admits_selectMethod ha]; exact q4
set_option maxHeartbeats 1000000 in
theorem xh_own {p : Program} {l : Launch} {e : Env} {R : Room} {s : State} {m : MethodId} {args : Array Value} {below : List Frame} {meth : Method} {c : Code} {V : State} {cells slots : Nat}
    (X : Stand p l e R s m args below meth c V [] cells slots) (hexec : p.tables.exec = Jvm.exec) (htr : e.platform.stackTraces = false) {own cls Y0 : String} {idx ic : Nat} {bytes : ByteArray} {names : List String}
    (hown : s.vm.findClass own = some m.cls) (hcls : Bundle.fit cls = true) (hY0 : Bundle.fit Y0 = true) (hnames : ∀ n ∈ names, Bundle.fit n = true)
    (b0 : decode bytes 0 = .ok (.aload_n 0, 1)) (b1 : decode bytes 1 = .ok (.aload_n 1, 1)) (b2 : decode bytes 2 = .ok (.invokespecial idx, 3)) (b5 : decode bytes 5 = .ok (.return_, 1))
    (h : ∀ w ∈ xh_at own ic cls Y0 idx bytes names, w.before args s = true)
    {a : Addr} {cX : ClassId} {kX : Class} (hfX : s.vm.findClass cls = some cX) (hkX : s.vm.classes[cX]? = some kX) (hcell : V.heap[a]? = some (freshCell cX kX)) (hnew : s.heap.size ≤ a) {msg : Value} (hmsg : msg.isRef = true)
    {g : JFrame} (hg : g.method = m) (hsize : g.locals.size = c.maxLocals) (hlocked : g.locked = none) (hentered : g.entered = []) {rest : List Value} (hstack : g.stack = msg :: .ref a :: .ref a :: rest)
    (hd6 : decode c.code g.pc = .ok (.invokespecial ic, 3)) (hd9 : decode c.code (g.pc + 3) = .ok (.athrow, 1)) (hout : ∀ x ∈ c.exceptionTable.toList, covers x (g.pc + 3) = false)
    (hRf : names.length + 4 < R.frames) (hRl : 2 * g.monitorRoom + ((Value.ref a :: rest).map fun v => v.category).sum + (13 * (names.length + 2) + 42) ≤ R.locals) (hlocks : meth.locks = false) :
    ∃ U : State, Steps p.tables e below (V.setTop g) U ∧ U.status = .running ∧ Ended U below (.threw a) ∧ s.WarmedH U.vm ∧ s.sameButNew ({ U with vm := s.vm } : State) [] cells slots ∧ ∃ ce, U.heap[a]? = some ce ∧ s.vm.findClass cls = some ce.cls ∧ ce.vm = .none := by
  have e1 : e.platform.frameOwnsMonitors = true := by rw [X.admits.platform]
  have e2 : e.platform.finalization = false := by rw [X.admits.platform]
  have e3 : e.platform.magicAccessors = ({} : Platform).magicAccessors := by rw [X.admits.platform]
  have hl : ∀ w ∈ Bundle.throwableAtoms ++ Bundle.throwableSAtoms ++ Bundle.passSAtoms cls Y0 idx bytes ++ Bundle.chainSAtoms Y0 names, w.before args s = true := fun w hw => h w (List.mem_append_left _ hw)
  obtain ⟨T, Z0, L, -, Y⟩ := ThrowableC.of_atoms (args := args) e1 e2 e3 (fun w hw => hl w (by simp [hw]))
  obtain ⟨Z, M, LZ, LM, hnZ⟩ := Init0T.ofS_atoms (args := args) e3 L Y (fun w hw => hl w (by simp [hw]))
  obtain ⟨P0, L0, hm0, hs0⟩ := PassC.ofS_atoms (args := args) (s := s) e3 (X := cls) (Y := Y0) (Bundle.fit_spec hcls).1 (Bundle.fit_spec hY0).2 b0 b1 b2 b5 (fun w hw => hl w (by simp [hw]))
  obtain ⟨P1, Ps, hlen, L1, hL, hm1, hk1, hk2⟩ := Bundle.chainS (args := args) e3 hnZ names Y0 hY0 hnames (fun w hw => hl w (by simp [hw]))
  have hfound : s.vm.findClass cls = some P0.m.cls := findClass_of_methodNamed hm0
  cases Option.some.inj (hfX.symm.trans hfound)
  obtain ⟨c1, kX', hc1, hk, hord, -, -, hn6⟩ := Cond.instantiable_spec (h (.instantiable cls 6) (by simp [xh_at]))
  cases Option.some.inj (hc1.symm.trans hfound)
  cases Option.some.inj (hkX.symm.trans hk)
  have hs1 := xh_sel X.admits hfound Y.fill0 (by decide) (h (.selects cls Bundle.tFill0 Bundle.tFill0) (by simp [xh_at]))
  have hs2 := xh_sel X.admits hfound Y.fill (by decide) (h (.selects cls Bundle.tFill Bundle.tFill) (by simp [xh_at]))
  obtain ⟨cS, hcS, hiss⟩ := Y.statics
  obtain ⟨u0, hu0⟩ := Cond.staticRefV Y.unassigned L.unassignedStatic L.statics hcS hiss (h (.isRef (.static Bundle.tN "UNASSIGNED_STACK" Bundle.steD)) (by simp [xh_at]))
  obtain ⟨sen, hsen⟩ := Cond.staticRefV Y.sentinel L.sentinelStatic L.statics hcS hiss (h (.isRef (.static Bundle.tN "SUPPRESSED_SENTINEL" Bundle.listD)) (by simp [xh_at]))
  obtain ⟨ci8, i8, fB, hk8, hg8, ha8, hsB, -, hnB, htB, hffB⟩ := Cond.ownField (t := .object "java/lang/Object") Y.found L.cls (by decide +kernel) (h (.fieldLink Bundle.tN 198 Bundle.tN "backtrace" "Ljava/lang/Object;") (by simp [xh_at])) (h (.lays Bundle.tN Bundle.tN "backtrace" "Ljava/lang/Object;") (by simp [xh_at])) e.platform e3
  have hcV : V.heap[T.aS]? = some cS := State.sameButNew.old_cell X.same hcS
  have hkn : cS.vm ≠ .unknown := fun hu => by rw [hu] at hiss; cases hiss
  have hne : T.aS ≠ a := Nat.ne_of_lt (Nat.lt_of_lt_of_le (Array.getElem?_eq_some_iff.mp hcS).1 hnew)
  obtain ⟨iM, hffM⟩ := Y.msg
  obtain ⟨tyC, dC, hdC, hdnC⟩ := Cond.laysAt hfound hk Y.cause (h (.lays cls Bundle.tN "cause" "Ljava/lang/Throwable;") (by simp [xh_at]))
  obtain ⟨tyS, dS, hdS, hdnS⟩ := Cond.laysAt hfound hk Y.stack (h (.lays cls Bundle.tN "stackTrace" Bundle.steD) (by simp [xh_at]))
  obtain ⟨tyP, dP, hdP, hdnP⟩ := Cond.laysAt hfound hk Y.supp (h (.lays cls Bundle.tN "suppressedExceptions" Bundle.listD) (by simp [xh_at]))
  obtain ⟨tyM, dM, hdM, hdnM⟩ := Cond.laysAt hfound hk hffM (h (.lays cls Bundle.tN "detailMessage" "Ljava/lang/String;") (by simp [xh_at]))
  obtain ⟨tyB, dB, hdB, hdnB⟩ := Cond.laysAt hfound hk hffB (h (.lays cls Bundle.tN "backtrace" "Ljava/lang/Object;") (by simp [xh_at]))
  have bC := Cond.laysApart hdB hdC hdnB hdnC (by rw [hnB, Y.causeName]; decide)
  have bS := Cond.laysApart hdB hdS hdnB hdnS (by rw [hnB, Y.stackName]; decide)
  have bP := Cond.laysApart hdB hdP hdnB hdnP (by rw [hnB, Y.suppName]; decide)
  have hskip : SkipFacts T e.platform s (fun u => u) u0 ((preparedCellV T.toThrowableT (freshCell P0.m.cls kX) a u0 sen).withEntry V.cur) :=
    ⟨{ ci198 := ci8, i198 := i8, fBack := fB }, ⟨hk8, hg8, ha8, hsB⟩, by
      have h9 := fresh_default (c := P0.m.cls) tyB
      rw [htB] at h9
      simpa [preparedCellV, Cell.setSlot, Cell.withEntry, Array.getElem?_setIfInBounds, bC, bS, bP, bC.symm, bS.symm, bP.symm, defaultValue] using h9, fun _ _ => rfl⟩
  obtain ⟨tm, methC, cdC, kC, vm₁, hnC, -, -, -, -, -, -, -, hW₁, st1⟩ := Steps.initColdS (tb := p.tables) (e := e) (below := below) (s := s) (U := V) X.here hexec X.warmed e3 hown (t := Bundle.initS cls) rfl rfl (Bundle.fit_spec hcls).2
    (h (.methodLink own ic (Bundle.initS cls)) (by simp [xh_at])) (hl (.instanceMethod (Bundle.initS cls)) (by simp [Bundle.passSAtoms])) (bytes := bytes) (maxL := 2) (hl (.code (Bundle.initS cls) bytes 2 none) (by simp [Bundle.passSAtoms])) (f := g) hg (a := a) (msg := msg) (rest := .ref a :: rest) hstack hd6
  cases Option.some.inj (hnC.symm.trans hm0)
  have X1 := X.noted hW₁
  obtain ⟨vm₂, X2, st2⟩ := X1.ctorMessageOffV hexec (g := { g with stack := .ref a :: rest }) hg hsize T L Z LZ M LM (P0 :: P1 :: Ps)
    (fun P hP => by rcases List.mem_cons.mp hP with rfl | hP; exact L0; rcases List.mem_cons.mp hP with rfl | hP; exact L1; exact hL P hP) ⟨Option.some.inj (hs0.symm.trans hm1), hk1, hk2⟩ (u0 := u0) (sen := sen) (self := a) hmsg (cell := freshCell P0.m.cls kX) (cellS := cS)
    hcell (fun _ => by simp) (by simp) rfl rfl hs1 hs2 hcV hne hkn hu0 hsen
    (Takes.of_laid hk hord tyC (by rw [Y.causeType]; rfl)) (Takes.of_laid hk hord tyS (by rw [Y.stackType]; exact fits_refV_array _ u0)) (Takes.of_laid hk hord tyP (by rw [Y.suppType]; exact fits_refV_object _ sen))
    (Takes.of_laid hk hord tyM (by rw [Y.msgType]; exact fits_refV_object _ ⟨msg, hmsg⟩)) Y.objLocals hskip htr [] hd6 (by simp only [List.length_cons, hlen]; omega) (by simp only [List.length_cons, hlen]; exact hRl)
  obtain ⟨w1, w2, w3, w4, w5⟩ := X2.athrowLeaves hexec (g := { g with stack := .ref a :: rest, pc := g.pc + 3 }) hg hlocked hentered hout (a := a) (rest := rest) rfl hd9 hlocks
  have hlt : a < ((V.setVm vm₁).setVm vm₂).heap.size := (Array.getElem?_eq_some_iff.mp hcell).1
  have hU := heapAt_setCell_self (s := (V.setVm vm₁).setVm vm₂) (plainBareV T.toThrowableT (freshCell P0.m.cls kX) a u0 sen msg) hlt
  refine ⟨_, st1 _ (fun acts => ?_), w2, w3, w4, w5.weaken (fun y hy hlt' => ?_) (Nat.le_refl _) (Nat.le_refl _), _, hU, hfound, rfl⟩
  · rw [doInvoke_state]
    exact st2 _ w1
  · exfalso
    have hb : y.base = a := by
      simp only [List.nil_append, List.mem_cons, List.not_mem_nil, or_false] at hy
      rcases hy with rfl | rfl | rfl | rfl | rfl <;> rfl
    rw [hb] at hlt'
    exact Nat.not_lt.mpr hnew hlt'
end Xown
end
section
section Xthrows
variable {l : Launch} {z : xj_F} {y0 : MethodName} {cc : ByteArray} {nL : Nat} {ret : Option FieldType} {hs : List (Nat × Nat × Nat × Nat)} {d pc : Nat} {ls : List (Nat × Value)} {st : List Value} {A : xj_H}
/-- the same walk, counted from where it stands now -/
theorem xc_rebase {p : Program} {e : Env} {R : Room} {s : State} {m : MethodId} {args : Array Value} {below : List Frame} {meth : Method} {c : Code} {T : State} {locs : List Loc} {cells slots : Nat}
    (X : Stand p l e R s m args below meth c T locs cells slots) (hc : cells ≤ R.cells) (hs : slots ≤ R.slots) :
    Stand p l e { frames := R.frames, cells := R.cells - cells, slots := R.slots - slots, locals := R.locals } (T.setFrames (.invoking m args :: below)) m args below meth c T [] 0 0 := by
  obtain ⟨g₀, hfr⟩ := X.frames_eq
  have hcur : T.cur < T.threads.size := State.cur_lt_of_frames hfr
  have hf' : (T.setFrames (.invoking m args :: below)).frames = .invoking m args :: below := State.frames_setFrames _ hcur
  have hm' : (T.setFrames (.invoking m args :: below)).vm.method? m = some meth := X.method'
  have h1 := X.cellsAbove (n := R.cells - cells) (by omega)
  have h2 := X.slotsAbove (n := R.slots - slots) (by omega)
  refine ⟨X.admits, X.cas, X.clock, hf', ?_, ?_, hm', X.code, X.here, X.tail, State.WarmedH.refl _, (State.stackLimits_setFrames ..).symm, (State.stackBytes_setFrames ..).symm, ?_⟩
  · have hr := X.room
    have hb := X.book
    simp only [State.hasRoom, Bool.and_eq_true, decide_eq_true_eq] at hr ⊢
    obtain ⟨⟨⟨⟨r1, r2, r3, r4, r5, r6⟩, r7⟩, r8⟩, r9⟩ := hr
    rw [State.localsInUse_invoking X.frames X.method X.code] at r1 r4 r5
    rw [X.frames] at r2 r3
    rw [State.localsInUse_invoking hf' hm' X.code, hf', State.stackLimits_setFrames, State.stackBytes_setFrames, X.limits, X.bytes]
    exact ⟨⟨⟨⟨r1, r2, r3, r4, r5, r6⟩, h1⟩, h2⟩, hb⟩
  · have hh := X.hears
    have hc? : ∀ mm, (T.setFrames (.invoking m args :: below)).code? mm = s.code? mm := fun mm => by
      rw [State.code?_eq, State.code?_eq]
      show (T.vm.method? mm).bind _ = _
      rw [X.warmed.alike.method?]
    unfold State.hears at hh ⊢
    split at hh
    · rw [hc?]; exact hh
    · rfl
    · rfl
    · show (T.vm.method? m).any _ = true
      rw [X.warmed.alike.method?]; exact hh
  · obtain ⟨th, hth, -⟩ := State.frames_cons hf'
    have h := (State.sameButNew.refl (T.setFrames (.invoking m args :: below)) hth).setFrames T.frames (State.cur_lt_of_frames hf')
    have he : (T.setFrames (.invoking m args :: below)).setFrames T.frames = T := by
      obtain ⟨th2, hth2, -⟩ := State.frames_cons hfr
      rw [State.setFrames_setFrames, State.setFrames_self hth2]
    rw [he] at h
    exact h
theorem xj_th_inv {x : String} {r : xj_R} (h : xj_th A x = some r) : 1 ≤ A.2.1 ∧ 6 ≤ A.2.2 ∧ r = (.inr x, (A.1, A.2.1 - 1, A.2.2 - 6)) := by
  unfold xj_th at h
  by_cases hc : 1 ≤ A.2.1 ∧ 6 ≤ A.2.2
  · rw [if_pos hc] at h
    exact ⟨hc.1, hc.2, (Option.some.inj h).symm⟩
  · rw [if_neg hc] at h
    cases h
/-- the words of a 'throw new X(text)' -/
def xj_xw (own : String) (ix is ic : Nat) (X : String) (idx : Nat) (bytes : ByteArray) : Prop :=
  Cond.classLink own ix X ∈ xj_ws ∧ Cond.initialized X ∈ xj_ws ∧ Cond.instantiable X 6 ∈ xj_ws ∧ (∀ w ∈ xh_at own ic X "java/lang/RuntimeException" idx bytes ["java/lang/Exception"], w ∈ xj_ws ∨ w = .isRef (.static Bundle.tN "UNASSIGNED_STACK" Bundle.steD) ∨ w = .isRef (.static Bundle.tN "SUPPRESSED_SENTINEL" Bundle.listD) ∨ w = .laysStatic Bundle.tN "UNASSIGNED_STACK" Bundle.steD ∨ w = .laysStatic Bundle.tN "SUPPRESSED_SENTINEL" Bundle.listD) ∧
  Bundle.fit X = true ∧ (decode bytes 0 = .ok (.aload_n 0, 1) ∧ decode bytes 1 = .ok (.aload_n 1, 1) ∧ decode bytes 2 = .ok (.invokespecial idx, 3) ∧ decode bytes 5 = .ok (.return_, 1)) ∧ ∃ i tx, (own, is, i, tx) ∈ xj_sr
theorem xg_throw (B : xj_B l y0 cc nL ret hs d z) {X : String} {ix is ic idx : Nat} {bytes : ByteArray} (d0 : decode cc pc = .ok (.new ix, 3)) (d3 : decode cc (pc + 3) = .ok (.dup, 1)) (d4 : decode cc (pc + 3 + 1) = .ok (.ldc is, 2)) (d6 : decode cc (pc + 3 + 1 + 2) = .ok (.invokespecial ic, 3)) (d9 : decode cc (pc + 3 + 1 + 2 + 3) = .ok (.athrow, 1))
    (hw : xj_xw y0.cls ix is ic X idx bytes) (hdp : 6 ≤ d) (hout : (tableOf hs).all (fun q => !covers q (pc + 3 + 1 + 2 + 3)) = true) (h : xj_th A X = some (xf_r z)) : xj_W l z pc ls [] A := by
  intro ad H locs cells slots lz hI hls hst hlv T hT X0
  obtain ⟨g1, g2, hr⟩ := xj_th_inv h
  obtain ⟨w1, w2, w3, w4, w5, ⟨v0, v1, v2, v5⟩, i, tx, w8⟩ := hw
  have hpre := xj_pre_at B (T := T) hI hT X0.warmed
  obtain ⟨hx, hb, hml, hret, hlo, htab, hown, hnm, hTt, hK, hS, hP0, hR, htr⟩ := B
  have hc1 : cells + 1 ≤ (xf_R z).cells := by rw [hR]; show cells + 1 ≤ (xf_H z).2.1; have := hI.2.2.2.2.2.2.1; omega
  have hc2 : slots + 6 ≤ (xf_R z).slots := by rw [hR]; show slots + 6 ≤ (xf_H z).2.2; have := hI.2.2.2.2.2.2.2; omega
  have X1 := xc_rebase X0 (by omega) (by omega)
  have hown' : (T.setFrames (.invoking (xf_m z) (xf_a z) :: xf_b z)).vm.findClass y0.cls = some (xf_m z).cls := by
    show T.vm.findClass _ = _
    rw [X0.warmed.alike.findClass]; exact hown
  have hTt' : xj_T (T.setFrames (.invoking (xf_m z) (xf_a z) :: xf_b z)) := hTt.warm X0.warmed
  have hS' : xj_S (xf_g z) (xj_al (xf_g z) ad A T) (T.setFrames (.invoking (xf_m z) (xf_a z) :: xf_b z)) T.heap := hpre.2.2.1
  obtain ⟨vm', cX, kX, f1, f2, f3, f4, X2, st2⟩ := X1.newCold hx (own := y0.cls) (C := X) (index := ix) (n := 6) hown' (hTt'.1 _ w1 _) (hTt'.1 _ w3 _) (hTt'.1 _ w2 _) (g := F0 (xf_m z) pc lz []) rfl (by rw [hb]; exact d0) (by show 0 + 1 ≤ (xf_R z).cells - cells; omega) (by show 0 + 6 ≤ (xf_R z).slots - slots; omega)
  have hcellA : ((T.setVm vm').pushCell { cls := cX, slots := kX.instanceTypes.map defaultValue, vm := .none }).heap[T.heap.size]? = some (freshCell cX kX) := State.heap_pushCell_size _ _
  have hsr := xj_S.str hS' w8
  have hatoms : ∀ w ∈ xh_at y0.cls ic X "java/lang/RuntimeException" idx bytes ["java/lang/Exception"], w.before (xf_a z) (T.setFrames (.invoking (xf_m z) (xf_a z) :: xf_b z)) = true := by
    intro w hw
    rcases w4 w hw with h | rfl | rfl | rfl | rfl
    · exact hTt'.1 _ h _
    · exact xj_L.isRef (s := T.setFrames (.invoking (xf_m z) (xf_a z) :: xf_b z)) hS'.2.2.1
    · exact xj_L.isRef (s := T.setFrames (.invoking (xf_m z) (xf_a z) :: xf_b z)) hS'.2.2.2.1
    · exact xj_L.lays (s := T.setFrames (.invoking (xf_m z) (xf_a z) :: xf_b z)) hS'.2.2.1
    · exact xj_L.lays (s := T.setFrames (.invoking (xf_m z) (xf_a z) :: xf_b z)) hS'.2.2.2.1
  have hk : W (xf_p z) l (xf_e z) { frames := (xf_R z).frames, cells := (xf_R z).cells - cells, slots := (xf_R z).slots - slots, locals := (xf_R z).locals } (T.setFrames (.invoking (xf_m z) (xf_a z) :: xf_b z)) (xf_m z) (xf_a z) (xf_b z) (xf_t z) (xf_c z) ((T.setVm vm').pushCell { cls := cX, slots := kX.instanceTypes.map defaultValue, vm := .none }).heap [] (0 + 1) (0 + 6)
      (fun U => U.status = .running ∧ Ended U (xf_b z) (.threw T.heap.size) ∧ (T.setFrames (.invoking (xf_m z) (xf_a z) :: xf_b z)).WarmedH U.vm ∧ (T.setFrames (.invoking (xf_m z) (xf_a z) :: xf_b z)).sameButNew ({ U with vm := (T.setFrames (.invoking (xf_m z) (xf_a z) :: xf_b z)).vm } : State) [] (0 + 1) (0 + 6) ∧ ∃ ce, U.heap[T.heap.size]? = some ce ∧ (T.setFrames (.invoking (xf_m z) (xf_a z) :: xf_b z)).vm.findClass X = some ce.cls ∧ ce.vm = .none)
      (F0 (xf_m z) (pc + 3) lz [.ref T.heap.size]) := by
    refine lv_dup hx hb d3 rfl ?_
    refine va_ldcS hx hb hown' hsr d4 ?_
    intro T2 hT2 X3
    obtain ⟨U, u1, u2, u3, u4, u5, u6⟩ := xh_own X3 hx htr (own := y0.cls) (cls := X) (Y0 := "java/lang/RuntimeException") (names := ["java/lang/Exception"]) (ic := ic) hown' w5 (by decide +kernel) (by decide +kernel) v0 v1 v2 v5 hatoms f1 f2 (by rw [hT2]; exact hcellA) (Nat.le_refl _) (msg := .ref ((xf_g z).2.2.1 (100 + i))) rfl
      (g := F0 (xf_m z) (pc + 3 + 1 + 2) lz [.ref ((xf_g z).2.2.1 (100 + i)), .ref T.heap.size, .ref T.heap.size]) rfl hlv.1 rfl rfl (rest := []) rfl (by rw [hb]; exact d6) (by rw [hb]; exact d9) (outside_of_table htab hout)
      (by show 5 < (xf_R z).frames; rw [hR]; show 5 < d; omega) (by
        show _ ≤ (xf_R z).locals
        rw [hR]
        show 2 * (F0 (xf_m z) (pc + 3 + 1 + 2) lz [.ref ((xf_g z).2.2.1 (100 + i)), .ref T.heap.size, .ref T.heap.size]).monitorRoom + ([Value.ref T.heap.size].map fun v => v.category).sum + (13 * (1 + 2) + 42) ≤ 40 * d
        have := lv_room (m := xf_m z) (pc := pc + 3 + 1 + 2) (ls := lz) (rest := [.ref ((xf_g z).2.2.1 (100 + i)), .ref T.heap.size, .ref T.heap.size]) (st := [Value.ref T.heap.size]) (by simp [Value.category])
        omega) hlo
    exact ⟨U, u1, u2, u3, u4, u5, u6⟩
  obtain ⟨U, u1, u2, u3, u4, u5, ce, u6, u7, u8⟩ := hk _ rfl X2
  refine ⟨U, st2 _ u1, .threw T.heap.size, u2, u3, ad, locs, cells + 1, slots + 6, hI.1, ?_⟩
  have hkeep : ∀ q : Nat, q < H.size → U.heap[q]? = H[q]? := by
    intro q hq
    have hq' : T.heap[q]? = some (T.heap[q]'(by rw [hT]; exact hq)) := Array.getElem?_eq_getElem _
    have h9 := State.sameButNew.old_cell u5 (a := q) hq'
    rw [← hT, hq']; exact h9
  have hle : H.size ≤ U.heap.size := by rw [← hT]; exact u5.2.1
  have hsame : T.sameButNew ({ U with vm := T.vm } : State) [] 1 6 := by
    obtain ⟨e1, e2, e3, e4, e5, e6⟩ := u5
    refine ⟨?_, e2, e3, e4, e5, e6⟩
    rw [State.setFrames_setFrames] at e1
    exact e1
  have hs2 := X0.same.trans (hsame.setVm (xf_s z).vm)
  rw [List.append_nil] at hs2
  rw [hr]
  refine ⟨hI.2.1, ?_, hI.2.2.2.1, hI.2.2.2.2.1, ⟨Nat.le_trans hI.2.2.2.2.2.1.1 hle, fun q hq hna => ?_⟩, State.WarmedH.trans X0.warmed u4, hs2, hI.2.2.2.2.2.1.2.2, ?_, ?_, T.heap.size, ce, rfl, u6, u8, ?_⟩
  · refine hI.2.2.1.kept (fun k q hk => ?_)
    refine hkeep q.1 ?_
    have h9 := hI.2.2.1 k q hk
    obtain ⟨a, x⟩ := q
    cases x with
    | inl x => exact (Array.getElem?_eq_some_iff.mp h9).1
    | inr x =>
      obtain ⟨r, _, cell, q1, _⟩ := h9
      exact (Array.getElem?_eq_some_iff.mp q1).1
  · rw [hkeep q (Nat.lt_of_lt_of_le hq hI.2.2.2.2.2.1.1)]; exact hI.2.2.2.2.2.1.2.1 q hq hna
  · show cells + 1 + (A.2.1 - 1) ≤ _
    have := hI.2.2.2.2.2.2.1; omega
  · show slots + 6 + (A.2.2 - 6) ≤ _
    have := hI.2.2.2.2.2.2.2; omega
  · have h9 : T.vm.findClass X = some ce.cls := u7
    rw [X0.warmed.alike.findClass] at h9
    exact h9
end Xthrows
end
section
section Xcatch
/-- the search gives h and leaves the tables vm' -/
def xh_to (e : Env) (s : State) (f : JFrame) (a : Addr) (h : Handler) (vm' : Vm) : Prop :=
  ∀ (Q : Handler → Pre) (E : CtlPost) (b : Bool) (acts : List Action), wp (findHandler f a) Q E e b acts s ↔ Q h b acts (s.setVm vm')
theorem xh_link {Q : Handler → Pre} {E : CtlPost} {e : Env} {b : Bool} {acts : List Action} {s : State} {f : JFrame} {a : Addr} {x : ExceptionTableEntry} {t : List ExceptionTableEntry} {c : ClassId} {cell : Cell} (hx : covers x f.pc = true) (h0 : x.catchType ≠ 0)
    (hl : s.vm.ClassLinks e.platform f.method.cls x.catchType c) (hcell : s.heap[a]? = some cell) (hobj : ∀ k, cell.vm ≠ .statics k) (hk : ∃ k, s.vm.classes[cell.cls]? = some k) (hc : ∃ k, s.vm.classes[c]? = some k) :
    wp (findHandler.go f a (x :: t)) Q E e b acts s ↔ if s.vm.assignable cell.cls c = true then Q (.found x.handlerPc) b acts (s.setVm (s.vm.noted f.method.cls x.catchType (.cls c))) else wp (findHandler.go f a t) Q E e b acts (s.setVm (s.vm.noted f.method.cls x.catchType (.cls c))) := by
  simp only [covers] at hx
  obtain ⟨ha, ht⟩ := (resolveClass_links e.toSetting hl).op (op := VmOp.resolveClass f.method.cls x.catchType) rfl
  have hal : s.vm.Alike (s.vm.noted f.method.cls x.catchType (.cls c)) := (Vm.Alike.refl s.vm).noted _ _ _
  obtain ⟨k1, hk1⟩ := hk
  obtain ⟨k2, hk2⟩ := hc
  obtain ⟨k1', hk1', -⟩ := hal.2.2 _ _ hk1
  obtain ⟨k2', hk2', -⟩ := hal.2.2 _ _ hk2
  cases hfit : s.vm.assignable cell.cls c with
  | true =>
    have hfit' : (s.vm.noted f.method.cls x.catchType (.cls c)).assignable cell.cls c = true := by rw [hal.assignable]; exact hfit
    simp [findHandler.go, hx, h0, ha, ht, hcell, hobj, hk1', hk2', hfit', VmOp.dirties, VmOp.acts]
  | false =>
    have hfit' : (s.vm.noted f.method.cls x.catchType (.cls c)).assignable cell.cls c = false := by rw [hal.assignable]; exact hfit
    simp [findHandler.go, hx, h0, ha, ht, hcell, hobj, hk1', hk2', hfit', VmOp.dirties, VmOp.acts]
theorem xh_step {tb : Tables} {e : Env} {s target : State} {g : JFrame} {c : Code} {below : List Frame} {a : Addr} (h : At s g.method c below) {pc : Nat} {vm' : Vm}
    (hfind : xh_to e ((s.setTop g).pushFrame (.throwing a)) g a (.found pc) vm') (hrest : Steps tb e below ((s.setVm vm').setTop { g with pc := pc, stack := [.ref a] }) target) : Steps tb e below ((s.setTop g).pushFrame (.throwing a)) target := by
  obtain ⟨hgo, hw⟩ := h.throwing a
  refine Steps.head hgo hw ?_
  have hst : (stepThrowing e ((s.setTop g).pushFrame (.throwing a)) a (.java g :: s.frames.tail)).Is ((((s.setTop g).pushFrame (.throwing a)).setVm vm').setFrames (.java { g with pc := pc, stack := [.ref a] } :: s.frames.tail)) [] := by
    simp only [stepThrowing, searchFrame, vmDo]
    generalize hr : Sem.go _ e false [] ((s.setTop g).pushFrame (.throwing a)) = res
    obtain ⟨as, rfl, ha⟩ := Sem.eq_ok_of hr (a := Handler.found pc) (s' := ((s.setTop g).pushFrame (.throwing a)).setVm vm') (acts' := []) (by simp [hfind _ _ _ _])
    exact ⟨rfl, ha⟩
  rw [stepThread_throwing (frames_entered h.top _), hst.1]
  obtain ⟨g₀, hg⟩ := Option.isSome_iff_exists.mp h.top
  obtain ⟨r, hr⟩ := State.topJava?_eq_some.mp hg
  have hr' : (s.setVm vm').frames = .java g₀ :: r := hr
  rw [State.setTop_of_frames _ hr'] at hrest
  have he : ∀ (F G : List Frame), ((s.setFrames F).setVm vm').setFrames G = (s.setVm vm').setFrames G := fun F G => by
    have h1 : (s.setFrames F).setVm vm' = (s.setVm vm').setFrames F := rfl
    rw [h1, State.setFrames_setFrames]
  rw [hr, List.tail_cons, State.pushFrame, State.setTop_of_frames _ hr, State.setFrames_setFrames, he]
  exact hrest
variable {l : Launch} {z : xj_F} {y0 : MethodName} {cc : ByteArray} {nL : Nat} {ret : Option FieldType} {hs : List (Nat × Nat × Nat × Nat)} {d pc : Nat} {ls : List (Nat × Value)} {st : List Value} {A : xj_H}
/-- the first entry of the table takes it -/
theorem xj_X.catch1 (B : xj_B l y0 cc nL ret hs d z) {x name : String} {q : Nat × Nat × Nat × Nat} {rest : List (Nat × Nat × Nat × Nat)} (hh : hs = q :: rest) (hcov : q.1 ≤ pc ∧ pc < q.2.1) (h0 : q.2.2.2 ≠ 0) (wl : Cond.classLink y0.cls q.2.2.2 name ∈ xj_ws) (wc : Cond.castable x name ∈ xj_ws)
    {i n : Nat} {ig : Instr} (hd : decode cc q.2.2.1 = .ok (ig, n)) (hig : (∃ k : Fin 4, ig = .astore_n k ∧ (k : Nat) = i ∧ n = 1) ∨ (ig = .astore i ∧ n = 2)) (hi : i < nL) (hq : xj_nl i ls) {ls' : List (Nat × Value)} (he : ls.filter (fun q => !(q.1 == i)) = ls') (k : xj_W l z (q.2.2.1 + n) ls' [] A) : xj_X l z pc ls x A := by
  intro ad H locs cells slots lz stC a cell T hI hls hlv hcell hvm hcls hT X
  obtain ⟨hx, hb, hml, hret, hlo, htab, hown, hnm, hTt, hK, hS, hP0, hR, htr⟩ := B
  subst hh
  have hpl : (xf_e z).platform.magicAccessors = ({} : Platform).magicAccessors := by rw [X.admits.platform]
  obtain ⟨cT, hcT, hcl⟩ := Cond.classLink_spec hown (hTt.1 _ wl (xf_a z)) (xf_e z).platform hpl
  obtain ⟨c3, t3, hc3, ht3, hasg⟩ := Cond.castable_spec (hTt.1 _ wc (xf_a z))
  cases hcls.symm.trans hc3
  cases hcT.symm.trans ht3
  obtain ⟨dk, _, _, kt, hdk, _, _, _, _, hkt, _, hopen⟩ := hcl.here
  have hcl₀ := X.warmed.classLinks hcl
  have hW' : (xf_s z).WarmedH (T.vm.noted (xf_m z).cls q.2.2.2 (.cls cT)) := X.warmed.noted hdk hopen (State.rightAt_cls hcl)
  have hal := X.warmed.alike
  obtain ⟨kt', hkt', -⟩ := hal.2.2 _ _ hkt
  have hfit' : T.vm.assignable cell.cls cT = true := by rw [hal.assignable]; exact hasg
  have XV := X.noted hW'
  have hfind : xh_to (xf_e z) ((T.setTop (F0 (xf_m z) pc lz stC)).pushFrame (.throwing a)) (F0 (xf_m z) pc lz stC) a (.found q.2.2.1) (T.vm.noted (xf_m z).cls q.2.2.2 (.cls cT)) := by
    intro Q E b acts
    rw [W.findHandler_eq (s := (T.setTop (F0 (xf_m z) pc lz stC)).pushFrame (.throwing a)) (f := F0 (xf_m z) pc lz stC) X.method' X.code, htab]
    show wp (findHandler.go _ _ (⟨q.1, q.2.1, q.2.2.1, q.2.2.2⟩ :: tableOf rest)) Q E _ b acts _ ↔ _
    refine (xh_link (s := (T.setTop (F0 (xf_m z) pc lz stC)).pushFrame (.throwing a)) (f := F0 (xf_m z) pc lz stC) (a := a) (x := ⟨q.1, q.2.1, q.2.2.1, q.2.2.2⟩) (c := cT) (cell := cell) (by simp [covers, hcov.1, hcov.2]) h0 hcl₀ (by show T.heap[a]? = _; rw [hT]; exact hcell) (by rw [hvm]; intro k h; cases h) (Vm.classAt_of_assignable hfit' ⟨kt', hkt'⟩) ⟨kt', hkt'⟩).trans ?_
    rw [if_pos (show ((T.setTop (F0 (xf_m z) pc lz stC)).pushFrame (.throwing a)).vm.assignable cell.cls cT = true from hfit')]
    exact Iff.rfl
  have hlv0 : lv_has lz (xf_c z).maxLocals (ls.map (fun q => (q.1, xj_v (xf_g z) ad q.2))) := hlv
  have hcont : ∀ lz' : Array Slot, lv_has lz' (xf_c z).maxLocals ((i, Value.ref a) :: ls'.map (fun q => (q.1, xj_v (xf_g z) ad q.2))) → W (xf_p z) l (xf_e z) (xf_R z) (xf_s z) (xf_m z) (xf_a z) (xf_b z) (xf_t z) (xf_c z) H locs cells slots (xj_Q z) (F0 (xf_m z) (q.2.2.1 + n) lz' []) := fun lz' h' =>
    k ad H locs cells slots lz' hI (fun w hw => hls w (by rw [← he] at hw; exact (List.mem_filter.mp hw).1)) trivial ⟨h'.1, h'.2.1, fun w hw => h'.2.2 w (List.mem_cons_of_mem _ hw)⟩
  have hWh : W (xf_p z) l (xf_e z) (xf_R z) (xf_s z) (xf_m z) (xf_a z) (xf_b z) (xf_t z) (xf_c z) H locs cells slots (xj_Q z) (F0 (xf_m z) q.2.2.1 lz [.ref a]) := by
    rcases hig with ⟨kk, rfl, hk, rfl⟩ | ⟨rfl, rfl⟩
    · exact lv_astore_n hx hb hd hk hlv0 (by rw [hml]; exact hi) (by rw [xj_f1 _ _ _ hq, he]) hcont
    · exact lv_astore hx hb hd hlv0 (by rw [hml]; exact hi) (by rw [xj_f1 _ _ _ hq, he]) hcont
  obtain ⟨t, ht1, ht2⟩ := hWh (T.setVm (T.vm.noted (xf_m z).cls q.2.2.2 (.cls cT))) hT XV
  exact ⟨t, xh_step X.here hfind ht1, ht2⟩
/-- the first entry passes it on, the second takes it -/
theorem xj_X.catch2 (B : xj_B l y0 cc nL ret hs d z) {x nm1 name : String} {q1 q : Nat × Nat × Nat × Nat} {rest : List (Nat × Nat × Nat × Nat)} (hh : hs = q1 :: q :: rest) (hcov1 : q1.1 ≤ pc ∧ pc < q1.2.1) (hcov : q.1 ≤ pc ∧ pc < q.2.1) (h01 : q1.2.2.2 ≠ 0) (h0 : q.2.2.2 ≠ 0) (wl1 : Cond.classLink y0.cls q1.2.2.2 nm1 ∈ xj_ws) (wl : Cond.classLink y0.cls q.2.2.2 name ∈ xj_ws)
    (wn : ∀ U, (xf_s z).WarmedH U → ∀ c t, U.findClass x = some c → U.findClass nm1 = some t → U.assignable c t = false) (wc : Cond.castable x name ∈ xj_ws)
    {i n : Nat} {ig : Instr} (hd : decode cc q.2.2.1 = .ok (ig, n)) (hig : (∃ k : Fin 4, ig = .astore_n k ∧ (k : Nat) = i ∧ n = 1) ∨ (ig = .astore i ∧ n = 2)) (hi : i < nL) (hq : xj_nl i ls) {ls' : List (Nat × Value)} (he : ls.filter (fun q => !(q.1 == i)) = ls') (k : xj_W l z (q.2.2.1 + n) ls' [] A) : xj_X l z pc ls x A := by
  intro ad H locs cells slots lz stC a cell T hI hls hlv hcell hvm hcls hT X
  obtain ⟨hx, hb, hml, hret, hlo, htab, hown, hnm, hTt, hK, hS, hP0, hR, htr⟩ := B
  subst hh
  have hpl : (xf_e z).platform.magicAccessors = ({} : Platform).magicAccessors := by rw [X.admits.platform]
  obtain ⟨cN, hcN, hclN⟩ := Cond.classLink_spec hown (hTt.1 _ wl1 (xf_a z)) (xf_e z).platform hpl
  obtain ⟨cT, hcT, hcl⟩ := Cond.classLink_spec hown (hTt.1 _ wl (xf_a z)) (xf_e z).platform hpl
  obtain ⟨c3, t3, hc3, ht3, hasg⟩ := Cond.castable_spec (hTt.1 _ wc (xf_a z))
  cases hcls.symm.trans hc3
  cases hcT.symm.trans ht3
  have hclN₀ := X.warmed.classLinks hclN
  obtain ⟨dkN, _, _, ktN, hdkN, _, _, _, _, hktN, _, hopenN⟩ := hclN.here
  obtain ⟨dk, _, _, kt, hdk, _, _, _, _, hkt, _, hopen⟩ := hcl.here
  have hW1 : (xf_s z).WarmedH (T.vm.noted (xf_m z).cls q1.2.2.2 (.cls cN)) := X.warmed.noted hdkN hopenN (State.rightAt_cls hclN)
  have X1 := X.noted hW1
  have hcl₁ := hW1.classLinks hcl
  have hW' : (xf_s z).WarmedH ((T.vm.noted (xf_m z).cls q1.2.2.2 (.cls cN)).noted (xf_m z).cls q.2.2.2 (.cls cT)) := hW1.noted hdk hopen (State.rightAt_cls hcl)
  have XV := X1.noted hW'
  have hal := X.warmed.alike
  have hal1 := hW1.alike
  obtain ⟨ktN', hktN', -⟩ := hal.2.2 _ _ hktN
  obtain ⟨kt', hkt', -⟩ := hal1.2.2 _ _ hkt
  obtain ⟨kt0, hkt0, -⟩ := hal.2.2 _ _ hkt
  have hfit0 : T.vm.assignable cell.cls cT = true := by rw [hal.assignable]; exact hasg
  have hfit' : (T.vm.noted (xf_m z).cls q1.2.2.2 (.cls cN)).assignable cell.cls cT = true := by rw [hal1.assignable]; exact hasg
  have hno : T.vm.assignable cell.cls cN = false := wn T.vm X.warmed cell.cls cN (by rw [hal.findClass]; exact hcls) (by rw [hal.findClass]; exact hcN)
  have hfind : xh_to (xf_e z) ((T.setTop (F0 (xf_m z) pc lz stC)).pushFrame (.throwing a)) (F0 (xf_m z) pc lz stC) a (.found q.2.2.1) ((T.vm.noted (xf_m z).cls q1.2.2.2 (.cls cN)).noted (xf_m z).cls q.2.2.2 (.cls cT)) := by
    intro Q E b acts
    rw [W.findHandler_eq (s := (T.setTop (F0 (xf_m z) pc lz stC)).pushFrame (.throwing a)) (f := F0 (xf_m z) pc lz stC) X.method' X.code, htab]
    show wp (findHandler.go _ _ (⟨q1.1, q1.2.1, q1.2.2.1, q1.2.2.2⟩ :: ⟨q.1, q.2.1, q.2.2.1, q.2.2.2⟩ :: tableOf rest)) Q E _ b acts _ ↔ _
    refine (xh_link (s := (T.setTop (F0 (xf_m z) pc lz stC)).pushFrame (.throwing a)) (f := F0 (xf_m z) pc lz stC) (a := a) (x := ⟨q1.1, q1.2.1, q1.2.2.1, q1.2.2.2⟩) (c := cN) (cell := cell) (by simp [covers, hcov1.1, hcov1.2]) h01 hclN₀ (by show T.heap[a]? = _; rw [hT]; exact hcell) (by rw [hvm]; intro k h; cases h) (Vm.classAt_of_assignable hfit0 ⟨kt0, hkt0⟩) ⟨ktN', hktN'⟩).trans ?_
    rw [if_neg (show ¬ ((T.setTop (F0 (xf_m z) pc lz stC)).pushFrame (.throwing a)).vm.assignable cell.cls cN = true from by show ¬ T.vm.assignable cell.cls cN = true; rw [hno]; decide)]
    refine (xh_link (s := ((T.setTop (F0 (xf_m z) pc lz stC)).pushFrame (.throwing a)).setVm (T.vm.noted (xf_m z).cls q1.2.2.2 (.cls cN))) (f := F0 (xf_m z) pc lz stC) (a := a) (x := ⟨q.1, q.2.1, q.2.2.1, q.2.2.2⟩) (c := cT) (cell := cell) (by simp [covers, hcov.1, hcov.2]) h0 hcl₁ (by show T.heap[a]? = _; rw [hT]; exact hcell) (by rw [hvm]; intro k h; cases h) (Vm.classAt_of_assignable hfit' ⟨kt', hkt'⟩) ⟨kt', hkt'⟩).trans ?_
    rw [if_pos (show ((((T.setTop (F0 (xf_m z) pc lz stC)).pushFrame (.throwing a)).setVm (T.vm.noted (xf_m z).cls q1.2.2.2 (.cls cN))).vm).assignable cell.cls cT = true from hfit')]
    exact Iff.rfl
  have hlv0 : lv_has lz (xf_c z).maxLocals (ls.map (fun q => (q.1, xj_v (xf_g z) ad q.2))) := hlv
  have hcont : ∀ lz' : Array Slot, lv_has lz' (xf_c z).maxLocals ((i, Value.ref a) :: ls'.map (fun q => (q.1, xj_v (xf_g z) ad q.2))) → W (xf_p z) l (xf_e z) (xf_R z) (xf_s z) (xf_m z) (xf_a z) (xf_b z) (xf_t z) (xf_c z) H locs cells slots (xj_Q z) (F0 (xf_m z) (q.2.2.1 + n) lz' []) := fun lz' h' =>
    k ad H locs cells slots lz' hI (fun w hw => hls w (by rw [← he] at hw; exact (List.mem_filter.mp hw).1)) trivial ⟨h'.1, h'.2.1, fun w hw => h'.2.2 w (List.mem_cons_of_mem _ hw)⟩
  have hWh : W (xf_p z) l (xf_e z) (xf_R z) (xf_s z) (xf_m z) (xf_a z) (xf_b z) (xf_t z) (xf_c z) H locs cells slots (xj_Q z) (F0 (xf_m z) q.2.2.1 lz [.ref a]) := by
    rcases hig with ⟨kk, rfl, hk, rfl⟩ | ⟨rfl, rfl⟩
    · exact lv_astore_n hx hb hd hk hlv0 (by rw [hml]; exact hi) (by rw [xj_f1 _ _ _ hq, he]) hcont
    · exact lv_astore hx hb hd hlv0 (by rw [hml]; exact hi) (by rw [xj_f1 _ _ _ hq, he]) hcont
  obtain ⟨t, ht1, ht2⟩ := hWh (T.setVm ((T.vm.noted (xf_m z).cls q1.2.2.2 (.cls cN)).noted (xf_m z).cls q.2.2.2 (.cls cT))) hT XV
  exact ⟨t, xh_step X.here hfind ht1, ht2⟩
end Xcatch
end
section
section Xspecial
variable {l : Launch} {z : xj_F} {y0 : MethodName} {cc : ByteArray} {nL : Nat} {ret : Option FieldType} {hs : List (Nat × Nat × Nat × Nat)} {d pc : Nat} {ls : List (Nat × Value)} {st : List Value} {A : xj_H}
theorem xj_B.S (B : xj_B l y0 cc nL ret hs d z) : xj_S (xf_g z) (xj_al (xf_g z) (xf_d z) (xf_H z) (xf_s z)) (xf_s z) (xf_s z).heap := B.2.2.2.2.2.2.2.2.2.2.1
theorem xj_B.T (B : xj_B l y0 cc nL ret hs d z) : xj_T (xf_s z) := B.2.2.2.2.2.2.2.2.1
theorem xj_B.own (B : xj_B l y0 cc nL ret hs d z) : (xf_s z).vm.findClass y0.cls = some (xf_m z).cls := B.2.2.2.2.2.2.1
/-- a string constant -/
theorem xg_ldcS (B : xj_B l y0 cc nL ret hs d z) {index i : Nat} (hd : decode cc pc = .ok (.ldc index, 2)) (hw : ∃ tx, (y0.cls, index, i, tx) ∈ xj_sr) (k : xj_W l z (pc + 2) ls (xj_rv (some (.inr (100 + i))) :: st) A) : xj_W l z pc ls st A := by
  intro ad H locs cells slots lz hI hls hst hlv
  obtain ⟨tx, hw⟩ := hw
  exact va_ldcS B.1 B.2.1 B.own (xj_S.str B.S hw) hd (k ad H locs cells slots lz hI hls ⟨trivial, hst⟩ hlv)
/-- an enum constant -/
theorem xg_gete (B : xj_B l y0 cc nL ret hs d z) {index i : Nat} (hd : decode cc pc = .ok (.getstatic index, 3)) (hi : i < 4) (hw : Cond.fieldLink y0.cls index xj_fq (xj_fn.getD i "") "LRecurrenceBook$Frequency;" ∈ xj_ws) (k : xj_W l z (pc + 3) ls (xj_rv (some (.inr i)) :: st) A) : xj_W l z pc ls st A := by
  intro ad H locs cells slots lz hI hls hst hlv
  exact va_gets B.1 B.2.1 (B.S.2.2.2.2.1.1 i hi).1 hI.2.2.2.2.2.1 B.own (B.T.1 _ hw _) (fun _ h => h) hd (k ad H locs cells slots lz hI hls ⟨trivial, hst⟩ hlv)
/-- the static table -/
theorem xg_gett (B : xj_B l y0 cc nL ret hs d z) {index : Nat} (hd : decode cc pc = .ok (.getstatic index, 3)) (hw : Cond.fieldLink y0.cls index "RecurrenceBook$Dates" "DAYS_BEFORE_MONTH" "[I" ∈ xj_ws) (k : xj_W l z (pc + 3) ls (xj_rv (some (.inr 50)) :: st) A) : xj_W l z pc ls st A := by
  intro ad H locs cells slots lz hI hls hst hlv
  exact va_gets B.1 B.2.1 B.S.2.2.2.2.2.1 hI.2.2.2.2.2.1 B.own (B.T.1 _ hw _) (fun _ h => h) hd (k ad H locs cells slots lz hI hls ⟨trivial, hst⟩ hlv)
def xj_tb (i : Int32) : Option Int32 := if i < 0 ∨ 12 ≤ i.toNatClampNeg then none else some (xj_dm.getD i.toNatClampNeg 0)
theorem xg_tload (B : xj_B l y0 cc nL ret hs d z) {i : Int32} {K : Int32 → Option xj_R} (hd : decode cc pc = .ok (.iaload, 1)) (h : (xj_tb i).bind K = some (xf_r z)) (kk : ∀ x, xj_tb i = some x → K x = some (xf_r z) → xj_W l z (pc + 1) ls (.int x :: st) A) : xj_W l z pc ls (.int i :: xj_rv (some (.inr 50)) :: st) A := by
  obtain ⟨x, h1, h2⟩ := Option.bind_eq_some_iff.mp h
  have k := kk x h1 h2
  unfold xj_tb at h1
  by_cases hc : i < 0 ∨ 12 ≤ i.toNatClampNeg
  · rw [if_pos hc] at h1; cases h1
  · rw [if_neg hc] at h1
    cases h1
    intro ad H locs cells slots lz hI hls hst hlv
    exact va_ti B.1 B.2.1 B.S.2.2.2.2.2.2.1 hI.2.2.2.2.2.1 hc rfl hd (k ad H locs cells slots lz hI hls ⟨trivial, hst.2.2⟩ hlv)
/-- the script -/
def xj_sc (xs : Nat → Int32) (L : Nat) (i : Int32) : Option Int32 := if i < 0 ∨ L ≤ i.toNatClampNeg then none else some (xs i.toNatClampNeg)
theorem xg_sload (B : xj_B l y0 cc nL ret hs d z) {i : Int32} {K : Int32 → Option xj_R} (hd : decode cc pc = .ok (.iaload, 1)) (h : (xj_sc (xf_g z).2.2.2.1 (xf_g z).2.2.2.2 i).bind K = some (xf_r z)) (kk : ∀ x, xj_sc (xf_g z).2.2.2.1 (xf_g z).2.2.2.2 i = some x → K x = some (xf_r z) → xj_W l z (pc + 1) ls (.int x :: st) A) : xj_W l z pc ls (.int i :: xj_rv (some (.inr 200)) :: st) A := by
  obtain ⟨x, h1, h2⟩ := Option.bind_eq_some_iff.mp h
  have k := kk x h1 h2
  unfold xj_sc at h1
  by_cases hc : i < 0 ∨ (xf_g z).2.2.2.2 ≤ i.toNatClampNeg
  · rw [if_pos hc] at h1; cases h1
  · rw [if_neg hc] at h1
    cases h1
    intro ad H locs cells slots lz hI hls hst hlv
    obtain ⟨⟨scr, s1, s2, s3, s4, s5⟩, hna⟩ := B.S.2.2.2.2.2.2.2.2.2.2.1
    have hH : H[(xf_g z).2.2.1 200]? = some scr := by rw [hI.2.2.2.2.2.1.2.1 _ (Array.getElem?_eq_some_iff.mp s1).1 hna]; exact s1
    exact W.iald B.1 B.2.1 hH s2 s3 (by rw [s4]; exact hc) (s5 _ (by omega)) (g := F0 (xf_m z) pc lz _) rfl rfl hd (k ad H locs cells slots lz hI hls ⟨trivial, hst.2.2⟩ hlv)
theorem xg_slen (B : xj_B l y0 cc nL ret hs d z) (hd : decode cc pc = .ok (.arraylength, 1)) (k : xj_W l z (pc + 1) ls (.int (Int32.ofNat (xf_g z).2.2.2.2) :: st) A) : xj_W l z pc ls (xj_rv (some (.inr 200)) :: st) A := by
  intro ad H locs cells slots lz hI hls hst hlv
  obtain ⟨⟨scr, s1, s2, s3, s4, s5⟩, hna⟩ := B.S.2.2.2.2.2.2.2.2.2.2.1
  have hH : H[(xf_g z).2.2.1 200]? = some scr := by rw [hI.2.2.2.2.2.1.2.1 _ (Array.getElem?_eq_some_iff.mp s1).1 hna]; exact s1
  exact W.alen B.1 B.2.1 hH s2 (n := Int32.ofNat (xf_g z).2.2.2.2) (by rw [s4]) (g := F0 (xf_m z) pc lz _) rfl rfl hd (k ad H locs cells slots lz hI hls ⟨trivial, hst.2⟩ hlv)
/-! What String's own methods read. -/
def xj_si (o : xj_Rf) (b : Nat) : Option Nat := match o with
  | some (.inr j) => if b ≤ j ∧ j < b + 22 then some (j - b) else none
  | _ => none
theorem xj_si_inv {o : xj_Rf} {b i : Nat} (h : xj_si o b = some i) : i < 22 ∧ o = some (.inr (b + i)) := by
  unfold xj_si at h
  split at h
  · rename_i j
    by_cases hc : b ≤ j ∧ j < b + 22
    · rw [if_pos hc] at h
      cases h
      exact ⟨by omega, by congr 2; omega⟩
    · rw [if_neg hc] at h; cases h
  · cases h
def xj_sv (o : xj_Rf) : Option xj_Rf := (xj_si o 100).bind fun i => some (some (.inr (300 + i)))
def xj_sk (o : xj_Rf) : Option Int32 := (xj_si o 100).bind fun _ => some 0
def xj_sn (o : xj_Rf) : Option Int32 := (xj_si o 300).bind fun i => some (Int32.ofNat (xj_sl.getD i 0))
def xj_sx (o : xj_Rf) (k : Int32) : Option Int32 := (xj_si o 300).bind fun i => if k < 0 ∨ xj_sl.getD i 0 ≤ k.toNatClampNeg then none else some ((xj_sb.getD i []).getD k.toNatClampNeg 0)
theorem xg_sval (B : xj_B l y0 cc nL ret hs d z) {o : xj_Rf} {K : xj_Rf → Option xj_R} {index : Nat} (hd : decode cc pc = .ok (.getfield index, 3)) (hw : Cond.fieldLink y0.cls index "java/lang/String" "value" "[B" ∈ xj_ws) (h : (xj_sv o).bind K = some (xf_r z)) (kk : ∀ x, xj_sv o = some x → K x = some (xf_r z) → xj_W l z (pc + 3) ls (xj_rv x :: st) A) : xj_W l z pc ls (xj_rv o :: st) A := by
  obtain ⟨x, h1, h2⟩ := Option.bind_eq_some_iff.mp h
  have k := kk x h1 h2
  obtain ⟨i, h3, h4⟩ := Option.bind_eq_some_iff.mp h1
  cases h4
  obtain ⟨hi, rfl⟩ := xj_si_inv h3
  intro ad H locs cells slots lz hI hls hst hlv
  exact vk_getf B.1 B.2.1 (B.S.1.1 i hi).2.2.1 hI.2.2.2.2.2.1 B.own (B.T.1 _ hw _) (fun _ h => h) hd (k ad H locs cells slots lz hI hls ⟨trivial, hst.2⟩ hlv)
theorem xg_scod (B : xj_B l y0 cc nL ret hs d z) {o : xj_Rf} {K : Int32 → Option xj_R} {index : Nat} (hd : decode cc pc = .ok (.getfield index, 3)) (hw : Cond.fieldLink y0.cls index "java/lang/String" "coder" "B" ∈ xj_ws) (h : (xj_sk o).bind K = some (xf_r z)) (kk : ∀ x, xj_sk o = some x → K x = some (xf_r z) → xj_W l z (pc + 3) ls (.int x :: st) A) : xj_W l z pc ls (xj_rv o :: st) A := by
  obtain ⟨x, h1, h2⟩ := Option.bind_eq_some_iff.mp h
  have k := kk x h1 h2
  obtain ⟨i, h3, h4⟩ := Option.bind_eq_some_iff.mp h1
  cases h4
  obtain ⟨hi, rfl⟩ := xj_si_inv h3
  intro ad H locs cells slots lz hI hls hst hlv
  exact vk_getf B.1 B.2.1 (B.S.1.1 i hi).2.1 hI.2.2.2.2.2.1 B.own (B.T.1 _ hw _) (fun _ h => h) hd (k ad H locs cells slots lz hI hls ⟨trivial, hst.2⟩ hlv)
theorem xg_sblen (B : xj_B l y0 cc nL ret hs d z) {o : xj_Rf} {K : Int32 → Option xj_R} (hd : decode cc pc = .ok (.arraylength, 1)) (h : (xj_sn o).bind K = some (xf_r z)) (kk : ∀ x, xj_sn o = some x → K x = some (xf_r z) → xj_W l z (pc + 1) ls (.int x :: st) A) : xj_W l z pc ls (xj_rv o :: st) A := by
  obtain ⟨x, h1, h2⟩ := Option.bind_eq_some_iff.mp h
  have k := kk x h1 h2
  obtain ⟨i, h3, h4⟩ := Option.bind_eq_some_iff.mp h1
  cases h4
  obtain ⟨hi, rfl⟩ := xj_si_inv h3
  intro ad H locs cells slots lz hI hls hst hlv
  exact va_tlen B.1 B.2.1 (B.S.1.1 i hi).2.2.2 hI.2.2.2.2.2.1 rfl hd (k ad H locs cells slots lz hI hls ⟨trivial, hst.2⟩ hlv)
theorem xg_sbload (B : xj_B l y0 cc nL ret hs d z) {o : xj_Rf} {i0 : Int32} {K : Int32 → Option xj_R} (hd : decode cc pc = .ok (.baload, 1)) (h : (xj_sx o i0).bind K = some (xf_r z)) (kk : ∀ x, xj_sx o i0 = some x → K x = some (xf_r z) → xj_W l z (pc + 1) ls (.int x :: st) A) : xj_W l z pc ls (.int i0 :: xj_rv o :: st) A := by
  obtain ⟨x, h1, h2⟩ := Option.bind_eq_some_iff.mp h
  have k := kk x h1 h2
  obtain ⟨i, h3, h4⟩ := Option.bind_eq_some_iff.mp h1
  obtain ⟨hi, rfl⟩ := xj_si_inv h3
  by_cases hc : i0 < 0 ∨ xj_sl.getD i 0 ≤ i0.toNatClampNeg
  · rw [if_pos hc] at h4; cases h4
  · rw [if_neg hc] at h4
    cases h4
    intro ad H locs cells slots lz hI hls hst hlv
    exact va_tb B.1 B.2.1 (B.S.1.1 i hi).2.2.2 hI.2.2.2.2.2.1 hc rfl hd (k ad H locs cells slots lz hI hls ⟨trivial, hst.2.2⟩ hlv)
theorem xg_getcs (B : xj_B l y0 cc nL ret hs d z) {index : Nat} (hd : decode cc pc = .ok (.getstatic index, 3)) (hw : Cond.fieldLink y0.cls index "java/lang/String" "COMPACT_STRINGS" "Z" ∈ xj_ws) (k : xj_W l z (pc + 3) ls (.int 1 :: st) A) : xj_W l z pc ls st A := by
  intro ad H locs cells slots lz hI hls hst hlv
  exact va_gets B.1 B.2.1 B.S.2.2.2.2.2.2.2.2.1 hI.2.2.2.2.2.1 B.own (B.T.1 _ hw _) (fun _ h => h) hd (k ad H locs cells slots lz hI hls ⟨trivial, hst⟩ hlv)
theorem xg_getsf (B : xj_B l y0 cc nL ret hs d z) {index : Nat} (hd : decode cc pc = .ok (.getstatic index, 3)) (hw : Cond.fieldLink y0.cls index xj_jp "SIOOBE_FORMATTER" xj_jf ∈ xj_ws) (k : ∀ r : xj_Rf, xj_W l z (pc + 3) ls (xj_rv r :: st) A) : xj_W l z pc ls st A := by
  intro ad H locs cells slots lz hI hls hst hlv
  rcases B.S.2.2.2.2.2.2.2.2.2.1 with h | h
  · exact va_gets B.1 B.2.1 h hI.2.2.2.2.2.1 B.own (B.T.1 _ hw _) (fun _ h => h) hd (k none ad H locs cells slots lz hI hls ⟨trivial, hst⟩ hlv)
  · exact va_gets B.1 B.2.1 h hI.2.2.2.2.2.1 B.own (B.T.1 _ hw _) (fun _ h => h) hd (k (some (.inr 60)) ad H locs cells slots lz hI hls ⟨trivial, hst⟩ hlv)
/-! References compared: null and enum constants. -/
def xj_e4 (r : xj_Rf) : Bool := match r with
  | none => true
  | some (.inr i) => decide (i < 4)
  | _ => false
def xj_on (g : xj_G) (r : xj_Rf) : Option Nat := match r with
  | some (.inr i) => some (g.2.2.1 i)
  | _ => none
theorem xj_on_v {g : xj_G} {ad : Nat → Nat} {r : xj_Rf} (h : xj_e4 r = true) : xj_v g ad (xj_rv r) = va_rf (xj_on g r) := by
  match r, h with
  | none, _ => rfl
  | some (.inr i), _ => rfl
theorem xj_on_inj (B : xj_B l y0 cc nL ret hs d z) {r q : xj_Rf} (h : xj_e4 r = true) (h' : xj_e4 q = true) : xj_on (xf_g z) r = xj_on (xf_g z) q ↔ r = q := by
  match r, q, h, h' with
  | none, none, _, _ => simp
  | none, some (.inr j), _, _ => simp [xj_on]
  | some (.inr i), none, _, _ => simp [xj_on]
  | some (.inr i), some (.inr j), h, h' =>
    constructor
    · intro e
      have := B.S.2.2.2.2.1.2 i j (of_decide_eq_true h) (of_decide_eq_true h') (Option.some.inj e)
      rw [this]
    · intro e; rw [e]
theorem xg_acmp_eq (B : xj_B l y0 cc nL ret hs d z) {r q : xj_Rf} {off : Int} {tgt : Nat} {P P' : Option xj_R} (hd : decode cc pc = .ok (.if_acmp .eq off, 3)) (ht : (pc : Int) + off = (tgt : Int)) (h : (if (xj_e4 r && xj_e4 q) = true then (if r = q then P else P') else none) = some (xf_r z)) (kt : r = q → P = some (xf_r z) → xj_W l z tgt ls st A) (kf : ¬ r = q → P' = some (xf_r z) → xj_W l z (pc + 3) ls st A) : xj_W l z pc ls (xj_rv q :: xj_rv r :: st) A := by
  by_cases he : (xj_e4 r && xj_e4 q) = true
  · rw [if_pos he] at h
    obtain ⟨h1, h2⟩ := Bool.and_eq_true_iff.mp he
    intro ad H locs cells slots lz hI hls hst hlv
    show W _ _ _ _ _ _ _ _ _ _ _ _ _ _ _ (F0 _ _ _ (xj_v (xf_g z) ad (xj_rv q) :: xj_v (xf_g z) ad (xj_rv r) :: _))
    rw [xj_on_v h1, xj_on_v h2]
    refine lv_acmp_eq B.1 B.2.1 hd ht (fun e => ?_) (fun e => ?_)
    · have e := (xj_on_inj B h1 h2).mp e
      exact kt e (by rw [if_pos e] at h; exact h) ad H locs cells slots lz hI hls hst.2.2 hlv
    · have e : ¬ r = q := fun q => e ((xj_on_inj B h1 h2).mpr q)
      exact kf e (by rw [if_neg e] at h; exact h) ad H locs cells slots lz hI hls hst.2.2 hlv
  · rw [if_neg he] at h; cases h
theorem xg_acmp_ne (B : xj_B l y0 cc nL ret hs d z) {r q : xj_Rf} {off : Int} {tgt : Nat} {P P' : Option xj_R} (hd : decode cc pc = .ok (.if_acmp .ne off, 3)) (ht : (pc : Int) + off = (tgt : Int)) (h : (if (xj_e4 r && xj_e4 q) = true then (if ¬ r = q then P else P') else none) = some (xf_r z)) (kt : ¬ r = q → P = some (xf_r z) → xj_W l z tgt ls st A) (kf : ¬ ¬ r = q → P' = some (xf_r z) → xj_W l z (pc + 3) ls st A) : xj_W l z pc ls (xj_rv q :: xj_rv r :: st) A := by
  by_cases he : (xj_e4 r && xj_e4 q) = true
  · rw [if_pos he] at h
    obtain ⟨h1, h2⟩ := Bool.and_eq_true_iff.mp he
    intro ad H locs cells slots lz hI hls hst hlv
    show W _ _ _ _ _ _ _ _ _ _ _ _ _ _ _ (F0 _ _ _ (xj_v (xf_g z) ad (xj_rv q) :: xj_v (xf_g z) ad (xj_rv r) :: _))
    rw [xj_on_v h1, xj_on_v h2]
    refine lv_acmp_ne B.1 B.2.1 hd ht (fun e => ?_) (fun e => ?_)
    · have e : ¬ r = q := fun q => e ((xj_on_inj B h1 h2).mpr q)
      exact kt e (by rw [if_pos e] at h; exact h) ad H locs cells slots lz hI hls hst.2.2 hlv
    · have e := (xj_on_inj B h1 h2).mp e
      exact kf (fun q => q e) (by rw [if_neg (fun q => q e)] at h; exact h) ad H locs cells slots lz hI hls hst.2.2 hlv
  · rw [if_neg he] at h; cases h
def xj_isw (o : xj_Rf) : Bool := match o with
  | some (.inl _) => true
  | _ => false
theorem xj_isw_inv {o : xj_Rf} {P : Option xj_R} {r : xj_R} (h : (if xj_isw o = true then P else none) = some r) : ∃ a, o = some (.inl a) ∧ P = some r := by
  by_cases hc : xj_isw o = true
  · rw [if_pos hc] at h
    match o, hc with
    | some (.inl a), _ => exact ⟨a, rfl, h⟩
  · rw [if_neg hc] at h; cases h
/-! Calls whose exceptions the method catches. -/
def xj_ki (F : Option xj_R) (K : Int32 → xj_H → Option xj_R) (X : String → xj_H → Option xj_R) : Option xj_R := match F with
  | some (.inl (some (.int v)), A) => K v A
  | some (.inr x, A) => X x A
  | _ => none
def xj_kv (F : Option xj_R) (K : xj_H → Option xj_R) (X : String → xj_H → Option xj_R) : Option xj_R := match F with
  | some (.inl none, A) => K A
  | some (.inr x, A) => X x A
  | _ => none
theorem xj_rq_ki {o : xj_Rf} {ci : Nat} {F : Option xj_R} {K : Int32 → xj_H → Option xj_R} {X : String → xj_H → Option xj_R} {r : xj_R} (h : xj_ki (xj_rq A o ci F) K X = some r) : xj_is A o ci = true ∧ xj_ki F K X = some r := by
  unfold xj_rq at h
  by_cases hc : xj_is A o ci = true
  · rw [if_pos hc] at h; exact ⟨hc, h⟩
  · rw [if_neg hc] at h; cases h
theorem xj_rq_kv {o : xj_Rf} {ci : Nat} {F : Option xj_R} {K : xj_H → Option xj_R} {X : String → xj_H → Option xj_R} {r : xj_R} (h : xj_kv (xj_rq A o ci F) K X = some r) : xj_is A o ci = true ∧ xj_kv F K X = some r := by
  unfold xj_rq at h
  by_cases hc : xj_is A o ci = true
  · rw [if_pos hc] at h; exact ⟨hc, h⟩
  · rw [if_neg hc] at h; cases h
theorem xg_ki (B : xj_B l y0 cc nL ret hs d z) {y : MethodName} {cy : ByteArray} {nLy d' : Nat} {rety : Option FieldType} {hsy : List (Nat × Nat × Nat × Nat)} {av : List Value} {F : Option xj_R} {K : Int32 → xj_H → Option xj_R} {X : String → xj_H → Option xj_R} {ig : Instr} (hd : decode cc pc = .ok (ig, 3)) (hgo : xj_go l z pc A y av) (hwy : xj_cw y cy nLy rety hsy ∈ xj_ws) (hwi : Cond.initialized y.cls ∈ xj_ws) (hdd : d' + 1 ≤ d) (hnLy : nLy ≤ 21) (hst8 : (st.map fun v => v.category).sum ≤ 8)
    (hM : ∀ r', F = some r' → xj_M l y cy nLy rety hsy d' av A r') (h : xj_ki F K X = some (xf_r z)) (kk : ∀ v A', F = some (.inl (some (.int v)), A') → K v A' = some (xf_r z) → xj_W l z (pc + 3) ls (.int v :: st) A') (kx : ∀ x A', F = some (.inr x, A') → X x A' = some (xf_r z) → xj_X l z pc ls x A') : xj_W l z pc ls (av.reverse ++ st) A := by
  obtain ⟨need, hinv, hneed⟩ := hgo
  unfold xj_ki at h
  split at h
  · rename_i v A'
    exact xg_core B hd hinv hneed (hM _ rfl) hwy hwi hdd hnLy hst8 (fun w hw => by cases hw; exact kk v A' rfl h) (fun x hx => by cases hx)
  · rename_i x A'
    exact xg_core B hd hinv hneed (hM _ rfl) hwy hwi hdd hnLy hst8 (fun w hw => by cases hw) (fun w hx => by cases hx; exact kx x A' rfl h)
  · cases h
theorem xg_kv (B : xj_B l y0 cc nL ret hs d z) {y : MethodName} {cy : ByteArray} {nLy d' : Nat} {rety : Option FieldType} {hsy : List (Nat × Nat × Nat × Nat)} {av : List Value} {F : Option xj_R} {K : xj_H → Option xj_R} {X : String → xj_H → Option xj_R} {ig : Instr} (hd : decode cc pc = .ok (ig, 3)) (hgo : xj_go l z pc A y av) (hwy : xj_cw y cy nLy rety hsy ∈ xj_ws) (hwi : Cond.initialized y.cls ∈ xj_ws) (hdd : d' + 1 ≤ d) (hnLy : nLy ≤ 21) (hst8 : (st.map fun v => v.category).sum ≤ 8)
    (hM : ∀ r', F = some r' → xj_M l y cy nLy rety hsy d' av A r') (h : xj_kv F K X = some (xf_r z)) (kk : ∀ A', F = some (.inl none, A') → K A' = some (xf_r z) → xj_W l z (pc + 3) ls st A') (kx : ∀ x A', F = some (.inr x, A') → X x A' = some (xf_r z) → xj_X l z pc ls x A') : xj_W l z pc ls (av.reverse ++ st) A := by
  obtain ⟨need, hinv, hneed⟩ := hgo
  unfold xj_kv at h
  split at h
  · rename_i A'
    exact xg_core B hd hinv hneed (hM _ rfl) hwy hwi hdd hnLy hst8 (fun w hw => by cases hw; exact kk A' rfl h) (fun x hx => by cases hx)
  · rename_i x A'
    exact xg_core B hd hinv hneed (hM _ rfl) hwy hwi hdd hnLy hst8 (fun w hw => by cases hw) (fun w hx => by cases hx; exact kx x A' rfl h)
  · cases h
theorem xj_nc (B : xj_B l y0 cc nL ret hs d z) : ∀ U, (xf_s z).WarmedH U → ∀ c t, U.findClass "java/lang/IllegalArgumentException" = some c → U.findClass "java/lang/IllegalStateException" = some t → U.assignable c t = false := by
  intro U hW c t h1 h2
  obtain ⟨c', t', g1, g2, g3⟩ := B.S.2.2.2.2.2.2.2.2.2.2.2
  have ha := hW.alike
  rw [ha.findClass] at h1 h2
  cases h1.symm.trans g1
  cases h2.symm.trans g2
  rw [ha.assignable]; exact g3
theorem xj_vw_c {own : String} {index ci n nLy : Nat} {y : MethodName} {cy : ByteArray} {rety : Option FieldType} {hsy : List (Nat × Nat × Nat × Nat)} (h : xj_vw own index ci y cy nLy rety hsy n) : xj_cw y cy nLy rety hsy ∈ xj_ws := by
  obtain ⟨C, T, N, w0, w1, w2, w3, w4, w5, w6, w7⟩ := h
  exact w4
theorem xj_vw_i {own : String} {index ci n nLy : Nat} {y : MethodName} {cy : ByteArray} {rety : Option FieldType} {hsy : List (Nat × Nat × Nat × Nat)} (h : xj_vw own index ci y cy nLy rety hsy n) : Cond.initialized y.cls ∈ xj_ws := by
  obtain ⟨C, T, N, w0, w1, w2, w3, w4, w5, w6, w7⟩ := h
  exact w5
/-- virtual calls on String constants -/
def xj_zw (own : String) (index : Nat) (y : MethodName) (cy : ByteArray) (nLy : Nat) (rety : Option FieldType) (n : Nat) : Prop :=
  Cond.methodLink own index y ∈ xj_ws ∧ Cond.instanceMethod y ∈ xj_ws ∧ Cond.selects "java/lang/String" y y ∈ xj_ws ∧ Cond.code y cy nLy rety ∈ xj_ws ∧ Cond.initialized y.cls ∈ xj_ws ∧ (y.cls ≠ "java/lang/invoke/MethodHandle" ∧ y.cls ≠ "java/lang/invoke/VarHandle") ∧ (parseMethodDescriptor y.desc).map (fun q => q.parameters.length) = some n
def xj_zq (o : xj_Rf) (F : Option xj_R) : Option xj_R := (xj_si o 100).bind fun _ => F
theorem xj_zq_i {o : xj_Rf} {F : Option xj_R} {K : Int32 → xj_H → Option xj_R} {r : xj_R} (h : xj_bi (xj_zq o F) K = some r) : (∃ i, xj_si o 100 = some i) ∧ xj_bi F K = some r := by
  unfold xj_zq at h
  cases hc : xj_si o 100 with
  | none => rw [hc] at h; cases h
  | some i => rw [hc] at h; exact ⟨⟨i, rfl⟩, h⟩
theorem xj_go_z (B : xj_B l y0 cc nL ret hs d z) {y : MethodName} {cy : ByteArray} {nLy n index : Nat} {rety : Option FieldType} {o : xj_Rf} {as : List Value} (hd : decode cc pc = .ok (.invokevirtual index, 3)) (hw : xj_zw y0.cls index y cy nLy rety n) (hn : as.length = n) (hq : ∃ i, xj_si o 100 = some i) : xj_go l z pc A y (xj_rv o :: as) := by
  obtain ⟨w1, w2, w3, w4, w5, w6, w7⟩ := hw
  refine ⟨_, by rw [List.length_cons, hn]; exact xj_inv_virtual B hd (Or.inl w1) w2 w3 w6 w7 ⟨_, w4, cy, nLy, rety, [], rfl⟩, fun ad H locs cells slots hI => ?_⟩
  obtain ⟨i, hi0⟩ := hq
  obtain ⟨hi, rfl⟩ := xj_si_inv hi0
  obtain ⟨cl0, h1, h2, h3⟩ := vk_recv B.S.1 hi hI.2.2.2.2.2.1
  exact ⟨(xf_g z).2.2.1 (100 + i), as.map (xj_v (xf_g z) ad), cl0, rfl, h1, h2, h3⟩
end Xspecial
end
section
section Xmore
variable {l : Launch} {z : xj_F} {y0 : MethodName} {cc : ByteArray} {nL : Nat} {ret : Option FieldType} {hs : List (Nat × Nat × Nat × Nat)} {d pc : Nat} {ls : List (Nat × Value)} {st : List Value} {A : xj_H}
def xj_fu : Nat := 100000
def xj_rn (ty : FieldType) (v : Int32) (A : xj_H) : Option xj_R := if vp_nar ty v = v then some (.inl (some (.int v)), A) else none
theorem xg_cret (B : xj_B l y0 cc nL (some .char) hs d z) {x : Int32} (hd : decode cc pc = .ok (.ireturn, 1)) (h : xj_rn .char x A = some (xf_r z)) : xj_W l z pc ls [.int x] A := by
  intro ad H locs cells slots lz hI hls hst hlv
  unfold xj_rn at h
  by_cases hz : vp_nar .char x = x
  · rw [if_pos hz] at h
    have hr := (Option.some.inj h).symm
    have hn : narrow .char (.int x) = .int x := by
      have h9 : narrow .char (.int x) = .int (vp_nar .char x) := rfl
      rw [h9, hz]
    refine xw_mono (W.zret (ty := .char) (Qc := fun _ _ o t => o = .returned ((some (Value.int x)).map (xj_v (xf_g z) ad)) ∧ t.heap = H) (free := xj_al (xf_g z) (xf_d z) (xf_H z) (xf_s z)) B.1 B.2.1 B.2.2.2.1 hn (fun t ht _ => ⟨rfl, ht⟩) hI.2.2.2.2.2.1.2.2 hd B.2.2.2.2.1) (fun t ht => ?_)
    exact xj_ends hI hr (fun w hw => by cases hw; trivial) ht
  · rw [if_neg hz] at h
    cases h
theorem xg_bret (B : xj_B l y0 cc nL (some .byte) hs d z) {x : Int32} (hd : decode cc pc = .ok (.ireturn, 1)) (h : xj_rn .byte x A = some (xf_r z)) : xj_W l z pc ls [.int x] A := by
  intro ad H locs cells slots lz hI hls hst hlv
  unfold xj_rn at h
  by_cases hz : vp_nar .byte x = x
  · rw [if_pos hz] at h
    have hr := (Option.some.inj h).symm
    have hn : narrow .byte (.int x) = .int x := by
      have h9 : narrow .byte (.int x) = .int (vp_nar .byte x) := rfl
      rw [h9, hz]
    refine xw_mono (W.zret (ty := .byte) (Qc := fun _ _ o t => o = .returned ((some (Value.int x)).map (xj_v (xf_g z) ad)) ∧ t.heap = H) (free := xj_al (xf_g z) (xf_d z) (xf_H z) (xf_s z)) B.1 B.2.1 B.2.2.2.1 hn (fun t ht _ => ⟨rfl, ht⟩) hI.2.2.2.2.2.1.2.2 hd B.2.2.2.2.1) (fun t ht => ?_)
    exact xj_ends hI hr (fun w hw => by cases hw; trivial) ht
  · rw [if_neg hz] at h
    cases h
theorem xg_tsIn (B : xj_B l y0 cc nL ret hs d z) {dflt lo hi : Int} {offs : Array Int} {len : Nat} {x : Int32} {off : Int} {tgt : Nat} (hd : decode cc pc = .ok (.tableswitch dflt lo hi offs, len)) (h1 : ¬ x.toInt < lo) (h2 : ¬ hi < x.toInt) (ho : offs[(x.toInt - lo).toNat]? = some off) (ht : (pc : Int) + off = (tgt : Int)) (k : xj_W l z tgt ls st A) : xj_W l z pc ls (.int x :: st) A := by
  intro ad H locs cells slots lz hI hls hst hlv
  exact lv_tableIn B.1 B.2.1 hd h1 h2 ho ht (k ad H locs cells slots lz hI hls hst.2 hlv)
theorem xg_tsOut (B : xj_B l y0 cc nL ret hs d z) {dflt lo hi : Int} {offs : Array Int} {len : Nat} {x : Int32} {tgt : Nat} (hd : decode cc pc = .ok (.tableswitch dflt lo hi offs, len)) (h1 : x.toInt < lo ∨ hi < x.toInt) (ht : (pc : Int) + dflt = (tgt : Int)) (k : xj_W l z tgt ls st A) : xj_W l z pc ls (.int x :: st) A := by
  intro ad H locs cells slots lz hI hls hst hlv
  exact lv_tableOut B.1 B.2.1 hd h1 ht (k ad H locs cells slots lz hI hls hst.2 hlv)
theorem xj_ifn {x y : String} {P : Option xj_R} {r : xj_R} (h : (if x = y then P else none) = some r) : x = y ∧ P = some r := by
  by_cases hc : x = y
  · rw [if_pos hc] at h; exact ⟨hc, h⟩
  · rw [if_neg hc] at h; cases h
theorem xj_ic (x : Int32) : (Value.int x).category = 1 := rfl
theorem xj_lc (x : Int64) : (Value.long x).category = 2 := rfl
theorem xj_nq {a i : Nat} {P : Prop} (hn : ¬ a + 1 = i) : a + 1 = i → P := fun h => absurd h hn
theorem xj_inc_1 (x : Int32) : x + Int32.ofInt 1 = x + 1 := rfl
theorem xj_inc_7 (x : Int32) : x + Int32.ofInt 7 = x + 7 := rfl
theorem xj_inc_m1 (x : Int32) : x + Int32.ofInt (-1) = x - 1 := by
  rw [show Int32.ofInt (-1) = -1 from by decide, Int32.sub_eq_add_neg]
end Xmore
end
section
/-! Names of the methods. -/
def yZ_init : MethodName := ⟨"RecurrenceBook$Zone", "<init>", "()V"⟩
def yJ_floorMod : MethodName := ⟨"java/lang/Math", "floorMod", "(II)I"⟩
def yD_monthStart : MethodName := ⟨"RecurrenceBook$Dates", "monthStart", "(I)I"⟩
def yD_weekdayOf : MethodName := ⟨"RecurrenceBook$Dates", "weekdayOf", "(I)I"⟩
def yD_sundayOf : MethodName := ⟨"RecurrenceBook$Dates", "sundayOf", "(II)I"⟩
def yZ_change : MethodName := ⟨"RecurrenceBook$Zone", "change", "(IIIIII)V"⟩
def yE_init : MethodName := ⟨"RecurrenceBook$Event", "<init>", "()V"⟩
def yS_init : MethodName := ⟨"RecurrenceBook$Spans", "<init>", "()V"⟩
def yB_init : MethodName := ⟨"RecurrenceBook", "<init>", "()V"⟩
def yB_type : MethodName := ⟨"RecurrenceBook", "type", "(C)Z"⟩
def yB_isOffset : MethodName := ⟨"RecurrenceBook", "isOffset", "(I)Z"⟩
def yB_isMonth : MethodName := ⟨"RecurrenceBook", "isMonth", "(I)Z"⟩
def yD_yearOf : MethodName := ⟨"RecurrenceBook$Dates", "yearOf", "(I)I"⟩
def yJ_min : MethodName := ⟨"java/lang/Math", "min", "(II)I"⟩
def yJ_max : MethodName := ⟨"java/lang/Math", "max", "(II)I"⟩
def yZ_isSummer : MethodName := ⟨"RecurrenceBook$Zone", "isSummer", "(I)Z"⟩
def yZ_momentOf : MethodName := ⟨"RecurrenceBook$Zone", "momentOf", "(I)I"⟩
def yE_settle : MethodName := ⟨"RecurrenceBook$Event", "settle", "(LRecurrenceBook$Zone;)V"⟩
def yB_zone : MethodName := ⟨"RecurrenceBook", "zone", "(IIIIII)V"⟩
def yR_init : MethodName := ⟨"RecurrenceBook$Rule", "<init>", "()V"⟩
def yQ_init : MethodName := ⟨"RecurrenceBook$RuleReader", "<init>", "([CI)V"⟩
def yB_isDay : MethodName := ⟨"RecurrenceBook", "isDay", "(I)Z"⟩
def yK_coder : MethodName := ⟨"java/lang/String", "coder", "()B"⟩
def yK_length : MethodName := ⟨"java/lang/String", "length", "()I"⟩
def yK_isLatin1 : MethodName := ⟨"java/lang/String", "isLatin1", "()Z"⟩
def yP_checkIndex : MethodName := ⟨"jdk/internal/util/Preconditions", "checkIndex", "(IILjava/util/function/BiFunction;)I"⟩
def yK_checkIndex : MethodName := ⟨"java/lang/String", "checkIndex", "(II)V"⟩
def yT_charAt : MethodName := ⟨"java/lang/StringLatin1", "charAt", "([BI)C"⟩
def yK_charAt : MethodName := ⟨"java/lang/String", "charAt", "(I)C"⟩
def yQ_takeWord : MethodName := ⟨"RecurrenceBook$RuleReader", "takeWord", "(Ljava/lang/String;)Z"⟩
def yQ_readFrequency : MethodName := ⟨"RecurrenceBook$RuleReader", "readFrequency", "()Z"⟩
def yQ_isDigitNext : MethodName := ⟨"RecurrenceBook$RuleReader", "isDigitNext", "()Z"⟩
def yQ_takeNumber : MethodName := ⟨"RecurrenceBook$RuleReader", "takeNumber", "(II)I"⟩
def yQ_readInterval : MethodName := ⟨"RecurrenceBook$RuleReader", "readInterval", "()Z"⟩
def yQ_readCount : MethodName := ⟨"RecurrenceBook$RuleReader", "readCount", "()Z"⟩
def yD_dayOf : MethodName := ⟨"RecurrenceBook$Dates", "dayOf", "(III)I"⟩
def yQ_readUntil : MethodName := ⟨"RecurrenceBook$RuleReader", "readUntil", "()Z"⟩
def yR_hasWeekdays : MethodName := ⟨"RecurrenceBook$Rule", "hasWeekdays", "()Z"⟩
def yQ_take : MethodName := ⟨"RecurrenceBook$RuleReader", "take", "(C)Z"⟩
def yQ_takeWeekday : MethodName := ⟨"RecurrenceBook$RuleReader", "takeWeekday", "()I"⟩
def yR_nthBit : MethodName := ⟨"RecurrenceBook$Rule", "nthBit", "(II)J"⟩
def yR_addWeekday : MethodName := ⟨"RecurrenceBook$Rule", "addWeekday", "(IIZ)V"⟩
def yQ_readWeekday : MethodName := ⟨"RecurrenceBook$RuleReader", "readWeekday", "()Z"⟩
def yQ_readWeekdays : MethodName := ⟨"RecurrenceBook$RuleReader", "readWeekdays", "()Z"⟩
def yR_hasNumbers : MethodName := ⟨"RecurrenceBook$Rule", "hasNumbers", "()Z"⟩
def yR_addNumber : MethodName := ⟨"RecurrenceBook$Rule", "addNumber", "(IZ)V"⟩
def yQ_readNumbers : MethodName := ⟨"RecurrenceBook$RuleReader", "readNumbers", "()Z"⟩
def yQ_readMonths : MethodName := ⟨"RecurrenceBook$RuleReader", "readMonths", "()Z"⟩
def yQ_readPart : MethodName := ⟨"RecurrenceBook$RuleReader", "readPart", "()Z"⟩
def yR_hasNthWeekdays : MethodName := ⟨"RecurrenceBook$Rule", "hasNthWeekdays", "()Z"⟩
def yR_isAllowed : MethodName := ⟨"RecurrenceBook$Rule", "isAllowed", "()Z"⟩
def yQ_readRule : MethodName := ⟨"RecurrenceBook$RuleReader", "readRule", "()Z"⟩
def yD_monthOf : MethodName := ⟨"RecurrenceBook$Dates", "monthOf", "(I)I"⟩
def yU_init : MethodName := ⟨"RecurrenceBook$Unfolding", "<init>", "(LRecurrenceBook$Rule;I[I)V"⟩
def yR_allowsMonth : MethodName := ⟨"RecurrenceBook$Rule", "allowsMonth", "(I)Z"⟩
def yU_enterMonth : MethodName := ⟨"RecurrenceBook$Unfolding", "enterMonth", "(I)V"⟩
def yU_followMonth : MethodName := ⟨"RecurrenceBook$Unfolding", "followMonth", "(I)V"⟩
def yR_allowsNumber : MethodName := ⟨"RecurrenceBook$Rule", "allowsNumber", "(II)Z"⟩
def yR_allowsWeekday : MethodName := ⟨"RecurrenceBook$Rule", "allowsWeekday", "(III)Z"⟩
def yU_isMeantInMonth : MethodName := ⟨"RecurrenceBook$Unfolding", "isMeantInMonth", "(I)Z"⟩
def yU_add : MethodName := ⟨"RecurrenceBook$Unfolding", "add", "(I)V"⟩
def yU_addDays : MethodName := ⟨"RecurrenceBook$Unfolding", "addDays", "()V"⟩
def yU_addWeeks : MethodName := ⟨"RecurrenceBook$Unfolding", "addWeeks", "()V"⟩
def yU_addMonth : MethodName := ⟨"RecurrenceBook$Unfolding", "addMonth", "(I)V"⟩
def yU_addMonths : MethodName := ⟨"RecurrenceBook$Unfolding", "addMonths", "()V"⟩
def yU_addYears : MethodName := ⟨"RecurrenceBook$Unfolding", "addYears", "()V"⟩
def yU_unfold : MethodName := ⟨"RecurrenceBook$Unfolding", "unfold", "()I"⟩
def yE_begin : MethodName := ⟨"RecurrenceBook$Event", "begin", "(III)V"⟩
def yB_event : MethodName := ⟨"RecurrenceBook", "event", "(III)I"⟩
def yB_findEvent : MethodName := ⟨"RecurrenceBook", "findEvent", "(I)LRecurrenceBook$Event;"⟩
def yE_leaveOut : MethodName := ⟨"RecurrenceBook$Event", "leaveOut", "(I)Z"⟩
def yB_exclude : MethodName := ⟨"RecurrenceBook", "exclude", "(II)Z"⟩
def yB_times : MethodName := ⟨"RecurrenceBook", "times", "(I)I"⟩
def yB_findTime : MethodName := ⟨"RecurrenceBook", "findTime", "(II)I"⟩
def yB_day : MethodName := ⟨"RecurrenceBook", "day", "(II)I"⟩
def yB_moment : MethodName := ⟨"RecurrenceBook", "moment", "(II)I"⟩
def yZ_offsetAt : MethodName := ⟨"RecurrenceBook$Zone", "offsetAt", "(I)I"⟩
def yB_local : MethodName := ⟨"RecurrenceBook", "local", "(I)I"⟩
def yB_date : MethodName := ⟨"RecurrenceBook", "date", "(III)I"⟩
def yS_open : MethodName := ⟨"RecurrenceBook$Spans", "open", "(II)V"⟩
def yB_earliestHead : MethodName := ⟨"RecurrenceBook", "earliestHead", "()I"⟩
def yS_add : MethodName := ⟨"RecurrenceBook$Spans", "add", "(II)V"⟩
def yB_busy : MethodName := ⟨"RecurrenceBook", "busy", "(II)I"⟩
def yB_span : MethodName := ⟨"RecurrenceBook", "span", "(IZ)I"⟩
def yB_firstShared : MethodName := ⟨"RecurrenceBook", "firstShared", "(LRecurrenceBook$Event;LRecurrenceBook$Event;)I"⟩
def yB_clash : MethodName := ⟨"RecurrenceBook", "clash", "(II)I"⟩
def yM_yearBegin : MethodName := ⟨"RecurrenceBookModel", "yearBegin", "(I)I"⟩
def yM_monthLength : MethodName := ⟨"RecurrenceBookModel", "monthLength", "(II)I"⟩
def yM_dayOf : MethodName := ⟨"RecurrenceBookModel", "dayOf", "(III)I"⟩
def yM_weekday : MethodName := ⟨"RecurrenceBookModel", "weekday", "(I)I"⟩
def yM_sunday : MethodName := ⟨"RecurrenceBookModel", "sunday", "(III)I"⟩
def yM_changes : MethodName := ⟨"RecurrenceBookModel", "changes", "(IIII)V"⟩
def yM_init : MethodName := ⟨"RecurrenceBookModel", "<init>", "()V"⟩
def yM_thrown : MethodName := ⟨"RecurrenceBookModel", "thrown", "()I"⟩
def yM_fails : MethodName := ⟨"RecurrenceBookModel", "fails", "(Z)Z"⟩
def yM_split : MethodName := ⟨"RecurrenceBookModel", "split", "(I)V"⟩
def yM_isDate : MethodName := ⟨"RecurrenceBookModel", "isDate", "(III)Z"⟩
def yM_date : MethodName := ⟨"RecurrenceBookModel", "date", "(III)I"⟩
def yM_inside : MethodName := ⟨"RecurrenceBookModel", "inside", "(III)Z"⟩
def yM_zone : MethodName := ⟨"RecurrenceBookModel", "zone", "(IIIIII)V"⟩
def yM_inSummer : MethodName := ⟨"RecurrenceBookModel", "inSummer", "(I)Z"⟩
def yM_momentOf : MethodName := ⟨"RecurrenceBookModel", "momentOf", "(I)I"⟩
def yM_local : MethodName := ⟨"RecurrenceBookModel", "local", "(I)I"⟩
def yM_type : MethodName := ⟨"RecurrenceBookModel", "type", "(C)Z"⟩
def yM_look : MethodName := ⟨"RecurrenceBookModel", "look", "()I"⟩
def yM_takes : MethodName := ⟨"RecurrenceBookModel", "takes", "(I)Z"⟩
def yM_letters : MethodName := ⟨"RecurrenceBookModel", "letters", "(I)J"⟩
def yM_digits : MethodName := ⟨"RecurrenceBookModel", "digits", "(I)I"⟩
def yM_readFrequency : MethodName := ⟨"RecurrenceBookModel", "readFrequency", "()Z"⟩
def yM_readUntil : MethodName := ⟨"RecurrenceBookModel", "readUntil", "()Z"⟩
def yM_weekdayOf : MethodName := ⟨"RecurrenceBookModel", "weekdayOf", "(J)I"⟩
def yM_readWeekday : MethodName := ⟨"RecurrenceBookModel", "readWeekday", "()Z"⟩
def yM_readMonthDay : MethodName := ⟨"RecurrenceBookModel", "readMonthDay", "()Z"⟩
def yM_readList : MethodName := ⟨"RecurrenceBookModel", "readList", "(I)Z"⟩
def yM_readPart : MethodName := ⟨"RecurrenceBookModel", "readPart", "()I"⟩
def yM_readRule : MethodName := ⟨"RecurrenceBookModel", "readRule", "()Z"⟩
def yM_byMonthDay : MethodName := ⟨"RecurrenceBookModel", "byMonthDay", "()Z"⟩
def yM_byWeekday : MethodName := ⟨"RecurrenceBookModel", "byWeekday", "(I)Z"⟩
def yM_inPeriod : MethodName := ⟨"RecurrenceBookModel", "inPeriod", "(I)Z"⟩
def yM_means : MethodName := ⟨"RecurrenceBookModel", "means", "(I)Z"⟩
def yM_behindPeriod : MethodName := ⟨"RecurrenceBookModel", "behindPeriod", "(I)I"⟩
def yM_fill : MethodName := ⟨"RecurrenceBookModel", "fill", "(I)V"⟩
def yM_event : MethodName := ⟨"RecurrenceBookModel", "event", "(III)I"⟩
def yM_isExcluded : MethodName := ⟨"RecurrenceBookModel", "isExcluded", "(II)Z"⟩
def yM_exclude : MethodName := ⟨"RecurrenceBookModel", "exclude", "(II)Z"⟩
def yM_times : MethodName := ⟨"RecurrenceBookModel", "times", "(I)I"⟩
def yM_timeDay : MethodName := ⟨"RecurrenceBookModel", "timeDay", "(II)I"⟩
def yM_day : MethodName := ⟨"RecurrenceBookModel", "day", "(II)I"⟩
def yM_moment : MethodName := ⟨"RecurrenceBookModel", "moment", "(II)I"⟩
def yM_least : MethodName := ⟨"RecurrenceBookModel", "least", "(II)I"⟩
def yM_greatest : MethodName := ⟨"RecurrenceBookModel", "greatest", "(II)I"⟩
def yM_join : MethodName := ⟨"RecurrenceBookModel", "join", "(II)V"⟩
def yM_busy : MethodName := ⟨"RecurrenceBookModel", "busy", "(II)I"⟩
def yM_span : MethodName := ⟨"RecurrenceBookModel", "span", "(IZ)I"⟩
def yM_clash : MethodName := ⟨"RecurrenceBookModel", "clash", "(II)I"⟩
def yL_zone : MethodName := ⟨"RecurrenceBookLaw", "zone", "(LRecurrenceBook;IIIIII)I"⟩
def yL_event : MethodName := ⟨"RecurrenceBookLaw", "event", "(LRecurrenceBook;III[J)I"⟩
def yL_exclude : MethodName := ⟨"RecurrenceBookLaw", "exclude", "(LRecurrenceBook;II[J)I"⟩
def yL_times : MethodName := ⟨"RecurrenceBookLaw", "times", "(LRecurrenceBook;I[J)I"⟩
def yL_day : MethodName := ⟨"RecurrenceBookLaw", "day", "(LRecurrenceBook;II[J)I"⟩
def yL_moment : MethodName := ⟨"RecurrenceBookLaw", "moment", "(LRecurrenceBook;II[J)I"⟩
def yL_busy : MethodName := ⟨"RecurrenceBookLaw", "busy", "(LRecurrenceBook;II[J)I"⟩
def yL_span : MethodName := ⟨"RecurrenceBookLaw", "span", "(LRecurrenceBook;IZ[J)I"⟩
def yL_clash : MethodName := ⟨"RecurrenceBookLaw", "clash", "(LRecurrenceBook;II[J)I"⟩
def yL_law : MethodName := ⟨"RecurrenceBookLaw", "law", "([I)Z"⟩
end
section
/-! Decoded instructions. -/
theorem dZ_init_0 : decode prog_9_method_1_code 0 = .ok (.aload_n 0, 1) := by decide +kernel
theorem dZ_init_1 : decode prog_9_method_1_code 1 = .ok (.invokespecial 3, 3) := by decide +kernel
theorem dZ_init_4 : decode prog_9_method_1_code 4 = .ok (.aload_n 0, 1) := by decide +kernel
theorem dZ_init_5 : decode prog_9_method_1_code 5 = .ok (.bipush 100, 2) := by decide +kernel
theorem dZ_init_7 : decode prog_9_method_1_code 7 = .ok (.newarray .int, 2) := by decide +kernel
theorem dZ_init_9 : decode prog_9_method_1_code 9 = .ok (.putfield 9, 3) := by decide +kernel
theorem dZ_init_12 : decode prog_9_method_1_code 12 = .ok (.aload_n 0, 1) := by decide +kernel
theorem dZ_init_13 : decode prog_9_method_1_code 13 = .ok (.bipush 100, 2) := by decide +kernel
theorem dZ_init_15 : decode prog_9_method_1_code 15 = .ok (.newarray .int, 2) := by decide +kernel
theorem dZ_init_17 : decode prog_9_method_1_code 17 = .ok (.putfield 15, 3) := by decide +kernel
theorem dZ_init_20 : decode prog_9_method_1_code 20 = .ok (.return_, 1) := by decide +kernel
theorem dJ_floorMod_0 : decode prog_16_method_50_code 0 = .ok (.iload_n 0, 1) := by decide +kernel
theorem dJ_floorMod_1 : decode prog_16_method_50_code 1 = .ok (.iload_n 1, 1) := by decide +kernel
theorem dJ_floorMod_2 : decode prog_16_method_50_code 2 = .ok (.irem, 1) := by decide +kernel
theorem dJ_floorMod_3 : decode prog_16_method_50_code 3 = .ok (.istore_n 2, 1) := by decide +kernel
theorem dJ_floorMod_4 : decode prog_16_method_50_code 4 = .ok (.iload_n 0, 1) := by decide +kernel
theorem dJ_floorMod_5 : decode prog_16_method_50_code 5 = .ok (.iload_n 1, 1) := by decide +kernel
theorem dJ_floorMod_6 : decode prog_16_method_50_code 6 = .ok (.ixor, 1) := by decide +kernel
theorem dJ_floorMod_7 : decode prog_16_method_50_code 7 = .ok (.ifCond .ge 11, 3) := by decide +kernel
theorem dJ_floorMod_10 : decode prog_16_method_50_code 10 = .ok (.iload_n 2, 1) := by decide +kernel
theorem dJ_floorMod_11 : decode prog_16_method_50_code 11 = .ok (.ifCond .eq 7, 3) := by decide +kernel
theorem dJ_floorMod_14 : decode prog_16_method_50_code 14 = .ok (.iload_n 2, 1) := by decide +kernel
theorem dJ_floorMod_15 : decode prog_16_method_50_code 15 = .ok (.iload_n 1, 1) := by decide +kernel
theorem dJ_floorMod_16 : decode prog_16_method_50_code 16 = .ok (.iadd, 1) := by decide +kernel
theorem dJ_floorMod_17 : decode prog_16_method_50_code 17 = .ok (.ireturn, 1) := by decide +kernel
theorem dJ_floorMod_18 : decode prog_16_method_50_code 18 = .ok (.iload_n 2, 1) := by decide +kernel
theorem dJ_floorMod_19 : decode prog_16_method_50_code 19 = .ok (.ireturn, 1) := by decide +kernel
theorem dD_monthStart_0 : decode prog_2_method_4_code 0 = .ok (.iload_n 0, 1) := by decide +kernel
theorem dD_monthStart_1 : decode prog_2_method_4_code 1 = .ok (.bipush 12, 2) := by decide +kernel
theorem dD_monthStart_3 : decode prog_2_method_4_code 3 = .ok (.idiv, 1) := by decide +kernel
theorem dD_monthStart_4 : decode prog_2_method_4_code 4 = .ok (.istore_n 1, 1) := by decide +kernel
theorem dD_monthStart_5 : decode prog_2_method_4_code 5 = .ok (.iload_n 0, 1) := by decide +kernel
theorem dD_monthStart_6 : decode prog_2_method_4_code 6 = .ok (.bipush 12, 2) := by decide +kernel
theorem dD_monthStart_8 : decode prog_2_method_4_code 8 = .ok (.invokestatic 11, 3) := by decide +kernel
theorem dD_monthStart_11 : decode prog_2_method_4_code 11 = .ok (.istore_n 2, 1) := by decide +kernel
theorem dD_monthStart_12 : decode prog_2_method_4_code 12 = .ok (.iload_n 2, 1) := by decide +kernel
theorem dD_monthStart_13 : decode prog_2_method_4_code 13 = .ok (.iconst 2, 1) := by decide +kernel
theorem dD_monthStart_14 : decode prog_2_method_4_code 14 = .ok (.if_icmp .lt 13, 3) := by decide +kernel
theorem dD_monthStart_17 : decode prog_2_method_4_code 17 = .ok (.iload_n 1, 1) := by decide +kernel
theorem dD_monthStart_18 : decode prog_2_method_4_code 18 = .ok (.iconst 4, 1) := by decide +kernel
theorem dD_monthStart_19 : decode prog_2_method_4_code 19 = .ok (.irem, 1) := by decide +kernel
theorem dD_monthStart_20 : decode prog_2_method_4_code 20 = .ok (.ifCond .ne 7, 3) := by decide +kernel
theorem dD_monthStart_23 : decode prog_2_method_4_code 23 = .ok (.iconst 1, 1) := by decide +kernel
theorem dD_monthStart_24 : decode prog_2_method_4_code 24 = .ok (.goto 4, 3) := by decide +kernel
theorem dD_monthStart_27 : decode prog_2_method_4_code 27 = .ok (.iconst 0, 1) := by decide +kernel
theorem dD_monthStart_28 : decode prog_2_method_4_code 28 = .ok (.istore_n 3, 1) := by decide +kernel
theorem dD_monthStart_29 : decode prog_2_method_4_code 29 = .ok (.sipush 365, 3) := by decide +kernel
theorem dD_monthStart_32 : decode prog_2_method_4_code 32 = .ok (.iload_n 1, 1) := by decide +kernel
theorem dD_monthStart_33 : decode prog_2_method_4_code 33 = .ok (.imul, 1) := by decide +kernel
theorem dD_monthStart_34 : decode prog_2_method_4_code 34 = .ok (.iload_n 1, 1) := by decide +kernel
theorem dD_monthStart_35 : decode prog_2_method_4_code 35 = .ok (.iconst 3, 1) := by decide +kernel
theorem dD_monthStart_36 : decode prog_2_method_4_code 36 = .ok (.iadd, 1) := by decide +kernel
theorem dD_monthStart_37 : decode prog_2_method_4_code 37 = .ok (.iconst 4, 1) := by decide +kernel
theorem dD_monthStart_38 : decode prog_2_method_4_code 38 = .ok (.idiv, 1) := by decide +kernel
theorem dD_monthStart_39 : decode prog_2_method_4_code 39 = .ok (.iadd, 1) := by decide +kernel
theorem dD_monthStart_40 : decode prog_2_method_4_code 40 = .ok (.getstatic 17, 3) := by decide +kernel
theorem dD_monthStart_43 : decode prog_2_method_4_code 43 = .ok (.iload_n 2, 1) := by decide +kernel
theorem dD_monthStart_44 : decode prog_2_method_4_code 44 = .ok (.iaload, 1) := by decide +kernel
theorem dD_monthStart_45 : decode prog_2_method_4_code 45 = .ok (.iadd, 1) := by decide +kernel
theorem dD_monthStart_46 : decode prog_2_method_4_code 46 = .ok (.iload_n 3, 1) := by decide +kernel
theorem dD_monthStart_47 : decode prog_2_method_4_code 47 = .ok (.iadd, 1) := by decide +kernel
theorem dD_monthStart_48 : decode prog_2_method_4_code 48 = .ok (.ireturn, 1) := by decide +kernel
theorem dD_weekdayOf_0 : decode prog_2_method_2_code 0 = .ok (.iload_n 0, 1) := by decide +kernel
theorem dD_weekdayOf_1 : decode prog_2_method_2_code 1 = .ok (.iconst 5, 1) := by decide +kernel
theorem dD_weekdayOf_2 : decode prog_2_method_2_code 2 = .ok (.iadd, 1) := by decide +kernel
theorem dD_weekdayOf_3 : decode prog_2_method_2_code 3 = .ok (.bipush 7, 2) := by decide +kernel
theorem dD_weekdayOf_5 : decode prog_2_method_2_code 5 = .ok (.irem, 1) := by decide +kernel
theorem dD_weekdayOf_6 : decode prog_2_method_2_code 6 = .ok (.ireturn, 1) := by decide +kernel
theorem dD_sundayOf_0 : decode prog_2_method_7_code 0 = .ok (.iload_n 0, 1) := by decide +kernel
theorem dD_sundayOf_1 : decode prog_2_method_7_code 1 = .ok (.invokestatic 25, 3) := by decide +kernel
theorem dD_sundayOf_4 : decode prog_2_method_7_code 4 = .ok (.istore_n 2, 1) := by decide +kernel
theorem dD_sundayOf_5 : decode prog_2_method_7_code 5 = .ok (.iload_n 2, 1) := by decide +kernel
theorem dD_sundayOf_6 : decode prog_2_method_7_code 6 = .ok (.bipush 6, 2) := by decide +kernel
theorem dD_sundayOf_8 : decode prog_2_method_7_code 8 = .ok (.iadd, 1) := by decide +kernel
theorem dD_sundayOf_9 : decode prog_2_method_7_code 9 = .ok (.iload_n 2, 1) := by decide +kernel
theorem dD_sundayOf_10 : decode prog_2_method_7_code 10 = .ok (.invokestatic 32, 3) := by decide +kernel
theorem dD_sundayOf_13 : decode prog_2_method_7_code 13 = .ok (.isub, 1) := by decide +kernel
theorem dD_sundayOf_14 : decode prog_2_method_7_code 14 = .ok (.bipush 7, 2) := by decide +kernel
theorem dD_sundayOf_16 : decode prog_2_method_7_code 16 = .ok (.iload_n 1, 1) := by decide +kernel
theorem dD_sundayOf_17 : decode prog_2_method_7_code 17 = .ok (.iconst 1, 1) := by decide +kernel
theorem dD_sundayOf_18 : decode prog_2_method_7_code 18 = .ok (.isub, 1) := by decide +kernel
theorem dD_sundayOf_19 : decode prog_2_method_7_code 19 = .ok (.imul, 1) := by decide +kernel
theorem dD_sundayOf_20 : decode prog_2_method_7_code 20 = .ok (.iadd, 1) := by decide +kernel
theorem dD_sundayOf_21 : decode prog_2_method_7_code 21 = .ok (.istore_n 3, 1) := by decide +kernel
theorem dD_sundayOf_22 : decode prog_2_method_7_code 22 = .ok (.iload_n 3, 1) := by decide +kernel
theorem dD_sundayOf_23 : decode prog_2_method_7_code 23 = .ok (.iload_n 0, 1) := by decide +kernel
theorem dD_sundayOf_24 : decode prog_2_method_7_code 24 = .ok (.iconst 1, 1) := by decide +kernel
theorem dD_sundayOf_25 : decode prog_2_method_7_code 25 = .ok (.iadd, 1) := by decide +kernel
theorem dD_sundayOf_26 : decode prog_2_method_7_code 26 = .ok (.invokestatic 25, 3) := by decide +kernel
theorem dD_sundayOf_29 : decode prog_2_method_7_code 29 = .ok (.if_icmp .ge 7, 3) := by decide +kernel
theorem dD_sundayOf_32 : decode prog_2_method_7_code 32 = .ok (.iload_n 3, 1) := by decide +kernel
theorem dD_sundayOf_33 : decode prog_2_method_7_code 33 = .ok (.goto 7, 3) := by decide +kernel
theorem dD_sundayOf_36 : decode prog_2_method_7_code 36 = .ok (.iload_n 3, 1) := by decide +kernel
theorem dD_sundayOf_37 : decode prog_2_method_7_code 37 = .ok (.bipush 7, 2) := by decide +kernel
theorem dD_sundayOf_39 : decode prog_2_method_7_code 39 = .ok (.isub, 1) := by decide +kernel
theorem dD_sundayOf_40 : decode prog_2_method_7_code 40 = .ok (.ireturn, 1) := by decide +kernel
theorem dZ_change_0 : decode prog_9_method_2_code 0 = .ok (.aload_n 0, 1) := by decide +kernel
theorem dZ_change_1 : decode prog_9_method_2_code 1 = .ok (.iload_n 1, 1) := by decide +kernel
theorem dZ_change_2 : decode prog_9_method_2_code 2 = .ok (.putfield 18, 3) := by decide +kernel
theorem dZ_change_5 : decode prog_9_method_2_code 5 = .ok (.aload_n 0, 1) := by decide +kernel
theorem dZ_change_6 : decode prog_9_method_2_code 6 = .ok (.iload_n 2, 1) := by decide +kernel
theorem dZ_change_7 : decode prog_9_method_2_code 7 = .ok (.putfield 22, 3) := by decide +kernel
theorem dZ_change_10 : decode prog_9_method_2_code 10 = .ok (.iconst 0, 1) := by decide +kernel
theorem dZ_change_11 : decode prog_9_method_2_code 11 = .ok (.istore 7, 2) := by decide +kernel
theorem dZ_change_13 : decode prog_9_method_2_code 13 = .ok (.iload 7, 2) := by decide +kernel
theorem dZ_change_15 : decode prog_9_method_2_code 15 = .ok (.bipush 100, 2) := by decide +kernel
theorem dZ_change_17 : decode prog_9_method_2_code 17 = .ok (.if_icmp .ge 85, 3) := by decide +kernel
theorem dZ_change_20 : decode prog_9_method_2_code 20 = .ok (.bipush 12, 2) := by decide +kernel
theorem dZ_change_22 : decode prog_9_method_2_code 22 = .ok (.iload 7, 2) := by decide +kernel
theorem dZ_change_24 : decode prog_9_method_2_code 24 = .ok (.imul, 1) := by decide +kernel
theorem dZ_change_25 : decode prog_9_method_2_code 25 = .ok (.iload_n 3, 1) := by decide +kernel
theorem dZ_change_26 : decode prog_9_method_2_code 26 = .ok (.iadd, 1) := by decide +kernel
theorem dZ_change_27 : decode prog_9_method_2_code 27 = .ok (.iconst 1, 1) := by decide +kernel
theorem dZ_change_28 : decode prog_9_method_2_code 28 = .ok (.isub, 1) := by decide +kernel
theorem dZ_change_29 : decode prog_9_method_2_code 29 = .ok (.iload 4, 2) := by decide +kernel
theorem dZ_change_31 : decode prog_9_method_2_code 31 = .ok (.invokestatic 25, 3) := by decide +kernel
theorem dZ_change_34 : decode prog_9_method_2_code 34 = .ok (.istore 8, 2) := by decide +kernel
theorem dZ_change_36 : decode prog_9_method_2_code 36 = .ok (.bipush 12, 2) := by decide +kernel
theorem dZ_change_38 : decode prog_9_method_2_code 38 = .ok (.iload 7, 2) := by decide +kernel
theorem dZ_change_40 : decode prog_9_method_2_code 40 = .ok (.imul, 1) := by decide +kernel
theorem dZ_change_41 : decode prog_9_method_2_code 41 = .ok (.iload 5, 2) := by decide +kernel
theorem dZ_change_43 : decode prog_9_method_2_code 43 = .ok (.iadd, 1) := by decide +kernel
theorem dZ_change_44 : decode prog_9_method_2_code 44 = .ok (.iconst 1, 1) := by decide +kernel
theorem dZ_change_45 : decode prog_9_method_2_code 45 = .ok (.isub, 1) := by decide +kernel
theorem dZ_change_46 : decode prog_9_method_2_code 46 = .ok (.iload 6, 2) := by decide +kernel
theorem dZ_change_48 : decode prog_9_method_2_code 48 = .ok (.invokestatic 25, 3) := by decide +kernel
theorem dZ_change_51 : decode prog_9_method_2_code 51 = .ok (.istore 9, 2) := by decide +kernel
theorem dZ_change_53 : decode prog_9_method_2_code 53 = .ok (.aload_n 0, 1) := by decide +kernel
theorem dZ_change_54 : decode prog_9_method_2_code 54 = .ok (.getfield 9, 3) := by decide +kernel
theorem dZ_change_57 : decode prog_9_method_2_code 57 = .ok (.iload 7, 2) := by decide +kernel
theorem dZ_change_59 : decode prog_9_method_2_code 59 = .ok (.sipush 1440, 3) := by decide +kernel
theorem dZ_change_62 : decode prog_9_method_2_code 62 = .ok (.iload 8, 2) := by decide +kernel
theorem dZ_change_64 : decode prog_9_method_2_code 64 = .ok (.imul, 1) := by decide +kernel
theorem dZ_change_65 : decode prog_9_method_2_code 65 = .ok (.bipush 120, 2) := by decide +kernel
theorem dZ_change_67 : decode prog_9_method_2_code 67 = .ok (.iadd, 1) := by decide +kernel
theorem dZ_change_68 : decode prog_9_method_2_code 68 = .ok (.aload_n 0, 1) := by decide +kernel
theorem dZ_change_69 : decode prog_9_method_2_code 69 = .ok (.getfield 18, 3) := by decide +kernel
theorem dZ_change_72 : decode prog_9_method_2_code 72 = .ok (.isub, 1) := by decide +kernel
theorem dZ_change_73 : decode prog_9_method_2_code 73 = .ok (.iastore, 1) := by decide +kernel
theorem dZ_change_74 : decode prog_9_method_2_code 74 = .ok (.aload_n 0, 1) := by decide +kernel
theorem dZ_change_75 : decode prog_9_method_2_code 75 = .ok (.getfield 15, 3) := by decide +kernel
theorem dZ_change_78 : decode prog_9_method_2_code 78 = .ok (.iload 7, 2) := by decide +kernel
theorem dZ_change_80 : decode prog_9_method_2_code 80 = .ok (.sipush 1440, 3) := by decide +kernel
theorem dZ_change_83 : decode prog_9_method_2_code 83 = .ok (.iload 9, 2) := by decide +kernel
theorem dZ_change_85 : decode prog_9_method_2_code 85 = .ok (.imul, 1) := by decide +kernel
theorem dZ_change_86 : decode prog_9_method_2_code 86 = .ok (.sipush 180, 3) := by decide +kernel
theorem dZ_change_89 : decode prog_9_method_2_code 89 = .ok (.iadd, 1) := by decide +kernel
theorem dZ_change_90 : decode prog_9_method_2_code 90 = .ok (.aload_n 0, 1) := by decide +kernel
theorem dZ_change_91 : decode prog_9_method_2_code 91 = .ok (.getfield 22, 3) := by decide +kernel
theorem dZ_change_94 : decode prog_9_method_2_code 94 = .ok (.isub, 1) := by decide +kernel
theorem dZ_change_95 : decode prog_9_method_2_code 95 = .ok (.iastore, 1) := by decide +kernel
theorem dZ_change_96 : decode prog_9_method_2_code 96 = .ok (.iinc 7 1, 3) := by decide +kernel
theorem dZ_change_99 : decode prog_9_method_2_code 99 = .ok (.goto (-86), 3) := by decide +kernel
theorem dZ_change_102 : decode prog_9_method_2_code 102 = .ok (.return_, 1) := by decide +kernel
theorem dE_init_0 : decode prog_3_method_1_code 0 = .ok (.aload_n 0, 1) := by decide +kernel
theorem dE_init_1 : decode prog_3_method_1_code 1 = .ok (.invokespecial 3, 3) := by decide +kernel
theorem dE_init_4 : decode prog_3_method_1_code 4 = .ok (.aload_n 0, 1) := by decide +kernel
theorem dE_init_5 : decode prog_3_method_1_code 5 = .ok (.sipush 200, 3) := by decide +kernel
theorem dE_init_8 : decode prog_3_method_1_code 8 = .ok (.newarray .int, 2) := by decide +kernel
theorem dE_init_10 : decode prog_3_method_1_code 10 = .ok (.putfield 9, 3) := by decide +kernel
theorem dE_init_13 : decode prog_3_method_1_code 13 = .ok (.aload_n 0, 1) := by decide +kernel
theorem dE_init_14 : decode prog_3_method_1_code 14 = .ok (.sipush 200, 3) := by decide +kernel
theorem dE_init_17 : decode prog_3_method_1_code 17 = .ok (.newarray .int, 2) := by decide +kernel
theorem dE_init_19 : decode prog_3_method_1_code 19 = .ok (.putfield 15, 3) := by decide +kernel
theorem dE_init_22 : decode prog_3_method_1_code 22 = .ok (.return_, 1) := by decide +kernel
theorem dS_init_0 : decode prog_7_method_1_code 0 = .ok (.aload_n 0, 1) := by decide +kernel
theorem dS_init_1 : decode prog_7_method_1_code 1 = .ok (.invokespecial 3, 3) := by decide +kernel
theorem dS_init_4 : decode prog_7_method_1_code 4 = .ok (.aload_n 0, 1) := by decide +kernel
theorem dS_init_5 : decode prog_7_method_1_code 5 = .ok (.sipush 1600, 3) := by decide +kernel
theorem dS_init_8 : decode prog_7_method_1_code 8 = .ok (.newarray .int, 2) := by decide +kernel
theorem dS_init_10 : decode prog_7_method_1_code 10 = .ok (.putfield 9, 3) := by decide +kernel
theorem dS_init_13 : decode prog_7_method_1_code 13 = .ok (.aload_n 0, 1) := by decide +kernel
theorem dS_init_14 : decode prog_7_method_1_code 14 = .ok (.sipush 1600, 3) := by decide +kernel
theorem dS_init_17 : decode prog_7_method_1_code 17 = .ok (.newarray .int, 2) := by decide +kernel
theorem dS_init_19 : decode prog_7_method_1_code 19 = .ok (.putfield 15, 3) := by decide +kernel
theorem dS_init_22 : decode prog_7_method_1_code 22 = .ok (.aload_n 0, 1) := by decide +kernel
theorem dS_init_23 : decode prog_7_method_1_code 23 = .ok (.iconst 0, 1) := by decide +kernel
theorem dS_init_24 : decode prog_7_method_1_code 24 = .ok (.putfield 18, 3) := by decide +kernel
theorem dS_init_27 : decode prog_7_method_1_code 27 = .ok (.return_, 1) := by decide +kernel
theorem dB_init_0 : decode prog_1_method_1_code 0 = .ok (.aload_n 0, 1) := by decide +kernel
theorem dB_init_1 : decode prog_1_method_1_code 1 = .ok (.invokespecial 3, 3) := by decide +kernel
theorem dB_init_4 : decode prog_1_method_1_code 4 = .ok (.aload_n 0, 1) := by decide +kernel
theorem dB_init_5 : decode prog_1_method_1_code 5 = .ok (.bipush 60, 2) := by decide +kernel
theorem dB_init_7 : decode prog_1_method_1_code 7 = .ok (.newarray .char, 2) := by decide +kernel
theorem dB_init_9 : decode prog_1_method_1_code 9 = .ok (.putfield 9, 3) := by decide +kernel
theorem dB_init_12 : decode prog_1_method_1_code 12 = .ok (.aload_n 0, 1) := by decide +kernel
theorem dB_init_13 : decode prog_1_method_1_code 13 = .ok (.iconst 0, 1) := by decide +kernel
theorem dB_init_14 : decode prog_1_method_1_code 14 = .ok (.putfield 13, 3) := by decide +kernel
theorem dB_init_17 : decode prog_1_method_1_code 17 = .ok (.aload_n 0, 1) := by decide +kernel
theorem dB_init_18 : decode prog_1_method_1_code 18 = .ok (.new 17, 3) := by decide +kernel
theorem dB_init_21 : decode prog_1_method_1_code 21 = .ok (.dup, 1) := by decide +kernel
theorem dB_init_22 : decode prog_1_method_1_code 22 = .ok (.invokespecial 19, 3) := by decide +kernel
theorem dB_init_25 : decode prog_1_method_1_code 25 = .ok (.putfield 20, 3) := by decide +kernel
theorem dB_init_28 : decode prog_1_method_1_code 28 = .ok (.aload_n 0, 1) := by decide +kernel
theorem dB_init_29 : decode prog_1_method_1_code 29 = .ok (.getfield 20, 3) := by decide +kernel
theorem dB_init_32 : decode prog_1_method_1_code 32 = .ok (.iconst 0, 1) := by decide +kernel
theorem dB_init_33 : decode prog_1_method_1_code 33 = .ok (.iconst 0, 1) := by decide +kernel
theorem dB_init_34 : decode prog_1_method_1_code 34 = .ok (.iconst 3, 1) := by decide +kernel
theorem dB_init_35 : decode prog_1_method_1_code 35 = .ok (.iconst 5, 1) := by decide +kernel
theorem dB_init_36 : decode prog_1_method_1_code 36 = .ok (.bipush 10, 2) := by decide +kernel
theorem dB_init_38 : decode prog_1_method_1_code 38 = .ok (.iconst 5, 1) := by decide +kernel
theorem dB_init_39 : decode prog_1_method_1_code 39 = .ok (.invokevirtual 24, 3) := by decide +kernel
theorem dB_init_42 : decode prog_1_method_1_code 42 = .ok (.aload_n 0, 1) := by decide +kernel
theorem dB_init_43 : decode prog_1_method_1_code 43 = .ok (.bipush 8, 2) := by decide +kernel
theorem dB_init_45 : decode prog_1_method_1_code 45 = .ok (.anewarray 28, 3) := by decide +kernel
theorem dB_init_48 : decode prog_1_method_1_code 48 = .ok (.putfield 30, 3) := by decide +kernel
theorem dB_init_51 : decode prog_1_method_1_code 51 = .ok (.iconst 0, 1) := by decide +kernel
theorem dB_init_52 : decode prog_1_method_1_code 52 = .ok (.istore_n 1, 1) := by decide +kernel
theorem dB_init_53 : decode prog_1_method_1_code 53 = .ok (.iload_n 1, 1) := by decide +kernel
theorem dB_init_54 : decode prog_1_method_1_code 54 = .ok (.bipush 8, 2) := by decide +kernel
theorem dB_init_56 : decode prog_1_method_1_code 56 = .ok (.if_icmp .ge 22, 3) := by decide +kernel
theorem dB_init_59 : decode prog_1_method_1_code 59 = .ok (.aload_n 0, 1) := by decide +kernel
theorem dB_init_60 : decode prog_1_method_1_code 60 = .ok (.getfield 30, 3) := by decide +kernel
theorem dB_init_63 : decode prog_1_method_1_code 63 = .ok (.iload_n 1, 1) := by decide +kernel
theorem dB_init_64 : decode prog_1_method_1_code 64 = .ok (.new 28, 3) := by decide +kernel
theorem dB_init_67 : decode prog_1_method_1_code 67 = .ok (.dup, 1) := by decide +kernel
theorem dB_init_68 : decode prog_1_method_1_code 68 = .ok (.invokespecial 34, 3) := by decide +kernel
theorem dB_init_71 : decode prog_1_method_1_code 71 = .ok (.aastore, 1) := by decide +kernel
theorem dB_init_72 : decode prog_1_method_1_code 72 = .ok (.iinc 1 1, 3) := by decide +kernel
theorem dB_init_75 : decode prog_1_method_1_code 75 = .ok (.goto (-22), 3) := by decide +kernel
theorem dB_init_78 : decode prog_1_method_1_code 78 = .ok (.aload_n 0, 1) := by decide +kernel
theorem dB_init_79 : decode prog_1_method_1_code 79 = .ok (.iconst 0, 1) := by decide +kernel
theorem dB_init_80 : decode prog_1_method_1_code 80 = .ok (.putfield 35, 3) := by decide +kernel
theorem dB_init_83 : decode prog_1_method_1_code 83 = .ok (.aload_n 0, 1) := by decide +kernel
theorem dB_init_84 : decode prog_1_method_1_code 84 = .ok (.bipush 8, 2) := by decide +kernel
theorem dB_init_86 : decode prog_1_method_1_code 86 = .ok (.newarray .int, 2) := by decide +kernel
theorem dB_init_88 : decode prog_1_method_1_code 88 = .ok (.putfield 38, 3) := by decide +kernel
theorem dB_init_91 : decode prog_1_method_1_code 91 = .ok (.aload_n 0, 1) := by decide +kernel
theorem dB_init_92 : decode prog_1_method_1_code 92 = .ok (.new 42, 3) := by decide +kernel
theorem dB_init_95 : decode prog_1_method_1_code 95 = .ok (.dup, 1) := by decide +kernel
theorem dB_init_96 : decode prog_1_method_1_code 96 = .ok (.invokespecial 44, 3) := by decide +kernel
theorem dB_init_99 : decode prog_1_method_1_code 99 = .ok (.putfield 45, 3) := by decide +kernel
theorem dB_init_102 : decode prog_1_method_1_code 102 = .ok (.return_, 1) := by decide +kernel
theorem dB_type_0 : decode prog_1_method_2_code 0 = .ok (.aload_n 0, 1) := by decide +kernel
theorem dB_type_1 : decode prog_1_method_2_code 1 = .ok (.getfield 13, 3) := by decide +kernel
theorem dB_type_4 : decode prog_1_method_2_code 4 = .ok (.bipush 60, 2) := by decide +kernel
theorem dB_type_6 : decode prog_1_method_2_code 6 = .ok (.if_icmp .lt 5, 3) := by decide +kernel
theorem dB_type_9 : decode prog_1_method_2_code 9 = .ok (.iconst 0, 1) := by decide +kernel
theorem dB_type_10 : decode prog_1_method_2_code 10 = .ok (.ireturn, 1) := by decide +kernel
theorem dB_type_11 : decode prog_1_method_2_code 11 = .ok (.aload_n 0, 1) := by decide +kernel
theorem dB_type_12 : decode prog_1_method_2_code 12 = .ok (.getfield 9, 3) := by decide +kernel
theorem dB_type_15 : decode prog_1_method_2_code 15 = .ok (.aload_n 0, 1) := by decide +kernel
theorem dB_type_16 : decode prog_1_method_2_code 16 = .ok (.getfield 13, 3) := by decide +kernel
theorem dB_type_19 : decode prog_1_method_2_code 19 = .ok (.iload_n 1, 1) := by decide +kernel
theorem dB_type_20 : decode prog_1_method_2_code 20 = .ok (.castore, 1) := by decide +kernel
theorem dB_type_21 : decode prog_1_method_2_code 21 = .ok (.aload_n 0, 1) := by decide +kernel
theorem dB_type_22 : decode prog_1_method_2_code 22 = .ok (.dup, 1) := by decide +kernel
theorem dB_type_23 : decode prog_1_method_2_code 23 = .ok (.getfield 13, 3) := by decide +kernel
theorem dB_type_26 : decode prog_1_method_2_code 26 = .ok (.iconst 1, 1) := by decide +kernel
theorem dB_type_27 : decode prog_1_method_2_code 27 = .ok (.iadd, 1) := by decide +kernel
theorem dB_type_28 : decode prog_1_method_2_code 28 = .ok (.putfield 13, 3) := by decide +kernel
theorem dB_type_31 : decode prog_1_method_2_code 31 = .ok (.iconst 1, 1) := by decide +kernel
theorem dB_type_32 : decode prog_1_method_2_code 32 = .ok (.ireturn, 1) := by decide +kernel
theorem dB_isOffset_0 : decode prog_1_method_18_code 0 = .ok (.iload_n 0, 1) := by decide +kernel
theorem dB_isOffset_1 : decode prog_1_method_18_code 1 = .ok (.sipush (-840), 3) := by decide +kernel
theorem dB_isOffset_4 : decode prog_1_method_18_code 4 = .ok (.if_icmp .lt 14, 3) := by decide +kernel
theorem dB_isOffset_7 : decode prog_1_method_18_code 7 = .ok (.iload_n 0, 1) := by decide +kernel
theorem dB_isOffset_8 : decode prog_1_method_18_code 8 = .ok (.sipush 840, 3) := by decide +kernel
theorem dB_isOffset_11 : decode prog_1_method_18_code 11 = .ok (.if_icmp .gt 7, 3) := by decide +kernel
theorem dB_isOffset_14 : decode prog_1_method_18_code 14 = .ok (.iconst 1, 1) := by decide +kernel
theorem dB_isOffset_15 : decode prog_1_method_18_code 15 = .ok (.goto 4, 3) := by decide +kernel
theorem dB_isOffset_18 : decode prog_1_method_18_code 18 = .ok (.iconst 0, 1) := by decide +kernel
theorem dB_isOffset_19 : decode prog_1_method_18_code 19 = .ok (.ireturn, 1) := by decide +kernel
theorem dB_isMonth_0 : decode prog_1_method_19_code 0 = .ok (.iload_n 0, 1) := by decide +kernel
theorem dB_isMonth_1 : decode prog_1_method_19_code 1 = .ok (.iconst 1, 1) := by decide +kernel
theorem dB_isMonth_2 : decode prog_1_method_19_code 2 = .ok (.if_icmp .lt 13, 3) := by decide +kernel
theorem dB_isMonth_5 : decode prog_1_method_19_code 5 = .ok (.iload_n 0, 1) := by decide +kernel
theorem dB_isMonth_6 : decode prog_1_method_19_code 6 = .ok (.bipush 12, 2) := by decide +kernel
theorem dB_isMonth_8 : decode prog_1_method_19_code 8 = .ok (.if_icmp .gt 7, 3) := by decide +kernel
theorem dB_isMonth_11 : decode prog_1_method_19_code 11 = .ok (.iconst 1, 1) := by decide +kernel
theorem dB_isMonth_12 : decode prog_1_method_19_code 12 = .ok (.goto 4, 3) := by decide +kernel
theorem dB_isMonth_15 : decode prog_1_method_19_code 15 = .ok (.iconst 0, 1) := by decide +kernel
theorem dB_isMonth_16 : decode prog_1_method_19_code 16 = .ok (.ireturn, 1) := by decide +kernel
theorem dD_yearOf_0 : decode prog_2_method_3_code 0 = .ok (.iconst 4, 1) := by decide +kernel
theorem dD_yearOf_1 : decode prog_2_method_3_code 1 = .ok (.iload_n 0, 1) := by decide +kernel
theorem dD_yearOf_2 : decode prog_2_method_3_code 2 = .ok (.imul, 1) := by decide +kernel
theorem dD_yearOf_3 : decode prog_2_method_3_code 3 = .ok (.sipush 1461, 3) := by decide +kernel
theorem dD_yearOf_6 : decode prog_2_method_3_code 6 = .ok (.idiv, 1) := by decide +kernel
theorem dD_yearOf_7 : decode prog_2_method_3_code 7 = .ok (.ireturn, 1) := by decide +kernel
theorem dJ_min_0 : decode prog_16_method_69_code 0 = .ok (.iload_n 0, 1) := by decide +kernel
theorem dJ_min_1 : decode prog_16_method_69_code 1 = .ok (.iload_n 1, 1) := by decide +kernel
theorem dJ_min_2 : decode prog_16_method_69_code 2 = .ok (.if_icmp .gt 7, 3) := by decide +kernel
theorem dJ_min_5 : decode prog_16_method_69_code 5 = .ok (.iload_n 0, 1) := by decide +kernel
theorem dJ_min_6 : decode prog_16_method_69_code 6 = .ok (.goto 4, 3) := by decide +kernel
theorem dJ_min_9 : decode prog_16_method_69_code 9 = .ok (.iload_n 1, 1) := by decide +kernel
theorem dJ_min_10 : decode prog_16_method_69_code 10 = .ok (.ireturn, 1) := by decide +kernel
theorem dJ_max_0 : decode prog_16_method_65_code 0 = .ok (.iload_n 0, 1) := by decide +kernel
theorem dJ_max_1 : decode prog_16_method_65_code 1 = .ok (.iload_n 1, 1) := by decide +kernel
theorem dJ_max_2 : decode prog_16_method_65_code 2 = .ok (.if_icmp .lt 7, 3) := by decide +kernel
theorem dJ_max_5 : decode prog_16_method_65_code 5 = .ok (.iload_n 0, 1) := by decide +kernel
theorem dJ_max_6 : decode prog_16_method_65_code 6 = .ok (.goto 4, 3) := by decide +kernel
theorem dJ_max_9 : decode prog_16_method_65_code 9 = .ok (.iload_n 1, 1) := by decide +kernel
theorem dJ_max_10 : decode prog_16_method_65_code 10 = .ok (.ireturn, 1) := by decide +kernel
theorem dZ_isSummer_0 : decode prog_9_method_3_code 0 = .ok (.iload_n 1, 1) := by decide +kernel
theorem dZ_isSummer_1 : decode prog_9_method_3_code 1 = .ok (.sipush 1440, 3) := by decide +kernel
theorem dZ_isSummer_4 : decode prog_9_method_3_code 4 = .ok (.idiv, 1) := by decide +kernel
theorem dZ_isSummer_5 : decode prog_9_method_3_code 5 = .ok (.invokestatic 31, 3) := by decide +kernel
theorem dZ_isSummer_8 : decode prog_9_method_3_code 8 = .ok (.istore_n 2, 1) := by decide +kernel
theorem dZ_isSummer_9 : decode prog_9_method_3_code 9 = .ok (.bipush 99, 2) := by decide +kernel
theorem dZ_isSummer_11 : decode prog_9_method_3_code 11 = .ok (.iload_n 2, 1) := by decide +kernel
theorem dZ_isSummer_12 : decode prog_9_method_3_code 12 = .ok (.iconst 1, 1) := by decide +kernel
theorem dZ_isSummer_13 : decode prog_9_method_3_code 13 = .ok (.iadd, 1) := by decide +kernel
theorem dZ_isSummer_14 : decode prog_9_method_3_code 14 = .ok (.invokestatic 35, 3) := by decide +kernel
theorem dZ_isSummer_17 : decode prog_9_method_3_code 17 = .ok (.istore_n 3, 1) := by decide +kernel
theorem dZ_isSummer_18 : decode prog_9_method_3_code 18 = .ok (.iconst 0, 1) := by decide +kernel
theorem dZ_isSummer_19 : decode prog_9_method_3_code 19 = .ok (.iload_n 2, 1) := by decide +kernel
theorem dZ_isSummer_20 : decode prog_9_method_3_code 20 = .ok (.invokestatic 40, 3) := by decide +kernel
theorem dZ_isSummer_23 : decode prog_9_method_3_code 23 = .ok (.istore 4, 2) := by decide +kernel
theorem dZ_isSummer_25 : decode prog_9_method_3_code 25 = .ok (.iload 4, 2) := by decide +kernel
theorem dZ_isSummer_27 : decode prog_9_method_3_code 27 = .ok (.iload_n 3, 1) := by decide +kernel
theorem dZ_isSummer_28 : decode prog_9_method_3_code 28 = .ok (.if_icmp .gt 33, 3) := by decide +kernel
theorem dZ_isSummer_31 : decode prog_9_method_3_code 31 = .ok (.aload_n 0, 1) := by decide +kernel
theorem dZ_isSummer_32 : decode prog_9_method_3_code 32 = .ok (.getfield 9, 3) := by decide +kernel
theorem dZ_isSummer_35 : decode prog_9_method_3_code 35 = .ok (.iload 4, 2) := by decide +kernel
theorem dZ_isSummer_37 : decode prog_9_method_3_code 37 = .ok (.iaload, 1) := by decide +kernel
theorem dZ_isSummer_38 : decode prog_9_method_3_code 38 = .ok (.iload_n 1, 1) := by decide +kernel
theorem dZ_isSummer_39 : decode prog_9_method_3_code 39 = .ok (.if_icmp .gt 16, 3) := by decide +kernel
theorem dZ_isSummer_42 : decode prog_9_method_3_code 42 = .ok (.iload_n 1, 1) := by decide +kernel
theorem dZ_isSummer_43 : decode prog_9_method_3_code 43 = .ok (.aload_n 0, 1) := by decide +kernel
theorem dZ_isSummer_44 : decode prog_9_method_3_code 44 = .ok (.getfield 15, 3) := by decide +kernel
theorem dZ_isSummer_47 : decode prog_9_method_3_code 47 = .ok (.iload 4, 2) := by decide +kernel
theorem dZ_isSummer_49 : decode prog_9_method_3_code 49 = .ok (.iaload, 1) := by decide +kernel
theorem dZ_isSummer_50 : decode prog_9_method_3_code 50 = .ok (.if_icmp .ge 5, 3) := by decide +kernel
theorem dZ_isSummer_53 : decode prog_9_method_3_code 53 = .ok (.iconst 1, 1) := by decide +kernel
theorem dZ_isSummer_54 : decode prog_9_method_3_code 54 = .ok (.ireturn, 1) := by decide +kernel
theorem dZ_isSummer_55 : decode prog_9_method_3_code 55 = .ok (.iinc 4 1, 3) := by decide +kernel
theorem dZ_isSummer_58 : decode prog_9_method_3_code 58 = .ok (.goto (-33), 3) := by decide +kernel
theorem dZ_isSummer_61 : decode prog_9_method_3_code 61 = .ok (.iconst 0, 1) := by decide +kernel
theorem dZ_isSummer_62 : decode prog_9_method_3_code 62 = .ok (.ireturn, 1) := by decide +kernel
theorem dZ_momentOf_0 : decode prog_9_method_5_code 0 = .ok (.aload_n 0, 1) := by decide +kernel
theorem dZ_momentOf_1 : decode prog_9_method_5_code 1 = .ok (.iload_n 1, 1) := by decide +kernel
theorem dZ_momentOf_2 : decode prog_9_method_5_code 2 = .ok (.aload_n 0, 1) := by decide +kernel
theorem dZ_momentOf_3 : decode prog_9_method_5_code 3 = .ok (.getfield 22, 3) := by decide +kernel
theorem dZ_momentOf_6 : decode prog_9_method_5_code 6 = .ok (.isub, 1) := by decide +kernel
theorem dZ_momentOf_7 : decode prog_9_method_5_code 7 = .ok (.invokevirtual 43, 3) := by decide +kernel
theorem dZ_momentOf_10 : decode prog_9_method_5_code 10 = .ok (.ifCond .eq 12, 3) := by decide +kernel
theorem dZ_momentOf_13 : decode prog_9_method_5_code 13 = .ok (.iload_n 1, 1) := by decide +kernel
theorem dZ_momentOf_14 : decode prog_9_method_5_code 14 = .ok (.aload_n 0, 1) := by decide +kernel
theorem dZ_momentOf_15 : decode prog_9_method_5_code 15 = .ok (.getfield 22, 3) := by decide +kernel
theorem dZ_momentOf_18 : decode prog_9_method_5_code 18 = .ok (.isub, 1) := by decide +kernel
theorem dZ_momentOf_19 : decode prog_9_method_5_code 19 = .ok (.goto 9, 3) := by decide +kernel
theorem dZ_momentOf_22 : decode prog_9_method_5_code 22 = .ok (.iload_n 1, 1) := by decide +kernel
theorem dZ_momentOf_23 : decode prog_9_method_5_code 23 = .ok (.aload_n 0, 1) := by decide +kernel
theorem dZ_momentOf_24 : decode prog_9_method_5_code 24 = .ok (.getfield 18, 3) := by decide +kernel
theorem dZ_momentOf_27 : decode prog_9_method_5_code 27 = .ok (.isub, 1) := by decide +kernel
theorem dZ_momentOf_28 : decode prog_9_method_5_code 28 = .ok (.ireturn, 1) := by decide +kernel
theorem dE_settle_0 : decode prog_3_method_4_code 0 = .ok (.iconst 0, 1) := by decide +kernel
theorem dE_settle_1 : decode prog_3_method_4_code 1 = .ok (.istore_n 2, 1) := by decide +kernel
theorem dE_settle_2 : decode prog_3_method_4_code 2 = .ok (.iload_n 2, 1) := by decide +kernel
theorem dE_settle_3 : decode prog_3_method_4_code 3 = .ok (.aload_n 0, 1) := by decide +kernel
theorem dE_settle_4 : decode prog_3_method_4_code 4 = .ok (.getfield 25, 3) := by decide +kernel
theorem dE_settle_7 : decode prog_3_method_4_code 7 = .ok (.if_icmp .ge 80, 3) := by decide +kernel
theorem dE_settle_10 : decode prog_3_method_4_code 10 = .ok (.aload_n 1, 1) := by decide +kernel
theorem dE_settle_11 : decode prog_3_method_4_code 11 = .ok (.sipush 1440, 3) := by decide +kernel
theorem dE_settle_14 : decode prog_3_method_4_code 14 = .ok (.aload_n 0, 1) := by decide +kernel
theorem dE_settle_15 : decode prog_3_method_4_code 15 = .ok (.getfield 9, 3) := by decide +kernel
theorem dE_settle_18 : decode prog_3_method_4_code 18 = .ok (.iload_n 2, 1) := by decide +kernel
theorem dE_settle_19 : decode prog_3_method_4_code 19 = .ok (.iaload, 1) := by decide +kernel
theorem dE_settle_20 : decode prog_3_method_4_code 20 = .ok (.imul, 1) := by decide +kernel
theorem dE_settle_21 : decode prog_3_method_4_code 21 = .ok (.aload_n 0, 1) := by decide +kernel
theorem dE_settle_22 : decode prog_3_method_4_code 22 = .ok (.getfield 18, 3) := by decide +kernel
theorem dE_settle_25 : decode prog_3_method_4_code 25 = .ok (.iadd, 1) := by decide +kernel
theorem dE_settle_26 : decode prog_3_method_4_code 26 = .ok (.invokevirtual 31, 3) := by decide +kernel
theorem dE_settle_29 : decode prog_3_method_4_code 29 = .ok (.istore_n 3, 1) := by decide +kernel
theorem dE_settle_30 : decode prog_3_method_4_code 30 = .ok (.iload_n 2, 1) := by decide +kernel
theorem dE_settle_31 : decode prog_3_method_4_code 31 = .ok (.istore 4, 2) := by decide +kernel
theorem dE_settle_33 : decode prog_3_method_4_code 33 = .ok (.iload 4, 2) := by decide +kernel
theorem dE_settle_35 : decode prog_3_method_4_code 35 = .ok (.ifCond .le 38, 3) := by decide +kernel
theorem dE_settle_38 : decode prog_3_method_4_code 38 = .ok (.aload_n 0, 1) := by decide +kernel
theorem dE_settle_39 : decode prog_3_method_4_code 39 = .ok (.getfield 15, 3) := by decide +kernel
theorem dE_settle_42 : decode prog_3_method_4_code 42 = .ok (.iload 4, 2) := by decide +kernel
theorem dE_settle_44 : decode prog_3_method_4_code 44 = .ok (.iconst 1, 1) := by decide +kernel
theorem dE_settle_45 : decode prog_3_method_4_code 45 = .ok (.isub, 1) := by decide +kernel
theorem dE_settle_46 : decode prog_3_method_4_code 46 = .ok (.iaload, 1) := by decide +kernel
theorem dE_settle_47 : decode prog_3_method_4_code 47 = .ok (.iload_n 3, 1) := by decide +kernel
theorem dE_settle_48 : decode prog_3_method_4_code 48 = .ok (.if_icmp .le 25, 3) := by decide +kernel
theorem dE_settle_51 : decode prog_3_method_4_code 51 = .ok (.aload_n 0, 1) := by decide +kernel
theorem dE_settle_52 : decode prog_3_method_4_code 52 = .ok (.getfield 15, 3) := by decide +kernel
theorem dE_settle_55 : decode prog_3_method_4_code 55 = .ok (.iload 4, 2) := by decide +kernel
theorem dE_settle_57 : decode prog_3_method_4_code 57 = .ok (.aload_n 0, 1) := by decide +kernel
theorem dE_settle_58 : decode prog_3_method_4_code 58 = .ok (.getfield 15, 3) := by decide +kernel
theorem dE_settle_61 : decode prog_3_method_4_code 61 = .ok (.iload 4, 2) := by decide +kernel
theorem dE_settle_63 : decode prog_3_method_4_code 63 = .ok (.iconst 1, 1) := by decide +kernel
theorem dE_settle_64 : decode prog_3_method_4_code 64 = .ok (.isub, 1) := by decide +kernel
theorem dE_settle_65 : decode prog_3_method_4_code 65 = .ok (.iaload, 1) := by decide +kernel
theorem dE_settle_66 : decode prog_3_method_4_code 66 = .ok (.iastore, 1) := by decide +kernel
theorem dE_settle_67 : decode prog_3_method_4_code 67 = .ok (.iinc 4 (-1), 3) := by decide +kernel
theorem dE_settle_70 : decode prog_3_method_4_code 70 = .ok (.goto (-37), 3) := by decide +kernel
theorem dE_settle_73 : decode prog_3_method_4_code 73 = .ok (.aload_n 0, 1) := by decide +kernel
theorem dE_settle_74 : decode prog_3_method_4_code 74 = .ok (.getfield 15, 3) := by decide +kernel
theorem dE_settle_77 : decode prog_3_method_4_code 77 = .ok (.iload 4, 2) := by decide +kernel
theorem dE_settle_79 : decode prog_3_method_4_code 79 = .ok (.iload_n 3, 1) := by decide +kernel
theorem dE_settle_80 : decode prog_3_method_4_code 80 = .ok (.iastore, 1) := by decide +kernel
theorem dE_settle_81 : decode prog_3_method_4_code 81 = .ok (.iinc 2 1, 3) := by decide +kernel
theorem dE_settle_84 : decode prog_3_method_4_code 84 = .ok (.goto (-82), 3) := by decide +kernel
theorem dE_settle_87 : decode prog_3_method_4_code 87 = .ok (.return_, 1) := by decide +kernel
end
section
/-! Decoded instructions. -/
theorem dB_zone_0 : decode prog_1_method_3_code 0 = .ok (.iload_n 1, 1) := by decide +kernel
theorem dB_zone_1 : decode prog_1_method_3_code 1 = .ok (.invokestatic 49, 3) := by decide +kernel
theorem dB_zone_4 : decode prog_1_method_3_code 4 = .ok (.ifCond .eq 15, 3) := by decide +kernel
theorem dB_zone_7 : decode prog_1_method_3_code 7 = .ok (.iload_n 2, 1) := by decide +kernel
theorem dB_zone_8 : decode prog_1_method_3_code 8 = .ok (.invokestatic 49, 3) := by decide +kernel
theorem dB_zone_11 : decode prog_1_method_3_code 11 = .ok (.ifCond .eq 8, 3) := by decide +kernel
theorem dB_zone_14 : decode prog_1_method_3_code 14 = .ok (.iload_n 2, 1) := by decide +kernel
theorem dB_zone_15 : decode prog_1_method_3_code 15 = .ok (.iload_n 1, 1) := by decide +kernel
theorem dB_zone_16 : decode prog_1_method_3_code 16 = .ok (.if_icmp .ge 13, 3) := by decide +kernel
theorem dB_zone_19 : decode prog_1_method_3_code 19 = .ok (.new 53, 3) := by decide +kernel
theorem dB_zone_22 : decode prog_1_method_3_code 22 = .ok (.dup, 1) := by decide +kernel
theorem dB_zone_23 : decode prog_1_method_3_code 23 = .ok (.ldc 55, 2) := by decide +kernel
theorem dB_zone_25 : decode prog_1_method_3_code 25 = .ok (.invokespecial 57, 3) := by decide +kernel
theorem dB_zone_28 : decode prog_1_method_3_code 28 = .ok (.athrow, 1) := by decide +kernel
theorem dB_zone_29 : decode prog_1_method_3_code 29 = .ok (.iload_n 3, 1) := by decide +kernel
theorem dB_zone_30 : decode prog_1_method_3_code 30 = .ok (.invokestatic 60, 3) := by decide +kernel
theorem dB_zone_33 : decode prog_1_method_3_code 33 = .ok (.ifCond .eq 17, 3) := by decide +kernel
theorem dB_zone_36 : decode prog_1_method_3_code 36 = .ok (.iload 5, 2) := by decide +kernel
theorem dB_zone_38 : decode prog_1_method_3_code 38 = .ok (.invokestatic 60, 3) := by decide +kernel
theorem dB_zone_41 : decode prog_1_method_3_code 41 = .ok (.ifCond .eq 9, 3) := by decide +kernel
theorem dB_zone_44 : decode prog_1_method_3_code 44 = .ok (.iload_n 3, 1) := by decide +kernel
theorem dB_zone_45 : decode prog_1_method_3_code 45 = .ok (.iload 5, 2) := by decide +kernel
theorem dB_zone_47 : decode prog_1_method_3_code 47 = .ok (.if_icmp .lt 13, 3) := by decide +kernel
theorem dB_zone_50 : decode prog_1_method_3_code 50 = .ok (.new 53, 3) := by decide +kernel
theorem dB_zone_53 : decode prog_1_method_3_code 53 = .ok (.dup, 1) := by decide +kernel
theorem dB_zone_54 : decode prog_1_method_3_code 54 = .ok (.ldc 63, 2) := by decide +kernel
theorem dB_zone_56 : decode prog_1_method_3_code 56 = .ok (.invokespecial 57, 3) := by decide +kernel
theorem dB_zone_59 : decode prog_1_method_3_code 59 = .ok (.athrow, 1) := by decide +kernel
theorem dB_zone_60 : decode prog_1_method_3_code 60 = .ok (.iload 4, 2) := by decide +kernel
theorem dB_zone_62 : decode prog_1_method_3_code 62 = .ok (.iconst 1, 1) := by decide +kernel
theorem dB_zone_63 : decode prog_1_method_3_code 63 = .ok (.if_icmp .lt 21, 3) := by decide +kernel
theorem dB_zone_66 : decode prog_1_method_3_code 66 = .ok (.iload 4, 2) := by decide +kernel
theorem dB_zone_68 : decode prog_1_method_3_code 68 = .ok (.iconst 5, 1) := by decide +kernel
theorem dB_zone_69 : decode prog_1_method_3_code 69 = .ok (.if_icmp .gt 15, 3) := by decide +kernel
theorem dB_zone_72 : decode prog_1_method_3_code 72 = .ok (.iload 6, 2) := by decide +kernel
theorem dB_zone_74 : decode prog_1_method_3_code 74 = .ok (.iconst 1, 1) := by decide +kernel
theorem dB_zone_75 : decode prog_1_method_3_code 75 = .ok (.if_icmp .lt 9, 3) := by decide +kernel
theorem dB_zone_78 : decode prog_1_method_3_code 78 = .ok (.iload 6, 2) := by decide +kernel
theorem dB_zone_80 : decode prog_1_method_3_code 80 = .ok (.iconst 5, 1) := by decide +kernel
theorem dB_zone_81 : decode prog_1_method_3_code 81 = .ok (.if_icmp .le 13, 3) := by decide +kernel
theorem dB_zone_84 : decode prog_1_method_3_code 84 = .ok (.new 53, 3) := by decide +kernel
theorem dB_zone_87 : decode prog_1_method_3_code 87 = .ok (.dup, 1) := by decide +kernel
theorem dB_zone_88 : decode prog_1_method_3_code 88 = .ok (.ldc 65, 2) := by decide +kernel
theorem dB_zone_90 : decode prog_1_method_3_code 90 = .ok (.invokespecial 57, 3) := by decide +kernel
theorem dB_zone_93 : decode prog_1_method_3_code 93 = .ok (.athrow, 1) := by decide +kernel
theorem dB_zone_94 : decode prog_1_method_3_code 94 = .ok (.aload_n 0, 1) := by decide +kernel
theorem dB_zone_95 : decode prog_1_method_3_code 95 = .ok (.getfield 20, 3) := by decide +kernel
theorem dB_zone_98 : decode prog_1_method_3_code 98 = .ok (.iload_n 1, 1) := by decide +kernel
theorem dB_zone_99 : decode prog_1_method_3_code 99 = .ok (.iload_n 2, 1) := by decide +kernel
theorem dB_zone_100 : decode prog_1_method_3_code 100 = .ok (.iload_n 3, 1) := by decide +kernel
theorem dB_zone_101 : decode prog_1_method_3_code 101 = .ok (.iload 4, 2) := by decide +kernel
theorem dB_zone_103 : decode prog_1_method_3_code 103 = .ok (.iload 5, 2) := by decide +kernel
theorem dB_zone_105 : decode prog_1_method_3_code 105 = .ok (.iload 6, 2) := by decide +kernel
theorem dB_zone_107 : decode prog_1_method_3_code 107 = .ok (.invokevirtual 24, 3) := by decide +kernel
theorem dB_zone_110 : decode prog_1_method_3_code 110 = .ok (.iconst 0, 1) := by decide +kernel
theorem dB_zone_111 : decode prog_1_method_3_code 111 = .ok (.istore 7, 2) := by decide +kernel
theorem dB_zone_113 : decode prog_1_method_3_code 113 = .ok (.iload 7, 2) := by decide +kernel
theorem dB_zone_115 : decode prog_1_method_3_code 115 = .ok (.aload_n 0, 1) := by decide +kernel
theorem dB_zone_116 : decode prog_1_method_3_code 116 = .ok (.getfield 35, 3) := by decide +kernel
theorem dB_zone_119 : decode prog_1_method_3_code 119 = .ok (.if_icmp .ge 23, 3) := by decide +kernel
theorem dB_zone_122 : decode prog_1_method_3_code 122 = .ok (.aload_n 0, 1) := by decide +kernel
theorem dB_zone_123 : decode prog_1_method_3_code 123 = .ok (.getfield 30, 3) := by decide +kernel
theorem dB_zone_126 : decode prog_1_method_3_code 126 = .ok (.iload 7, 2) := by decide +kernel
theorem dB_zone_128 : decode prog_1_method_3_code 128 = .ok (.aaload, 1) := by decide +kernel
theorem dB_zone_129 : decode prog_1_method_3_code 129 = .ok (.aload_n 0, 1) := by decide +kernel
theorem dB_zone_130 : decode prog_1_method_3_code 130 = .ok (.getfield 20, 3) := by decide +kernel
theorem dB_zone_133 : decode prog_1_method_3_code 133 = .ok (.invokevirtual 67, 3) := by decide +kernel
theorem dB_zone_136 : decode prog_1_method_3_code 136 = .ok (.iinc 7 1, 3) := by decide +kernel
theorem dB_zone_139 : decode prog_1_method_3_code 139 = .ok (.goto (-26), 3) := by decide +kernel
theorem dB_zone_142 : decode prog_1_method_3_code 142 = .ok (.return_, 1) := by decide +kernel
theorem dR_init_0 : decode prog_5_method_1_code 0 = .ok (.aload_n 0, 1) := by decide +kernel
theorem dR_init_1 : decode prog_5_method_1_code 1 = .ok (.invokespecial 3, 3) := by decide +kernel
theorem dR_init_4 : decode prog_5_method_1_code 4 = .ok (.aload_n 0, 1) := by decide +kernel
theorem dR_init_5 : decode prog_5_method_1_code 5 = .ok (.aconst_null, 1) := by decide +kernel
theorem dR_init_6 : decode prog_5_method_1_code 6 = .ok (.putfield 9, 3) := by decide +kernel
theorem dR_init_9 : decode prog_5_method_1_code 9 = .ok (.aload_n 0, 1) := by decide +kernel
theorem dR_init_10 : decode prog_5_method_1_code 10 = .ok (.ldc 15, 2) := by decide +kernel
theorem dR_init_12 : decode prog_5_method_1_code 12 = .ok (.putfield 16, 3) := by decide +kernel
theorem dR_init_15 : decode prog_5_method_1_code 15 = .ok (.return_, 1) := by decide +kernel
theorem dQ_init_0 : decode prog_6_method_1_code 0 = .ok (.aload_n 0, 1) := by decide +kernel
theorem dQ_init_1 : decode prog_6_method_1_code 1 = .ok (.invokespecial 3, 3) := by decide +kernel
theorem dQ_init_4 : decode prog_6_method_1_code 4 = .ok (.aload_n 0, 1) := by decide +kernel
theorem dQ_init_5 : decode prog_6_method_1_code 5 = .ok (.aload_n 1, 1) := by decide +kernel
theorem dQ_init_6 : decode prog_6_method_1_code 6 = .ok (.putfield 9, 3) := by decide +kernel
theorem dQ_init_9 : decode prog_6_method_1_code 9 = .ok (.aload_n 0, 1) := by decide +kernel
theorem dQ_init_10 : decode prog_6_method_1_code 10 = .ok (.iload_n 2, 1) := by decide +kernel
theorem dQ_init_11 : decode prog_6_method_1_code 11 = .ok (.putfield 15, 3) := by decide +kernel
theorem dQ_init_14 : decode prog_6_method_1_code 14 = .ok (.aload_n 0, 1) := by decide +kernel
theorem dQ_init_15 : decode prog_6_method_1_code 15 = .ok (.iconst 0, 1) := by decide +kernel
theorem dQ_init_16 : decode prog_6_method_1_code 16 = .ok (.putfield 19, 3) := by decide +kernel
theorem dQ_init_19 : decode prog_6_method_1_code 19 = .ok (.aload_n 0, 1) := by decide +kernel
theorem dQ_init_20 : decode prog_6_method_1_code 20 = .ok (.new 22, 3) := by decide +kernel
theorem dQ_init_23 : decode prog_6_method_1_code 23 = .ok (.dup, 1) := by decide +kernel
theorem dQ_init_24 : decode prog_6_method_1_code 24 = .ok (.invokespecial 24, 3) := by decide +kernel
theorem dQ_init_27 : decode prog_6_method_1_code 27 = .ok (.putfield 25, 3) := by decide +kernel
theorem dQ_init_30 : decode prog_6_method_1_code 30 = .ok (.return_, 1) := by decide +kernel
theorem dB_isDay_0 : decode prog_1_method_20_code 0 = .ok (.iload_n 0, 1) := by decide +kernel
theorem dB_isDay_1 : decode prog_1_method_20_code 1 = .ok (.ifCond .lt 13, 3) := by decide +kernel
theorem dB_isDay_4 : decode prog_1_method_20_code 4 = .ok (.iload_n 0, 1) := by decide +kernel
theorem dB_isDay_5 : decode prog_1_method_20_code 5 = .ok (.ldc 187, 2) := by decide +kernel
theorem dB_isDay_7 : decode prog_1_method_20_code 7 = .ok (.if_icmp .gt 7, 3) := by decide +kernel
theorem dB_isDay_10 : decode prog_1_method_20_code 10 = .ok (.iconst 1, 1) := by decide +kernel
theorem dB_isDay_11 : decode prog_1_method_20_code 11 = .ok (.goto 4, 3) := by decide +kernel
theorem dB_isDay_14 : decode prog_1_method_20_code 14 = .ok (.iconst 0, 1) := by decide +kernel
theorem dB_isDay_15 : decode prog_1_method_20_code 15 = .ok (.ireturn, 1) := by decide +kernel
theorem dK_coder_0 : decode prog_18_method_152_code 0 = .ok (.getstatic 38, 3) := by decide +kernel
theorem dK_coder_3 : decode prog_18_method_152_code 3 = .ok (.ifCond .eq 10, 3) := by decide +kernel
theorem dK_coder_6 : decode prog_18_method_152_code 6 = .ok (.aload_n 0, 1) := by decide +kernel
theorem dK_coder_7 : decode prog_18_method_152_code 7 = .ok (.getfield 15, 3) := by decide +kernel
theorem dK_coder_10 : decode prog_18_method_152_code 10 = .ok (.goto 4, 3) := by decide +kernel
theorem dK_coder_13 : decode prog_18_method_152_code 13 = .ok (.iconst 1, 1) := by decide +kernel
theorem dK_coder_14 : decode prog_18_method_152_code 14 = .ok (.ireturn, 1) := by decide +kernel
theorem dK_length_0 : decode prog_18_method_54_code 0 = .ok (.aload_n 0, 1) := by decide +kernel
theorem dK_length_1 : decode prog_18_method_54_code 1 = .ok (.getfield 9, 3) := by decide +kernel
theorem dK_length_4 : decode prog_18_method_54_code 4 = .ok (.arraylength, 1) := by decide +kernel
theorem dK_length_5 : decode prog_18_method_54_code 5 = .ok (.aload_n 0, 1) := by decide +kernel
theorem dK_length_6 : decode prog_18_method_54_code 6 = .ok (.invokevirtual 335, 3) := by decide +kernel
theorem dK_length_9 : decode prog_18_method_54_code 9 = .ok (.ishr, 1) := by decide +kernel
theorem dK_length_10 : decode prog_18_method_54_code 10 = .ok (.ireturn, 1) := by decide +kernel
theorem dK_isLatin1_0 : decode prog_18_method_154_code 0 = .ok (.getstatic 38, 3) := by decide +kernel
theorem dK_isLatin1_3 : decode prog_18_method_154_code 3 = .ok (.ifCond .eq 14, 3) := by decide +kernel
theorem dK_isLatin1_6 : decode prog_18_method_154_code 6 = .ok (.aload_n 0, 1) := by decide +kernel
theorem dK_isLatin1_7 : decode prog_18_method_154_code 7 = .ok (.getfield 15, 3) := by decide +kernel
theorem dK_isLatin1_10 : decode prog_18_method_154_code 10 = .ok (.ifCond .ne 7, 3) := by decide +kernel
theorem dK_isLatin1_13 : decode prog_18_method_154_code 13 = .ok (.iconst 1, 1) := by decide +kernel
theorem dK_isLatin1_14 : decode prog_18_method_154_code 14 = .ok (.goto 4, 3) := by decide +kernel
theorem dK_isLatin1_17 : decode prog_18_method_154_code 17 = .ok (.iconst 0, 1) := by decide +kernel
theorem dK_isLatin1_18 : decode prog_18_method_154_code 18 = .ok (.ireturn, 1) := by decide +kernel
theorem dP_checkIndex_0 : decode prog_23_method_11_code 0 = .ok (.iload_n 0, 1) := by decide +kernel
theorem dP_checkIndex_1 : decode prog_23_method_11_code 1 = .ok (.ifCond .lt 8, 3) := by decide +kernel
theorem dP_checkIndex_4 : decode prog_23_method_11_code 4 = .ok (.iload_n 0, 1) := by decide +kernel
theorem dP_checkIndex_5 : decode prog_23_method_11_code 5 = .ok (.iload_n 1, 1) := by decide +kernel
theorem dP_checkIndex_6 : decode prog_23_method_11_code 6 = .ok (.if_icmp .lt 10, 3) := by decide +kernel
theorem dP_checkIndex_16 : decode prog_23_method_11_code 16 = .ok (.iload_n 0, 1) := by decide +kernel
theorem dP_checkIndex_17 : decode prog_23_method_11_code 17 = .ok (.ireturn, 1) := by decide +kernel
theorem dK_checkIndex_0 : decode prog_18_method_155_code 0 = .ok (.iload_n 0, 1) := by decide +kernel
theorem dK_checkIndex_1 : decode prog_18_method_155_code 1 = .ok (.iload_n 1, 1) := by decide +kernel
theorem dK_checkIndex_2 : decode prog_18_method_155_code 2 = .ok (.getstatic 1053, 3) := by decide +kernel
theorem dK_checkIndex_5 : decode prog_18_method_155_code 5 = .ok (.invokestatic 1059, 3) := by decide +kernel
theorem dK_checkIndex_8 : decode prog_18_method_155_code 8 = .ok (.pop, 1) := by decide +kernel
theorem dK_checkIndex_9 : decode prog_18_method_155_code 9 = .ok (.return_, 1) := by decide +kernel
theorem dT_charAt_0 : decode prog_19_method_2_code 0 = .ok (.iload_n 1, 1) := by decide +kernel
theorem dT_charAt_1 : decode prog_19_method_2_code 1 = .ok (.aload_n 0, 1) := by decide +kernel
theorem dT_charAt_2 : decode prog_19_method_2_code 2 = .ok (.arraylength, 1) := by decide +kernel
theorem dT_charAt_3 : decode prog_19_method_2_code 3 = .ok (.invokestatic 9, 3) := by decide +kernel
theorem dT_charAt_6 : decode prog_19_method_2_code 6 = .ok (.aload_n 0, 1) := by decide +kernel
theorem dT_charAt_7 : decode prog_19_method_2_code 7 = .ok (.iload_n 1, 1) := by decide +kernel
theorem dT_charAt_8 : decode prog_19_method_2_code 8 = .ok (.baload, 1) := by decide +kernel
theorem dT_charAt_9 : decode prog_19_method_2_code 9 = .ok (.sipush 255, 3) := by decide +kernel
theorem dT_charAt_12 : decode prog_19_method_2_code 12 = .ok (.iand, 1) := by decide +kernel
theorem dT_charAt_13 : decode prog_19_method_2_code 13 = .ok (.i2c, 1) := by decide +kernel
theorem dT_charAt_14 : decode prog_19_method_2_code 14 = .ok (.ireturn, 1) := by decide +kernel
theorem dK_charAt_0 : decode prog_18_method_56_code 0 = .ok (.aload_n 0, 1) := by decide +kernel
theorem dK_charAt_1 : decode prog_18_method_56_code 1 = .ok (.invokevirtual 492, 3) := by decide +kernel
theorem dK_charAt_4 : decode prog_18_method_56_code 4 = .ok (.ifCond .eq 12, 3) := by decide +kernel
theorem dK_charAt_7 : decode prog_18_method_56_code 7 = .ok (.aload_n 0, 1) := by decide +kernel
theorem dK_charAt_8 : decode prog_18_method_56_code 8 = .ok (.getfield 9, 3) := by decide +kernel
theorem dK_charAt_11 : decode prog_18_method_56_code 11 = .ok (.iload_n 1, 1) := by decide +kernel
theorem dK_charAt_12 : decode prog_18_method_56_code 12 = .ok (.invokestatic 495, 3) := by decide +kernel
theorem dK_charAt_15 : decode prog_18_method_56_code 15 = .ok (.ireturn, 1) := by decide +kernel
theorem dQ_takeWord_0 : decode prog_6_method_16_code 0 = .ok (.aload_n 1, 1) := by decide +kernel
theorem dQ_takeWord_1 : decode prog_6_method_16_code 1 = .ok (.invokevirtual 160, 3) := by decide +kernel
theorem dQ_takeWord_4 : decode prog_6_method_16_code 4 = .ok (.aload_n 0, 1) := by decide +kernel
theorem dQ_takeWord_5 : decode prog_6_method_16_code 5 = .ok (.getfield 15, 3) := by decide +kernel
theorem dQ_takeWord_8 : decode prog_6_method_16_code 8 = .ok (.aload_n 0, 1) := by decide +kernel
theorem dQ_takeWord_9 : decode prog_6_method_16_code 9 = .ok (.getfield 19, 3) := by decide +kernel
theorem dQ_takeWord_12 : decode prog_6_method_16_code 12 = .ok (.isub, 1) := by decide +kernel
theorem dQ_takeWord_13 : decode prog_6_method_16_code 13 = .ok (.if_icmp .le 5, 3) := by decide +kernel
theorem dQ_takeWord_16 : decode prog_6_method_16_code 16 = .ok (.iconst 0, 1) := by decide +kernel
theorem dQ_takeWord_17 : decode prog_6_method_16_code 17 = .ok (.ireturn, 1) := by decide +kernel
theorem dQ_takeWord_18 : decode prog_6_method_16_code 18 = .ok (.iconst 0, 1) := by decide +kernel
theorem dQ_takeWord_19 : decode prog_6_method_16_code 19 = .ok (.istore_n 2, 1) := by decide +kernel
theorem dQ_takeWord_20 : decode prog_6_method_16_code 20 = .ok (.iload_n 2, 1) := by decide +kernel
theorem dQ_takeWord_21 : decode prog_6_method_16_code 21 = .ok (.aload_n 1, 1) := by decide +kernel
theorem dQ_takeWord_22 : decode prog_6_method_16_code 22 = .ok (.invokevirtual 160, 3) := by decide +kernel
theorem dQ_takeWord_25 : decode prog_6_method_16_code 25 = .ok (.if_icmp .ge 30, 3) := by decide +kernel
theorem dQ_takeWord_28 : decode prog_6_method_16_code 28 = .ok (.aload_n 0, 1) := by decide +kernel
theorem dQ_takeWord_29 : decode prog_6_method_16_code 29 = .ok (.getfield 9, 3) := by decide +kernel
theorem dQ_takeWord_32 : decode prog_6_method_16_code 32 = .ok (.aload_n 0, 1) := by decide +kernel
theorem dQ_takeWord_33 : decode prog_6_method_16_code 33 = .ok (.getfield 19, 3) := by decide +kernel
theorem dQ_takeWord_36 : decode prog_6_method_16_code 36 = .ok (.iload_n 2, 1) := by decide +kernel
theorem dQ_takeWord_37 : decode prog_6_method_16_code 37 = .ok (.iadd, 1) := by decide +kernel
theorem dQ_takeWord_38 : decode prog_6_method_16_code 38 = .ok (.caload, 1) := by decide +kernel
theorem dQ_takeWord_39 : decode prog_6_method_16_code 39 = .ok (.aload_n 1, 1) := by decide +kernel
theorem dQ_takeWord_40 : decode prog_6_method_16_code 40 = .ok (.iload_n 2, 1) := by decide +kernel
theorem dQ_takeWord_41 : decode prog_6_method_16_code 41 = .ok (.invokevirtual 154, 3) := by decide +kernel
theorem dQ_takeWord_44 : decode prog_6_method_16_code 44 = .ok (.if_icmp .eq 5, 3) := by decide +kernel
theorem dQ_takeWord_47 : decode prog_6_method_16_code 47 = .ok (.iconst 0, 1) := by decide +kernel
theorem dQ_takeWord_48 : decode prog_6_method_16_code 48 = .ok (.ireturn, 1) := by decide +kernel
theorem dQ_takeWord_49 : decode prog_6_method_16_code 49 = .ok (.iinc 2 1, 3) := by decide +kernel
theorem dQ_takeWord_52 : decode prog_6_method_16_code 52 = .ok (.goto (-32), 3) := by decide +kernel
theorem dQ_takeWord_55 : decode prog_6_method_16_code 55 = .ok (.aload_n 0, 1) := by decide +kernel
theorem dQ_takeWord_56 : decode prog_6_method_16_code 56 = .ok (.dup, 1) := by decide +kernel
theorem dQ_takeWord_57 : decode prog_6_method_16_code 57 = .ok (.getfield 19, 3) := by decide +kernel
theorem dQ_takeWord_60 : decode prog_6_method_16_code 60 = .ok (.aload_n 1, 1) := by decide +kernel
theorem dQ_takeWord_61 : decode prog_6_method_16_code 61 = .ok (.invokevirtual 160, 3) := by decide +kernel
theorem dQ_takeWord_64 : decode prog_6_method_16_code 64 = .ok (.iadd, 1) := by decide +kernel
theorem dQ_takeWord_65 : decode prog_6_method_16_code 65 = .ok (.putfield 19, 3) := by decide +kernel
theorem dQ_takeWord_68 : decode prog_6_method_16_code 68 = .ok (.iconst 1, 1) := by decide +kernel
theorem dQ_takeWord_69 : decode prog_6_method_16_code 69 = .ok (.ireturn, 1) := by decide +kernel
theorem dQ_readFrequency_0 : decode prog_6_method_4_code 0 = .ok (.aload_n 0, 1) := by decide +kernel
theorem dQ_readFrequency_1 : decode prog_6_method_4_code 1 = .ok (.ldc 107, 2) := by decide +kernel
theorem dQ_readFrequency_3 : decode prog_6_method_4_code 3 = .ok (.invokevirtual 54, 3) := by decide +kernel
theorem dQ_readFrequency_6 : decode prog_6_method_4_code 6 = .ok (.ifCond .eq 16, 3) := by decide +kernel
theorem dQ_readFrequency_9 : decode prog_6_method_4_code 9 = .ok (.aload_n 0, 1) := by decide +kernel
theorem dQ_readFrequency_10 : decode prog_6_method_4_code 10 = .ok (.getfield 25, 3) := by decide +kernel
theorem dQ_readFrequency_13 : decode prog_6_method_4_code 13 = .ok (.getstatic 29, 3) := by decide +kernel
theorem dQ_readFrequency_16 : decode prog_6_method_4_code 16 = .ok (.putfield 35, 3) := by decide +kernel
theorem dQ_readFrequency_19 : decode prog_6_method_4_code 19 = .ok (.goto 66, 3) := by decide +kernel
theorem dQ_readFrequency_22 : decode prog_6_method_4_code 22 = .ok (.aload_n 0, 1) := by decide +kernel
theorem dQ_readFrequency_23 : decode prog_6_method_4_code 23 = .ok (.ldc 108, 2) := by decide +kernel
theorem dQ_readFrequency_25 : decode prog_6_method_4_code 25 = .ok (.invokevirtual 54, 3) := by decide +kernel
theorem dQ_readFrequency_28 : decode prog_6_method_4_code 28 = .ok (.ifCond .eq 16, 3) := by decide +kernel
theorem dQ_readFrequency_31 : decode prog_6_method_4_code 31 = .ok (.aload_n 0, 1) := by decide +kernel
theorem dQ_readFrequency_32 : decode prog_6_method_4_code 32 = .ok (.getfield 25, 3) := by decide +kernel
theorem dQ_readFrequency_35 : decode prog_6_method_4_code 35 = .ok (.getstatic 110, 3) := by decide +kernel
theorem dQ_readFrequency_38 : decode prog_6_method_4_code 38 = .ok (.putfield 35, 3) := by decide +kernel
theorem dQ_readFrequency_41 : decode prog_6_method_4_code 41 = .ok (.goto 44, 3) := by decide +kernel
theorem dQ_readFrequency_44 : decode prog_6_method_4_code 44 = .ok (.aload_n 0, 1) := by decide +kernel
theorem dQ_readFrequency_45 : decode prog_6_method_4_code 45 = .ok (.ldc 112, 2) := by decide +kernel
theorem dQ_readFrequency_47 : decode prog_6_method_4_code 47 = .ok (.invokevirtual 54, 3) := by decide +kernel
theorem dQ_readFrequency_50 : decode prog_6_method_4_code 50 = .ok (.ifCond .eq 16, 3) := by decide +kernel
theorem dQ_readFrequency_53 : decode prog_6_method_4_code 53 = .ok (.aload_n 0, 1) := by decide +kernel
theorem dQ_readFrequency_54 : decode prog_6_method_4_code 54 = .ok (.getfield 25, 3) := by decide +kernel
theorem dQ_readFrequency_57 : decode prog_6_method_4_code 57 = .ok (.getstatic 114, 3) := by decide +kernel
theorem dQ_readFrequency_60 : decode prog_6_method_4_code 60 = .ok (.putfield 35, 3) := by decide +kernel
theorem dQ_readFrequency_63 : decode prog_6_method_4_code 63 = .ok (.goto 22, 3) := by decide +kernel
theorem dQ_readFrequency_66 : decode prog_6_method_4_code 66 = .ok (.aload_n 0, 1) := by decide +kernel
theorem dQ_readFrequency_67 : decode prog_6_method_4_code 67 = .ok (.ldc 116, 2) := by decide +kernel
theorem dQ_readFrequency_69 : decode prog_6_method_4_code 69 = .ok (.invokevirtual 54, 3) := by decide +kernel
theorem dQ_readFrequency_72 : decode prog_6_method_4_code 72 = .ok (.ifCond .eq 13, 3) := by decide +kernel
theorem dQ_readFrequency_75 : decode prog_6_method_4_code 75 = .ok (.aload_n 0, 1) := by decide +kernel
theorem dQ_readFrequency_76 : decode prog_6_method_4_code 76 = .ok (.getfield 25, 3) := by decide +kernel
theorem dQ_readFrequency_79 : decode prog_6_method_4_code 79 = .ok (.getstatic 118, 3) := by decide +kernel
theorem dQ_readFrequency_82 : decode prog_6_method_4_code 82 = .ok (.putfield 35, 3) := by decide +kernel
theorem dQ_readFrequency_85 : decode prog_6_method_4_code 85 = .ok (.aload_n 0, 1) := by decide +kernel
theorem dQ_readFrequency_86 : decode prog_6_method_4_code 86 = .ok (.getfield 25, 3) := by decide +kernel
theorem dQ_readFrequency_89 : decode prog_6_method_4_code 89 = .ok (.getfield 35, 3) := by decide +kernel
theorem dQ_readFrequency_92 : decode prog_6_method_4_code 92 = .ok (.ifnull 7, 3) := by decide +kernel
theorem dQ_readFrequency_95 : decode prog_6_method_4_code 95 = .ok (.iconst 1, 1) := by decide +kernel
theorem dQ_readFrequency_96 : decode prog_6_method_4_code 96 = .ok (.goto 4, 3) := by decide +kernel
theorem dQ_readFrequency_99 : decode prog_6_method_4_code 99 = .ok (.iconst 0, 1) := by decide +kernel
theorem dQ_readFrequency_100 : decode prog_6_method_4_code 100 = .ok (.ireturn, 1) := by decide +kernel
theorem dQ_isDigitNext_0 : decode prog_6_method_14_code 0 = .ok (.aload_n 0, 1) := by decide +kernel
theorem dQ_isDigitNext_1 : decode prog_6_method_14_code 1 = .ok (.getfield 19, 3) := by decide +kernel
theorem dQ_isDigitNext_4 : decode prog_6_method_14_code 4 = .ok (.aload_n 0, 1) := by decide +kernel
theorem dQ_isDigitNext_5 : decode prog_6_method_14_code 5 = .ok (.getfield 15, 3) := by decide +kernel
theorem dQ_isDigitNext_8 : decode prog_6_method_14_code 8 = .ok (.if_icmp .ge 35, 3) := by decide +kernel
theorem dQ_isDigitNext_11 : decode prog_6_method_14_code 11 = .ok (.aload_n 0, 1) := by decide +kernel
theorem dQ_isDigitNext_12 : decode prog_6_method_14_code 12 = .ok (.getfield 9, 3) := by decide +kernel
theorem dQ_isDigitNext_15 : decode prog_6_method_14_code 15 = .ok (.aload_n 0, 1) := by decide +kernel
theorem dQ_isDigitNext_16 : decode prog_6_method_14_code 16 = .ok (.getfield 19, 3) := by decide +kernel
theorem dQ_isDigitNext_19 : decode prog_6_method_14_code 19 = .ok (.caload, 1) := by decide +kernel
theorem dQ_isDigitNext_20 : decode prog_6_method_14_code 20 = .ok (.bipush 48, 2) := by decide +kernel
theorem dQ_isDigitNext_22 : decode prog_6_method_14_code 22 = .ok (.if_icmp .lt 21, 3) := by decide +kernel
theorem dQ_isDigitNext_25 : decode prog_6_method_14_code 25 = .ok (.aload_n 0, 1) := by decide +kernel
theorem dQ_isDigitNext_26 : decode prog_6_method_14_code 26 = .ok (.getfield 9, 3) := by decide +kernel
theorem dQ_isDigitNext_29 : decode prog_6_method_14_code 29 = .ok (.aload_n 0, 1) := by decide +kernel
theorem dQ_isDigitNext_30 : decode prog_6_method_14_code 30 = .ok (.getfield 19, 3) := by decide +kernel
theorem dQ_isDigitNext_33 : decode prog_6_method_14_code 33 = .ok (.caload, 1) := by decide +kernel
theorem dQ_isDigitNext_34 : decode prog_6_method_14_code 34 = .ok (.bipush 57, 2) := by decide +kernel
theorem dQ_isDigitNext_36 : decode prog_6_method_14_code 36 = .ok (.if_icmp .gt 7, 3) := by decide +kernel
theorem dQ_isDigitNext_39 : decode prog_6_method_14_code 39 = .ok (.iconst 1, 1) := by decide +kernel
theorem dQ_isDigitNext_40 : decode prog_6_method_14_code 40 = .ok (.goto 4, 3) := by decide +kernel
theorem dQ_isDigitNext_43 : decode prog_6_method_14_code 43 = .ok (.iconst 0, 1) := by decide +kernel
theorem dQ_isDigitNext_44 : decode prog_6_method_14_code 44 = .ok (.ireturn, 1) := by decide +kernel
theorem dQ_takeNumber_0 : decode prog_6_method_13_code 0 = .ok (.iconst 0, 1) := by decide +kernel
theorem dQ_takeNumber_1 : decode prog_6_method_13_code 1 = .ok (.istore_n 3, 1) := by decide +kernel
theorem dQ_takeNumber_2 : decode prog_6_method_13_code 2 = .ok (.iconst 0, 1) := by decide +kernel
theorem dQ_takeNumber_3 : decode prog_6_method_13_code 3 = .ok (.istore 4, 2) := by decide +kernel
theorem dQ_takeNumber_5 : decode prog_6_method_13_code 5 = .ok (.iload 4, 2) := by decide +kernel
theorem dQ_takeNumber_7 : decode prog_6_method_13_code 7 = .ok (.iload_n 1, 1) := by decide +kernel
theorem dQ_takeNumber_8 : decode prog_6_method_13_code 8 = .ok (.if_icmp .ge 44, 3) := by decide +kernel
theorem dQ_takeNumber_11 : decode prog_6_method_13_code 11 = .ok (.aload_n 0, 1) := by decide +kernel
theorem dQ_takeNumber_12 : decode prog_6_method_13_code 12 = .ok (.invokevirtual 137, 3) := by decide +kernel
theorem dQ_takeNumber_15 : decode prog_6_method_13_code 15 = .ok (.ifCond .eq 37, 3) := by decide +kernel
theorem dQ_takeNumber_18 : decode prog_6_method_13_code 18 = .ok (.bipush 10, 2) := by decide +kernel
theorem dQ_takeNumber_20 : decode prog_6_method_13_code 20 = .ok (.iload_n 3, 1) := by decide +kernel
theorem dQ_takeNumber_21 : decode prog_6_method_13_code 21 = .ok (.imul, 1) := by decide +kernel
theorem dQ_takeNumber_22 : decode prog_6_method_13_code 22 = .ok (.aload_n 0, 1) := by decide +kernel
theorem dQ_takeNumber_23 : decode prog_6_method_13_code 23 = .ok (.getfield 9, 3) := by decide +kernel
theorem dQ_takeNumber_26 : decode prog_6_method_13_code 26 = .ok (.aload_n 0, 1) := by decide +kernel
theorem dQ_takeNumber_27 : decode prog_6_method_13_code 27 = .ok (.getfield 19, 3) := by decide +kernel
theorem dQ_takeNumber_30 : decode prog_6_method_13_code 30 = .ok (.caload, 1) := by decide +kernel
theorem dQ_takeNumber_31 : decode prog_6_method_13_code 31 = .ok (.iadd, 1) := by decide +kernel
theorem dQ_takeNumber_32 : decode prog_6_method_13_code 32 = .ok (.bipush 48, 2) := by decide +kernel
theorem dQ_takeNumber_34 : decode prog_6_method_13_code 34 = .ok (.isub, 1) := by decide +kernel
theorem dQ_takeNumber_35 : decode prog_6_method_13_code 35 = .ok (.istore_n 3, 1) := by decide +kernel
theorem dQ_takeNumber_36 : decode prog_6_method_13_code 36 = .ok (.aload_n 0, 1) := by decide +kernel
theorem dQ_takeNumber_37 : decode prog_6_method_13_code 37 = .ok (.dup, 1) := by decide +kernel
theorem dQ_takeNumber_38 : decode prog_6_method_13_code 38 = .ok (.getfield 19, 3) := by decide +kernel
theorem dQ_takeNumber_41 : decode prog_6_method_13_code 41 = .ok (.iconst 1, 1) := by decide +kernel
theorem dQ_takeNumber_42 : decode prog_6_method_13_code 42 = .ok (.iadd, 1) := by decide +kernel
theorem dQ_takeNumber_43 : decode prog_6_method_13_code 43 = .ok (.putfield 19, 3) := by decide +kernel
theorem dQ_takeNumber_46 : decode prog_6_method_13_code 46 = .ok (.iinc 4 1, 3) := by decide +kernel
theorem dQ_takeNumber_49 : decode prog_6_method_13_code 49 = .ok (.goto (-44), 3) := by decide +kernel
theorem dQ_takeNumber_52 : decode prog_6_method_13_code 52 = .ok (.iload_n 3, 1) := by decide +kernel
theorem dQ_takeNumber_53 : decode prog_6_method_13_code 53 = .ok (.iload_n 2, 1) := by decide +kernel
theorem dQ_takeNumber_54 : decode prog_6_method_13_code 54 = .ok (.if_icmp .gt 7, 3) := by decide +kernel
theorem dQ_takeNumber_57 : decode prog_6_method_13_code 57 = .ok (.iload_n 3, 1) := by decide +kernel
theorem dQ_takeNumber_58 : decode prog_6_method_13_code 58 = .ok (.goto 4, 3) := by decide +kernel
theorem dQ_takeNumber_61 : decode prog_6_method_13_code 61 = .ok (.iconst 0, 1) := by decide +kernel
theorem dQ_takeNumber_62 : decode prog_6_method_13_code 62 = .ok (.ireturn, 1) := by decide +kernel
theorem dQ_readInterval_0 : decode prog_6_method_5_code 0 = .ok (.aload_n 0, 1) := by decide +kernel
theorem dQ_readInterval_1 : decode prog_6_method_5_code 1 = .ok (.getfield 25, 3) := by decide +kernel
theorem dQ_readInterval_4 : decode prog_6_method_5_code 4 = .ok (.aload_n 0, 1) := by decide +kernel
theorem dQ_readInterval_5 : decode prog_6_method_5_code 5 = .ok (.iconst 2, 1) := by decide +kernel
theorem dQ_readInterval_6 : decode prog_6_method_5_code 6 = .ok (.bipush 99, 2) := by decide +kernel
theorem dQ_readInterval_8 : decode prog_6_method_5_code 8 = .ok (.invokevirtual 120, 3) := by decide +kernel
theorem dQ_readInterval_11 : decode prog_6_method_5_code 11 = .ok (.putfield 63, 3) := by decide +kernel
theorem dQ_readInterval_14 : decode prog_6_method_5_code 14 = .ok (.aload_n 0, 1) := by decide +kernel
theorem dQ_readInterval_15 : decode prog_6_method_5_code 15 = .ok (.getfield 25, 3) := by decide +kernel
theorem dQ_readInterval_18 : decode prog_6_method_5_code 18 = .ok (.getfield 63, 3) := by decide +kernel
theorem dQ_readInterval_21 : decode prog_6_method_5_code 21 = .ok (.ifCond .eq 7, 3) := by decide +kernel
theorem dQ_readInterval_24 : decode prog_6_method_5_code 24 = .ok (.iconst 1, 1) := by decide +kernel
theorem dQ_readInterval_25 : decode prog_6_method_5_code 25 = .ok (.goto 4, 3) := by decide +kernel
theorem dQ_readInterval_28 : decode prog_6_method_5_code 28 = .ok (.iconst 0, 1) := by decide +kernel
theorem dQ_readInterval_29 : decode prog_6_method_5_code 29 = .ok (.ireturn, 1) := by decide +kernel
theorem dQ_readCount_0 : decode prog_6_method_6_code 0 = .ok (.aload_n 0, 1) := by decide +kernel
theorem dQ_readCount_1 : decode prog_6_method_6_code 1 = .ok (.getfield 25, 3) := by decide +kernel
theorem dQ_readCount_4 : decode prog_6_method_6_code 4 = .ok (.aload_n 0, 1) := by decide +kernel
theorem dQ_readCount_5 : decode prog_6_method_6_code 5 = .ok (.iconst 3, 1) := by decide +kernel
theorem dQ_readCount_6 : decode prog_6_method_6_code 6 = .ok (.sipush 200, 3) := by decide +kernel
theorem dQ_readCount_9 : decode prog_6_method_6_code 9 = .ok (.invokevirtual 120, 3) := by decide +kernel
theorem dQ_readCount_12 : decode prog_6_method_6_code 12 = .ok (.putfield 38, 3) := by decide +kernel
theorem dQ_readCount_15 : decode prog_6_method_6_code 15 = .ok (.aload_n 0, 1) := by decide +kernel
theorem dQ_readCount_16 : decode prog_6_method_6_code 16 = .ok (.getfield 25, 3) := by decide +kernel
theorem dQ_readCount_19 : decode prog_6_method_6_code 19 = .ok (.getfield 38, 3) := by decide +kernel
theorem dQ_readCount_22 : decode prog_6_method_6_code 22 = .ok (.ifCond .eq 7, 3) := by decide +kernel
theorem dQ_readCount_25 : decode prog_6_method_6_code 25 = .ok (.iconst 1, 1) := by decide +kernel
theorem dQ_readCount_26 : decode prog_6_method_6_code 26 = .ok (.goto 4, 3) := by decide +kernel
theorem dQ_readCount_29 : decode prog_6_method_6_code 29 = .ok (.iconst 0, 1) := by decide +kernel
theorem dQ_readCount_30 : decode prog_6_method_6_code 30 = .ok (.ireturn, 1) := by decide +kernel
theorem dD_dayOf_0 : decode prog_2_method_6_code 0 = .ok (.iload_n 0, 1) := by decide +kernel
theorem dD_dayOf_1 : decode prog_2_method_6_code 1 = .ok (.sipush 2000, 3) := by decide +kernel
theorem dD_dayOf_4 : decode prog_2_method_6_code 4 = .ok (.if_icmp .lt 17, 3) := by decide +kernel
theorem dD_dayOf_7 : decode prog_2_method_6_code 7 = .ok (.iload_n 0, 1) := by decide +kernel
theorem dD_dayOf_8 : decode prog_2_method_6_code 8 = .ok (.sipush 2100, 3) := by decide +kernel
theorem dD_dayOf_11 : decode prog_2_method_6_code 11 = .ok (.if_icmp .ge 10, 3) := by decide +kernel
theorem dD_dayOf_14 : decode prog_2_method_6_code 14 = .ok (.iload_n 1, 1) := by decide +kernel
theorem dD_dayOf_15 : decode prog_2_method_6_code 15 = .ok (.invokestatic 28, 3) := by decide +kernel
theorem dD_dayOf_18 : decode prog_2_method_6_code 18 = .ok (.ifCond .ne 5, 3) := by decide +kernel
theorem dD_dayOf_21 : decode prog_2_method_6_code 21 = .ok (.iconst (-1), 1) := by decide +kernel
theorem dD_dayOf_22 : decode prog_2_method_6_code 22 = .ok (.ireturn, 1) := by decide +kernel
theorem dD_dayOf_23 : decode prog_2_method_6_code 23 = .ok (.bipush 12, 2) := by decide +kernel
theorem dD_dayOf_25 : decode prog_2_method_6_code 25 = .ok (.iload_n 0, 1) := by decide +kernel
theorem dD_dayOf_26 : decode prog_2_method_6_code 26 = .ok (.sipush 2000, 3) := by decide +kernel
theorem dD_dayOf_29 : decode prog_2_method_6_code 29 = .ok (.isub, 1) := by decide +kernel
theorem dD_dayOf_30 : decode prog_2_method_6_code 30 = .ok (.imul, 1) := by decide +kernel
theorem dD_dayOf_31 : decode prog_2_method_6_code 31 = .ok (.iload_n 1, 1) := by decide +kernel
theorem dD_dayOf_32 : decode prog_2_method_6_code 32 = .ok (.iadd, 1) := by decide +kernel
theorem dD_dayOf_33 : decode prog_2_method_6_code 33 = .ok (.iconst 1, 1) := by decide +kernel
theorem dD_dayOf_34 : decode prog_2_method_6_code 34 = .ok (.isub, 1) := by decide +kernel
theorem dD_dayOf_35 : decode prog_2_method_6_code 35 = .ok (.istore_n 3, 1) := by decide +kernel
theorem dD_dayOf_36 : decode prog_2_method_6_code 36 = .ok (.iload_n 3, 1) := by decide +kernel
theorem dD_dayOf_37 : decode prog_2_method_6_code 37 = .ok (.invokestatic 25, 3) := by decide +kernel
theorem dD_dayOf_40 : decode prog_2_method_6_code 40 = .ok (.istore 4, 2) := by decide +kernel
theorem dD_dayOf_42 : decode prog_2_method_6_code 42 = .ok (.iload_n 2, 1) := by decide +kernel
theorem dD_dayOf_43 : decode prog_2_method_6_code 43 = .ok (.iconst 1, 1) := by decide +kernel
theorem dD_dayOf_44 : decode prog_2_method_6_code 44 = .ok (.if_icmp .lt 16, 3) := by decide +kernel
theorem dD_dayOf_47 : decode prog_2_method_6_code 47 = .ok (.iload_n 2, 1) := by decide +kernel
theorem dD_dayOf_48 : decode prog_2_method_6_code 48 = .ok (.iload_n 3, 1) := by decide +kernel
theorem dD_dayOf_49 : decode prog_2_method_6_code 49 = .ok (.iconst 1, 1) := by decide +kernel
theorem dD_dayOf_50 : decode prog_2_method_6_code 50 = .ok (.iadd, 1) := by decide +kernel
theorem dD_dayOf_51 : decode prog_2_method_6_code 51 = .ok (.invokestatic 25, 3) := by decide +kernel
theorem dD_dayOf_54 : decode prog_2_method_6_code 54 = .ok (.iload 4, 2) := by decide +kernel
theorem dD_dayOf_56 : decode prog_2_method_6_code 56 = .ok (.isub, 1) := by decide +kernel
theorem dD_dayOf_57 : decode prog_2_method_6_code 57 = .ok (.if_icmp .le 5, 3) := by decide +kernel
theorem dD_dayOf_60 : decode prog_2_method_6_code 60 = .ok (.iconst (-1), 1) := by decide +kernel
theorem dD_dayOf_61 : decode prog_2_method_6_code 61 = .ok (.ireturn, 1) := by decide +kernel
theorem dD_dayOf_62 : decode prog_2_method_6_code 62 = .ok (.iload 4, 2) := by decide +kernel
theorem dD_dayOf_64 : decode prog_2_method_6_code 64 = .ok (.iload_n 2, 1) := by decide +kernel
theorem dD_dayOf_65 : decode prog_2_method_6_code 65 = .ok (.iadd, 1) := by decide +kernel
theorem dD_dayOf_66 : decode prog_2_method_6_code 66 = .ok (.iconst 1, 1) := by decide +kernel
theorem dD_dayOf_67 : decode prog_2_method_6_code 67 = .ok (.isub, 1) := by decide +kernel
theorem dD_dayOf_68 : decode prog_2_method_6_code 68 = .ok (.ireturn, 1) := by decide +kernel
theorem dQ_readUntil_0 : decode prog_6_method_7_code 0 = .ok (.aload_n 0, 1) := by decide +kernel
theorem dQ_readUntil_1 : decode prog_6_method_7_code 1 = .ok (.getfield 19, 3) := by decide +kernel
theorem dQ_readUntil_4 : decode prog_6_method_7_code 4 = .ok (.istore_n 1, 1) := by decide +kernel
theorem dQ_readUntil_5 : decode prog_6_method_7_code 5 = .ok (.aload_n 0, 1) := by decide +kernel
theorem dQ_readUntil_6 : decode prog_6_method_7_code 6 = .ok (.bipush 8, 2) := by decide +kernel
theorem dQ_readUntil_8 : decode prog_6_method_7_code 8 = .ok (.ldc 124, 2) := by decide +kernel
theorem dQ_readUntil_10 : decode prog_6_method_7_code 10 = .ok (.invokevirtual 120, 3) := by decide +kernel
theorem dQ_readUntil_13 : decode prog_6_method_7_code 13 = .ok (.istore_n 2, 1) := by decide +kernel
theorem dQ_readUntil_14 : decode prog_6_method_7_code 14 = .ok (.aload_n 0, 1) := by decide +kernel
theorem dQ_readUntil_15 : decode prog_6_method_7_code 15 = .ok (.getfield 19, 3) := by decide +kernel
theorem dQ_readUntil_18 : decode prog_6_method_7_code 18 = .ok (.iload_n 1, 1) := by decide +kernel
theorem dQ_readUntil_19 : decode prog_6_method_7_code 19 = .ok (.isub, 1) := by decide +kernel
theorem dQ_readUntil_20 : decode prog_6_method_7_code 20 = .ok (.bipush 8, 2) := by decide +kernel
theorem dQ_readUntil_22 : decode prog_6_method_7_code 22 = .ok (.if_icmp .eq 5, 3) := by decide +kernel
theorem dQ_readUntil_25 : decode prog_6_method_7_code 25 = .ok (.iconst 0, 1) := by decide +kernel
theorem dQ_readUntil_26 : decode prog_6_method_7_code 26 = .ok (.ireturn, 1) := by decide +kernel
theorem dQ_readUntil_27 : decode prog_6_method_7_code 27 = .ok (.iload_n 2, 1) := by decide +kernel
theorem dQ_readUntil_28 : decode prog_6_method_7_code 28 = .ok (.sipush 10000, 3) := by decide +kernel
theorem dQ_readUntil_31 : decode prog_6_method_7_code 31 = .ok (.idiv, 1) := by decide +kernel
theorem dQ_readUntil_32 : decode prog_6_method_7_code 32 = .ok (.iload_n 2, 1) := by decide +kernel
theorem dQ_readUntil_33 : decode prog_6_method_7_code 33 = .ok (.bipush 100, 2) := by decide +kernel
theorem dQ_readUntil_35 : decode prog_6_method_7_code 35 = .ok (.idiv, 1) := by decide +kernel
theorem dQ_readUntil_36 : decode prog_6_method_7_code 36 = .ok (.bipush 100, 2) := by decide +kernel
theorem dQ_readUntil_38 : decode prog_6_method_7_code 38 = .ok (.irem, 1) := by decide +kernel
theorem dQ_readUntil_39 : decode prog_6_method_7_code 39 = .ok (.iload_n 2, 1) := by decide +kernel
theorem dQ_readUntil_40 : decode prog_6_method_7_code 40 = .ok (.bipush 100, 2) := by decide +kernel
theorem dQ_readUntil_42 : decode prog_6_method_7_code 42 = .ok (.irem, 1) := by decide +kernel
theorem dQ_readUntil_43 : decode prog_6_method_7_code 43 = .ok (.invokestatic 125, 3) := by decide +kernel
theorem dQ_readUntil_46 : decode prog_6_method_7_code 46 = .ok (.istore_n 3, 1) := by decide +kernel
theorem dQ_readUntil_47 : decode prog_6_method_7_code 47 = .ok (.aload_n 0, 1) := by decide +kernel
theorem dQ_readUntil_48 : decode prog_6_method_7_code 48 = .ok (.getfield 25, 3) := by decide +kernel
theorem dQ_readUntil_51 : decode prog_6_method_7_code 51 = .ok (.iconst 1, 1) := by decide +kernel
theorem dQ_readUntil_52 : decode prog_6_method_7_code 52 = .ok (.putfield 76, 3) := by decide +kernel
theorem dQ_readUntil_55 : decode prog_6_method_7_code 55 = .ok (.aload_n 0, 1) := by decide +kernel
theorem dQ_readUntil_56 : decode prog_6_method_7_code 56 = .ok (.getfield 25, 3) := by decide +kernel
theorem dQ_readUntil_59 : decode prog_6_method_7_code 59 = .ok (.iload_n 3, 1) := by decide +kernel
theorem dQ_readUntil_60 : decode prog_6_method_7_code 60 = .ok (.putfield 131, 3) := by decide +kernel
theorem dQ_readUntil_63 : decode prog_6_method_7_code 63 = .ok (.iload_n 3, 1) := by decide +kernel
theorem dQ_readUntil_64 : decode prog_6_method_7_code 64 = .ok (.ifCond .lt 7, 3) := by decide +kernel
theorem dQ_readUntil_67 : decode prog_6_method_7_code 67 = .ok (.iconst 1, 1) := by decide +kernel
theorem dQ_readUntil_68 : decode prog_6_method_7_code 68 = .ok (.goto 4, 3) := by decide +kernel
theorem dQ_readUntil_71 : decode prog_6_method_7_code 71 = .ok (.iconst 0, 1) := by decide +kernel
theorem dQ_readUntil_72 : decode prog_6_method_7_code 72 = .ok (.ireturn, 1) := by decide +kernel
theorem dR_hasWeekdays_0 : decode prog_5_method_6_code 0 = .ok (.aload_n 0, 1) := by decide +kernel
theorem dR_hasWeekdays_1 : decode prog_5_method_6_code 1 = .ok (.getfield 26, 3) := by decide +kernel
theorem dR_hasWeekdays_4 : decode prog_5_method_6_code 4 = .ok (.i2l, 1) := by decide +kernel
theorem dR_hasWeekdays_5 : decode prog_5_method_6_code 5 = .ok (.aload_n 0, 1) := by decide +kernel
theorem dR_hasWeekdays_6 : decode prog_5_method_6_code 6 = .ok (.getfield 37, 3) := by decide +kernel
theorem dR_hasWeekdays_9 : decode prog_5_method_6_code 9 = .ok (.lor, 1) := by decide +kernel
theorem dR_hasWeekdays_10 : decode prog_5_method_6_code 10 = .ok (.aload_n 0, 1) := by decide +kernel
theorem dR_hasWeekdays_11 : decode prog_5_method_6_code 11 = .ok (.getfield 29, 3) := by decide +kernel
theorem dR_hasWeekdays_14 : decode prog_5_method_6_code 14 = .ok (.lor, 1) := by decide +kernel
theorem dR_hasWeekdays_15 : decode prog_5_method_6_code 15 = .ok (.lconst 0, 1) := by decide +kernel
theorem dR_hasWeekdays_16 : decode prog_5_method_6_code 16 = .ok (.lcmp, 1) := by decide +kernel
theorem dR_hasWeekdays_17 : decode prog_5_method_6_code 17 = .ok (.ifCond .eq 7, 3) := by decide +kernel
theorem dR_hasWeekdays_20 : decode prog_5_method_6_code 20 = .ok (.iconst 1, 1) := by decide +kernel
theorem dR_hasWeekdays_21 : decode prog_5_method_6_code 21 = .ok (.goto 4, 3) := by decide +kernel
theorem dR_hasWeekdays_24 : decode prog_5_method_6_code 24 = .ok (.iconst 0, 1) := by decide +kernel
theorem dR_hasWeekdays_25 : decode prog_5_method_6_code 25 = .ok (.ireturn, 1) := by decide +kernel
end
section
/-! The words of the three exceptions. -/
theorem xoB_57 : ∀ w ∈ xh_at "RecurrenceBook" 57 "java/lang/IllegalArgumentException" "java/lang/RuntimeException" 7 prog_14_method_2_code ["java/lang/Exception"], w ∈ xj_ws ∨ w = .isRef (.static Bundle.tN "UNASSIGNED_STACK" Bundle.steD) ∨ w = .isRef (.static Bundle.tN "SUPPRESSED_SENTINEL" Bundle.listD) ∨ w = .laysStatic Bundle.tN "UNASSIGNED_STACK" Bundle.steD ∨ w = .laysStatic Bundle.tN "SUPPRESSED_SENTINEL" Bundle.listD := by
  have h : (xh_at "RecurrenceBook" 57 "java/lang/IllegalArgumentException" "java/lang/RuntimeException" 7 prog_14_method_2_code ["java/lang/Exception"]).all (fun w => decide (w ∈ xj_ws) || (decide (w = .isRef (.static Bundle.tN "UNASSIGNED_STACK" Bundle.steD)) || (decide (w = .isRef (.static Bundle.tN "SUPPRESSED_SENTINEL" Bundle.listD)) || (decide (w = .laysStatic Bundle.tN "UNASSIGNED_STACK" Bundle.steD) || decide (w = .laysStatic Bundle.tN "SUPPRESSED_SENTINEL" Bundle.listD))))) = true := by decide +kernel
  intro w hw
  have h1 := List.all_eq_true.mp h w hw
  simpa only [Bool.or_eq_true, decide_eq_true_eq] using h1
theorem xoB_75 : ∀ w ∈ xh_at "RecurrenceBook" 75 "java/lang/IllegalStateException" "java/lang/RuntimeException" 7 prog_15_method_2_code ["java/lang/Exception"], w ∈ xj_ws ∨ w = .isRef (.static Bundle.tN "UNASSIGNED_STACK" Bundle.steD) ∨ w = .isRef (.static Bundle.tN "SUPPRESSED_SENTINEL" Bundle.listD) ∨ w = .laysStatic Bundle.tN "UNASSIGNED_STACK" Bundle.steD ∨ w = .laysStatic Bundle.tN "SUPPRESSED_SENTINEL" Bundle.listD := by
  have h : (xh_at "RecurrenceBook" 75 "java/lang/IllegalStateException" "java/lang/RuntimeException" 7 prog_15_method_2_code ["java/lang/Exception"]).all (fun w => decide (w ∈ xj_ws) || (decide (w = .isRef (.static Bundle.tN "UNASSIGNED_STACK" Bundle.steD)) || (decide (w = .isRef (.static Bundle.tN "SUPPRESSED_SENTINEL" Bundle.listD)) || (decide (w = .laysStatic Bundle.tN "UNASSIGNED_STACK" Bundle.steD) || decide (w = .laysStatic Bundle.tN "SUPPRESSED_SENTINEL" Bundle.listD))))) = true := by decide +kernel
  intro w hw
  have h1 := List.all_eq_true.mp h w hw
  simpa only [Bool.or_eq_true, decide_eq_true_eq] using h1
theorem xoB_167 : ∀ w ∈ xh_at "RecurrenceBook" 167 "java/util/NoSuchElementException" "java/lang/RuntimeException" 13 prog_22_method_4_code ["java/lang/Exception"], w ∈ xj_ws ∨ w = .isRef (.static Bundle.tN "UNASSIGNED_STACK" Bundle.steD) ∨ w = .isRef (.static Bundle.tN "SUPPRESSED_SENTINEL" Bundle.listD) ∨ w = .laysStatic Bundle.tN "UNASSIGNED_STACK" Bundle.steD ∨ w = .laysStatic Bundle.tN "SUPPRESSED_SENTINEL" Bundle.listD := by
  have h : (xh_at "RecurrenceBook" 167 "java/util/NoSuchElementException" "java/lang/RuntimeException" 13 prog_22_method_4_code ["java/lang/Exception"]).all (fun w => decide (w ∈ xj_ws) || (decide (w = .isRef (.static Bundle.tN "UNASSIGNED_STACK" Bundle.steD)) || (decide (w = .isRef (.static Bundle.tN "SUPPRESSED_SENTINEL" Bundle.listD)) || (decide (w = .laysStatic Bundle.tN "UNASSIGNED_STACK" Bundle.steD) || decide (w = .laysStatic Bundle.tN "SUPPRESSED_SENTINEL" Bundle.listD))))) = true := by decide +kernel
  intro w hw
  have h1 := List.all_eq_true.mp h w hw
  simpa only [Bool.or_eq_true, decide_eq_true_eq] using h1
end
section
/-! What the tables say of each place of the code. -/
theorem fpZ_15 : xj_fp "RecurrenceBook$Zone" "<init>" 15 1 3 (.array (.int)) := ⟨_, _, _, xk1_t, rfl, by decide, xk1_in, xk1_ty, xk1_nm, by decide +kernel, Or.inl ⟨xm_t 40 (by decide +kernel) rfl, Or.inr ⟨rfl, rfl, rfl⟩⟩⟩
theorem aw_int : Cond.arrayClass .int ∈ xj_ws := xm_t 51 (by decide +kernel) rfl
theorem fpZ_9 : xj_fp "RecurrenceBook$Zone" "<init>" 9 1 2 (.array (.int)) := ⟨_, _, _, xk1_t, rfl, by decide, xk1_in, xk1_ty, xk1_nm, by decide +kernel, Or.inl ⟨xm_t 39 (by decide +kernel) rfl, Or.inr ⟨rfl, rfl, rfl⟩⟩⟩
theorem ow_i : Cond.instanceMethod Lib.objectInit ∈ xj_ws := xm_t 29 (by decide +kernel) rfl
theorem ow_c : Cond.code Lib.objectInit ⟨#[0xb1]⟩ 1 none ∈ xj_ws := xm_t 30 (by decide +kernel) rfl
theorem owZ_3 : Cond.methodLink "RecurrenceBook$Zone" 3 Lib.objectInit ∈ xj_ws := xm_t 36 (by decide +kernel) rfl
theorem gsD_17 : Cond.fieldLink "RecurrenceBook$Dates" 17 "RecurrenceBook$Dates" "DAYS_BEFORE_MONTH" "[I" ∈ xj_ws := xm_t 65 (by decide +kernel) rfl
theorem swD_11 : xj_sw "RecurrenceBook$Dates" 11 yJ_floorMod prog_16_method_50_code 3 (some .int) [] 2 := ⟨Or.inl (xm_t 62 (by decide +kernel) rfl), xm_t 63 (by decide +kernel) rfl, xm_t 64 (by decide +kernel) rfl, xm_t 4 (by decide +kernel) rfl, ⟨by decide, by decide⟩, by decide +kernel⟩
theorem swD_25 : xj_sw "RecurrenceBook$Dates" 25 yD_monthStart prog_2_method_4_code 4 (some .int) [] 1 := ⟨Or.inl (xm_t 59 (by decide +kernel) rfl), xm_t 60 (by decide +kernel) rfl, xm_t 61 (by decide +kernel) rfl, xm_t 3 (by decide +kernel) rfl, ⟨by decide, by decide⟩, by decide +kernel⟩
theorem swD_32 : xj_sw "RecurrenceBook$Dates" 32 yD_weekdayOf prog_2_method_2_code 1 (some .int) [] 1 := ⟨Or.inl (xm_t 67 (by decide +kernel) rfl), xm_t 68 (by decide +kernel) rfl, xm_t 69 (by decide +kernel) rfl, xm_t 3 (by decide +kernel) rfl, ⟨by decide, by decide⟩, by decide +kernel⟩
theorem flZ_22 : xj_fl "RecurrenceBook$Zone" 22 1 1 := ⟨_, _, _, rfl, by decide, xk1_in, Or.inl (xm_t 38 (by decide +kernel) rfl)⟩
theorem flZ_15 : xj_fl "RecurrenceBook$Zone" 15 1 3 := ⟨_, _, _, rfl, by decide, xk1_in, Or.inl (xm_t 40 (by decide +kernel) rfl)⟩
theorem flZ_18 : xj_fl "RecurrenceBook$Zone" 18 1 0 := ⟨_, _, _, rfl, by decide, xk1_in, Or.inl (xm_t 37 (by decide +kernel) rfl)⟩
theorem flZ_9 : xj_fl "RecurrenceBook$Zone" 9 1 2 := ⟨_, _, _, rfl, by decide, xk1_in, Or.inl (xm_t 39 (by decide +kernel) rfl)⟩
theorem swZ_25 : xj_sw "RecurrenceBook$Zone" 25 yD_sundayOf prog_2_method_7_code 4 (some .int) [] 2 := ⟨Or.inl (xm_t 56 (by decide +kernel) rfl), xm_t 57 (by decide +kernel) rfl, xm_t 58 (by decide +kernel) rfl, xm_t 3 (by decide +kernel) rfl, ⟨by decide, by decide⟩, by decide +kernel⟩
theorem fpZ_22 (nm : String) : xj_fp "RecurrenceBook$Zone" nm 22 1 1 (.int) := ⟨_, _, _, xk1_t, rfl, by decide, xk1_in, xk1_ty, xk1_nm, by decide +kernel, Or.inl ⟨xm_t 38 (by decide +kernel) rfl, Or.inl rfl⟩⟩
theorem fpZ_18 (nm : String) : xj_fp "RecurrenceBook$Zone" nm 18 1 0 (.int) := ⟨_, _, _, xk1_t, rfl, by decide, xk1_in, xk1_ty, xk1_nm, by decide +kernel, Or.inl ⟨xm_t 37 (by decide +kernel) rfl, Or.inl rfl⟩⟩
theorem fpE_15 : xj_fp "RecurrenceBook$Event" "<init>" 15 2 1 (.array (.int)) := ⟨_, _, _, xk2_t, rfl, by decide, xk2_in, xk2_ty, xk2_nm, by decide +kernel, Or.inl ⟨xm_t 79 (by decide +kernel) rfl, Or.inr ⟨rfl, rfl, rfl⟩⟩⟩
theorem fpE_9 : xj_fp "RecurrenceBook$Event" "<init>" 9 2 0 (.array (.int)) := ⟨_, _, _, xk2_t, rfl, by decide, xk2_in, xk2_ty, xk2_nm, by decide +kernel, Or.inl ⟨xm_t 77 (by decide +kernel) rfl, Or.inr ⟨rfl, rfl, rfl⟩⟩⟩
theorem owE_3 : Cond.methodLink "RecurrenceBook$Event" 3 Lib.objectInit ∈ xj_ws := xm_t 76 (by decide +kernel) rfl
theorem fpS_18 (nm : String) : xj_fp "RecurrenceBook$Spans" nm 18 3 2 (.int) := ⟨_, _, _, xk3_t, rfl, by decide, xk3_in, xk3_ty, xk3_nm, by decide +kernel, Or.inl ⟨xm_t 111 (by decide +kernel) rfl, Or.inl rfl⟩⟩
theorem fpS_15 : xj_fp "RecurrenceBook$Spans" "<init>" 15 3 1 (.array (.int)) := ⟨_, _, _, xk3_t, rfl, by decide, xk3_in, xk3_ty, xk3_nm, by decide +kernel, Or.inl ⟨xm_t 109 (by decide +kernel) rfl, Or.inr ⟨rfl, rfl, rfl⟩⟩⟩
theorem fpS_9 : xj_fp "RecurrenceBook$Spans" "<init>" 9 3 0 (.array (.int)) := ⟨_, _, _, xk3_t, rfl, by decide, xk3_in, xk3_ty, xk3_nm, by decide +kernel, Or.inl ⟨xm_t 107 (by decide +kernel) rfl, Or.inr ⟨rfl, rfl, rfl⟩⟩⟩
theorem owS_3 : Cond.methodLink "RecurrenceBook$Spans" 3 Lib.objectInit ∈ xj_ws := xm_t 106 (by decide +kernel) rfl
theorem fpB_45 : xj_fp "RecurrenceBook" "<init>" 45 0 6 (.object "RecurrenceBook$Spans") := ⟨_, _, _, xk0_t, rfl, by decide, xk0_in, xk0_ty, xk0_nm, by decide +kernel, Or.inl ⟨xm_t 132 (by decide +kernel) rfl, Or.inr ⟨rfl, rfl, rfl⟩⟩⟩
theorem iwB_44 : xj_iw "RecurrenceBook" 44 yS_init prog_7_method_1_code 1 0 := ⟨Or.inl (xm_t 103 (by decide +kernel) rfl), xm_t 104 (by decide +kernel) rfl, xm_t 105 (by decide +kernel) rfl, xm_t 6 (by decide +kernel) rfl, ⟨by decide, by decide⟩, by decide +kernel, rfl⟩
theorem nkB_42 : xj_nk "RecurrenceBook" 42 3 5 [.null, .null, .int 0, .int 0, .int 0] := ⟨_, _, xk3_t, rfl, xk3_in, xk3_ty, xm_t 101 (by decide +kernel) rfl, xm_t 102 (by decide +kernel) rfl, xm_t 6 (by decide +kernel) rfl, by decide +kernel, rfl⟩
theorem fpB_38 : xj_fp "RecurrenceBook" "<init>" 38 0 5 (.array (.int)) := ⟨_, _, _, xk0_t, rfl, by decide, xk0_in, xk0_ty, xk0_nm, by decide +kernel, Or.inl ⟨xm_t 131 (by decide +kernel) rfl, Or.inr ⟨rfl, rfl, rfl⟩⟩⟩
theorem fpB_35 (nm : String) : xj_fp "RecurrenceBook" nm 35 0 4 (.int) := ⟨_, _, _, xk0_t, rfl, by decide, xk0_in, xk0_ty, xk0_nm, by decide +kernel, Or.inl ⟨xm_t 130 (by decide +kernel) rfl, Or.inl rfl⟩⟩
theorem iwB_34 : xj_iw "RecurrenceBook" 34 yE_init prog_3_method_1_code 1 0 := ⟨Or.inl (xm_t 73 (by decide +kernel) rfl), xm_t 74 (by decide +kernel) rfl, xm_t 75 (by decide +kernel) rfl, xm_t 5 (by decide +kernel) rfl, ⟨by decide, by decide⟩, by decide +kernel, rfl⟩
theorem nkB_28 : xj_nk "RecurrenceBook" 28 2 6 [.null, .null, .int 0, .int 0, .int 0, .int 0] := ⟨_, _, xk2_t, rfl, xk2_in, xk2_ty, xm_t 70 (by decide +kernel) rfl, xm_t 72 (by decide +kernel) rfl, xm_t 5 (by decide +kernel) rfl, by decide +kernel, rfl⟩
theorem flB_30 : xj_fl "RecurrenceBook" 30 0 3 := ⟨_, _, _, rfl, by decide, xk0_in, Or.inl (xm_t 129 (by decide +kernel) rfl)⟩
theorem fpB_30 : xj_fp "RecurrenceBook" "<init>" 30 0 3 (.array (.object "RecurrenceBook$Event")) := ⟨_, _, _, xk0_t, rfl, by decide, xk0_in, xk0_ty, xk0_nm, by decide +kernel, Or.inl ⟨xm_t 129 (by decide +kernel) rfl, Or.inr ⟨rfl, rfl, rfl⟩⟩⟩
theorem clB_28 : Cond.classLink "RecurrenceBook" 28 "RecurrenceBook$Event" ∈ xj_ws := xm_t 70 (by decide +kernel) rfl
theorem vwB_24 : xj_vw "RecurrenceBook" 24 1 yZ_change prog_9_method_2_code 10 none [] 6 := ⟨_, _, _, rfl, Or.inl (xm_t 52 (by decide +kernel) rfl), xm_t 53 (by decide +kernel) rfl, xm_t 54 (by decide +kernel) rfl, xm_t 55 (by decide +kernel) rfl, xm_t 2 (by decide +kernel) rfl, ⟨by decide, by decide⟩, by decide +kernel⟩
theorem flB_20 : xj_fl "RecurrenceBook" 20 0 2 := ⟨_, _, _, rfl, by decide, xk0_in, Or.inl (xm_t 128 (by decide +kernel) rfl)⟩
theorem fpB_20 : xj_fp "RecurrenceBook" "<init>" 20 0 2 (.object "RecurrenceBook$Zone") := ⟨_, _, _, xk0_t, rfl, by decide, xk0_in, xk0_ty, xk0_nm, by decide +kernel, Or.inl ⟨xm_t 128 (by decide +kernel) rfl, Or.inr ⟨rfl, rfl, rfl⟩⟩⟩
theorem iwB_19 : xj_iw "RecurrenceBook" 19 yZ_init prog_9_method_1_code 1 0 := ⟨Or.inl (xm_t 33 (by decide +kernel) rfl), xm_t 34 (by decide +kernel) rfl, xm_t 35 (by decide +kernel) rfl, xm_t 2 (by decide +kernel) rfl, ⟨by decide, by decide⟩, by decide +kernel, rfl⟩
theorem nkB_17 : xj_nk "RecurrenceBook" 17 1 4 [.int 0, .int 0, .null, .null] := ⟨_, _, xk1_t, rfl, xk1_in, xk1_ty, xm_t 31 (by decide +kernel) rfl, xm_t 32 (by decide +kernel) rfl, xm_t 2 (by decide +kernel) rfl, by decide +kernel, rfl⟩
theorem fpB_13 (nm : String) : xj_fp "RecurrenceBook" nm 13 0 1 (.int) := ⟨_, _, _, xk0_t, rfl, by decide, xk0_in, xk0_ty, xk0_nm, by decide +kernel, Or.inl ⟨xm_t 127 (by decide +kernel) rfl, Or.inl rfl⟩⟩
theorem fpB_9 : xj_fp "RecurrenceBook" "<init>" 9 0 0 (.array (.char)) := ⟨_, _, _, xk0_t, rfl, by decide, xk0_in, xk0_ty, xk0_nm, by decide +kernel, Or.inl ⟨xm_t 126 (by decide +kernel) rfl, Or.inr ⟨rfl, rfl, rfl⟩⟩⟩
theorem aw_char : Cond.arrayClass .char ∈ xj_ws := xm_t 50 (by decide +kernel) rfl
theorem owB_3 : Cond.methodLink "RecurrenceBook" 3 Lib.objectInit ∈ xj_ws := xm_t 28 (by decide +kernel) rfl
theorem flB_13 : xj_fl "RecurrenceBook" 13 0 1 := ⟨_, _, _, rfl, by decide, xk0_in, Or.inl (xm_t 127 (by decide +kernel) rfl)⟩
theorem flB_9 : xj_fl "RecurrenceBook" 9 0 0 := ⟨_, _, _, rfl, by decide, xk0_in, Or.inl (xm_t 126 (by decide +kernel) rfl)⟩
theorem swZ_40 : xj_sw "RecurrenceBook$Zone" 40 yJ_max prog_16_method_65_code 2 (some .int) [] 2 := ⟨Or.inl (xm_t 170 (by decide +kernel) rfl), xm_t 171 (by decide +kernel) rfl, xm_t 172 (by decide +kernel) rfl, xm_t 4 (by decide +kernel) rfl, ⟨by decide, by decide⟩, by decide +kernel⟩
theorem swZ_35 : xj_sw "RecurrenceBook$Zone" 35 yJ_min prog_16_method_69_code 2 (some .int) [] 2 := ⟨Or.inl (xm_t 167 (by decide +kernel) rfl), xm_t 168 (by decide +kernel) rfl, xm_t 169 (by decide +kernel) rfl, xm_t 4 (by decide +kernel) rfl, ⟨by decide, by decide⟩, by decide +kernel⟩
theorem swZ_31 : xj_sw "RecurrenceBook$Zone" 31 yD_yearOf prog_2_method_3_code 1 (some .int) [] 1 := ⟨Or.inl (xm_t 164 (by decide +kernel) rfl), xm_t 165 (by decide +kernel) rfl, xm_t 166 (by decide +kernel) rfl, xm_t 3 (by decide +kernel) rfl, ⟨by decide, by decide⟩, by decide +kernel⟩
theorem vwZ_43 : xj_vw "RecurrenceBook$Zone" 43 1 yZ_isSummer prog_9_method_3_code 5 (some .boolean) [] 1 := ⟨_, _, _, rfl, Or.inl (xm_t 160 (by decide +kernel) rfl), xm_t 161 (by decide +kernel) rfl, xm_t 162 (by decide +kernel) rfl, xm_t 163 (by decide +kernel) rfl, xm_t 2 (by decide +kernel) rfl, ⟨by decide, by decide⟩, by decide +kernel⟩
theorem flE_15 : xj_fl "RecurrenceBook$Event" 15 2 1 := ⟨_, _, _, rfl, by decide, xk2_in, Or.inl (xm_t 79 (by decide +kernel) rfl)⟩
theorem vwE_31 : xj_vw "RecurrenceBook$Event" 31 1 yZ_momentOf prog_9_method_5_code 2 (some .int) [] 1 := ⟨_, _, _, rfl, Or.inl (xm_t 269 (by decide +kernel) rfl), xm_t 270 (by decide +kernel) rfl, xm_t 271 (by decide +kernel) rfl, xm_t 272 (by decide +kernel) rfl, xm_t 2 (by decide +kernel) rfl, ⟨by decide, by decide⟩, by decide +kernel⟩
theorem flE_18 : xj_fl "RecurrenceBook$Event" 18 2 4 := ⟨_, _, _, rfl, by decide, xk2_in, Or.inl (xm_t 84 (by decide +kernel) rfl)⟩
theorem flE_9 : xj_fl "RecurrenceBook$Event" 9 2 0 := ⟨_, _, _, rfl, by decide, xk2_in, Or.inl (xm_t 77 (by decide +kernel) rfl)⟩
theorem flE_25 : xj_fl "RecurrenceBook$Event" 25 2 2 := ⟨_, _, _, rfl, by decide, xk2_in, Or.inl (xm_t 81 (by decide +kernel) rfl)⟩
theorem vwB_67 : xj_vw "RecurrenceBook" 67 2 yE_settle prog_3_method_4_code 5 none [] 1 := ⟨_, _, _, rfl, Or.inl (xm_t 265 (by decide +kernel) rfl), xm_t 266 (by decide +kernel) rfl, xm_t 267 (by decide +kernel) rfl, xm_t 268 (by decide +kernel) rfl, xm_t 5 (by decide +kernel) rfl, ⟨by decide, by decide⟩, by decide +kernel⟩
theorem flB_35 : xj_fl "RecurrenceBook" 35 0 4 := ⟨_, _, _, rfl, by decide, xk0_in, Or.inl (xm_t 130 (by decide +kernel) rfl)⟩
theorem xwB_53_65_57 : xj_xw "RecurrenceBook" 53 65 57 "java/lang/IllegalArgumentException" 7 prog_14_method_2_code := ⟨xm_t 194 (by decide +kernel) rfl, xm_t 11 (by decide +kernel) rfl, xm_t 195 (by decide +kernel) rfl, xoB_57, by decide +kernel, ⟨by decide +kernel, by decide +kernel, by decide +kernel, by decide +kernel⟩, 2, _, List.mem_of_getElem? (i := 2) rfl⟩
theorem xwB_53_63_57 : xj_xw "RecurrenceBook" 53 63 57 "java/lang/IllegalArgumentException" 7 prog_14_method_2_code := ⟨xm_t 194 (by decide +kernel) rfl, xm_t 11 (by decide +kernel) rfl, xm_t 195 (by decide +kernel) rfl, xoB_57, by decide +kernel, ⟨by decide +kernel, by decide +kernel, by decide +kernel, by decide +kernel⟩, 1, _, List.mem_of_getElem? (i := 1) rfl⟩
theorem xwB_53_55_57 : xj_xw "RecurrenceBook" 53 55 57 "java/lang/IllegalArgumentException" 7 prog_14_method_2_code := ⟨xm_t 194 (by decide +kernel) rfl, xm_t 11 (by decide +kernel) rfl, xm_t 195 (by decide +kernel) rfl, xoB_57, by decide +kernel, ⟨by decide +kernel, by decide +kernel, by decide +kernel, by decide +kernel⟩, 0, _, List.mem_of_getElem? (i := 0) rfl⟩
theorem swB_60 : xj_sw "RecurrenceBook" 60 yB_isMonth prog_1_method_19_code 1 (some .boolean) [] 1 := ⟨Or.inl (xm_t 262 (by decide +kernel) rfl), xm_t 181 (by decide +kernel) rfl, xm_t 182 (by decide +kernel) rfl, xm_t 1 (by decide +kernel) rfl, ⟨by decide, by decide⟩, by decide +kernel⟩
theorem swB_49 : xj_sw "RecurrenceBook" 49 yB_isOffset prog_1_method_18_code 1 (some .boolean) [] 1 := ⟨Or.inl (xm_t 191 (by decide +kernel) rfl), xm_t 192 (by decide +kernel) rfl, xm_t 193 (by decide +kernel) rfl, xm_t 1 (by decide +kernel) rfl, ⟨by decide, by decide⟩, by decide +kernel⟩
theorem kR_15 : Cond.constant "RecurrenceBook$Rule" 15 36524 ∈ xj_ws := xm_t 309 (by decide +kernel) rfl
theorem fpR_16 (nm : String) : xj_fp "RecurrenceBook$Rule" nm 16 4 4 (.int) := ⟨_, _, _, xk4_t, rfl, by decide, xk4_in, xk4_ty, xk4_nm, by decide +kernel, Or.inl ⟨xm_t 320 (by decide +kernel) rfl, Or.inl rfl⟩⟩
theorem fpR_9 (nm : String) : xj_fp "RecurrenceBook$Rule" nm 9 4 0 (.object "RecurrenceBook$Frequency") := ⟨_, _, _, xk4_t, rfl, by decide, xk4_in, xk4_ty, xk4_nm, by decide +kernel, Or.inl ⟨xm_t 310 (by decide +kernel) rfl, Or.inl rfl⟩⟩
theorem owR_3 : Cond.methodLink "RecurrenceBook$Rule" 3 Lib.objectInit ∈ xj_ws := xm_t 308 (by decide +kernel) rfl
theorem fpQ_25 : xj_fp "RecurrenceBook$RuleReader" "<init>" 25 5 3 (.object "RecurrenceBook$Rule") := ⟨_, _, _, xk5_t, rfl, by decide, xk5_in, xk5_ty, xk5_nm, by decide +kernel, Or.inl ⟨xm_t 358 (by decide +kernel) rfl, Or.inr ⟨rfl, rfl, rfl⟩⟩⟩
theorem iwQ_24 : xj_iw "RecurrenceBook$RuleReader" 24 yR_init prog_5_method_1_code 1 0 := ⟨Or.inl (xm_t 305 (by decide +kernel) rfl), xm_t 306 (by decide +kernel) rfl, xm_t 307 (by decide +kernel) rfl, xm_t 14 (by decide +kernel) rfl, ⟨by decide, by decide⟩, by decide +kernel, rfl⟩
theorem nkQ_22 : xj_nk "RecurrenceBook$RuleReader" 22 4 11 [.null, .int 0, .int 0, .int 0, .int 0, .int 0, .int 0, .int 0, .int 0, .long 0, .long 0] := ⟨_, _, xk4_t, rfl, xk4_in, xk4_ty, xm_t 303 (by decide +kernel) rfl, xm_t 304 (by decide +kernel) rfl, xm_t 14 (by decide +kernel) rfl, by decide +kernel, rfl⟩
theorem fpQ_19 (nm : String) : xj_fp "RecurrenceBook$RuleReader" nm 19 5 2 (.int) := ⟨_, _, _, xk5_t, rfl, by decide, xk5_in, xk5_ty, xk5_nm, by decide +kernel, Or.inl ⟨xm_t 357 (by decide +kernel) rfl, Or.inl rfl⟩⟩
theorem fpQ_15 : xj_fp "RecurrenceBook$RuleReader" "<init>" 15 5 1 (.int) := ⟨_, _, _, xk5_t, rfl, by decide, xk5_in, xk5_ty, xk5_nm, by decide +kernel, Or.inl ⟨xm_t 356 (by decide +kernel) rfl, Or.inr ⟨rfl, rfl, rfl⟩⟩⟩
theorem fpQ_9 : xj_fp "RecurrenceBook$RuleReader" "<init>" 9 5 0 (.array (.char)) := ⟨_, _, _, xk5_t, rfl, by decide, xk5_in, xk5_ty, xk5_nm, by decide +kernel, Or.inl ⟨xm_t 355 (by decide +kernel) rfl, Or.inr ⟨rfl, rfl, rfl⟩⟩⟩
theorem owQ_3 : Cond.methodLink "RecurrenceBook$RuleReader" 3 Lib.objectInit ∈ xj_ws := xm_t 302 (by decide +kernel) rfl
theorem kB_187 : Cond.constant "RecurrenceBook" 187 36524 ∈ xj_ws := xm_t 372 (by decide +kernel) rfl
theorem gsK_38 : Cond.fieldLink "java/lang/String" 38 "java/lang/String" "COMPACT_STRINGS" "Z" ∈ xj_ws := xm_t 397 (by decide +kernel) rfl
theorem ks_coder : Cond.fieldLink "java/lang/String" 15 "java/lang/String" "coder" "B" ∈ xj_ws := xm_t 1073 (by decide +kernel) rfl
theorem ks_value : Cond.fieldLink "java/lang/String" 9 "java/lang/String" "value" "[B" ∈ xj_ws := xm_t 1072 (by decide +kernel) rfl
theorem zwK_335 : xj_zw "java/lang/String" 335 yK_coder prog_18_method_152_code 1 (some .byte) 0 := ⟨xm_t 393 (by decide +kernel) rfl, xm_t 394 (by decide +kernel) rfl, xm_t 395 (by decide +kernel) rfl, xm_t 396 (by decide +kernel) rfl, xm_t 17 (by decide +kernel) rfl, ⟨by decide, by decide⟩, by decide +kernel⟩
theorem swK_1059 : xj_sw "java/lang/String" 1059 yP_checkIndex prog_23_method_11_code 3 (some .int) [] 3 := ⟨Or.inl (xm_t 415 (by decide +kernel) rfl), xm_t 416 (by decide +kernel) rfl, xm_t 417 (by decide +kernel) rfl, xm_t 19 (by decide +kernel) rfl, ⟨by decide, by decide⟩, by decide +kernel⟩
theorem gsK_1053 : Cond.fieldLink "java/lang/String" 1053 xj_jp "SIOOBE_FORMATTER" xj_jf ∈ xj_ws := xm_t 413 (by decide +kernel) rfl
theorem swT_9 : xj_sw "java/lang/StringLatin1" 9 yK_checkIndex prog_18_method_155_code 2 none [] 2 := ⟨Or.inl (xm_t 410 (by decide +kernel) rfl), xm_t 411 (by decide +kernel) rfl, xm_t 412 (by decide +kernel) rfl, xm_t 17 (by decide +kernel) rfl, ⟨by decide, by decide⟩, by decide +kernel⟩
theorem swK_495 : xj_sw "java/lang/String" 495 yT_charAt prog_19_method_2_code 2 (some .char) [] 2 := ⟨Or.inl (xm_t 407 (by decide +kernel) rfl), xm_t 408 (by decide +kernel) rfl, xm_t 409 (by decide +kernel) rfl, xm_t 18 (by decide +kernel) rfl, ⟨by decide, by decide⟩, by decide +kernel⟩
theorem zwK_492 : xj_zw "java/lang/String" 492 yK_isLatin1 prog_18_method_154_code 1 (some .boolean) 0 := ⟨xm_t 403 (by decide +kernel) rfl, xm_t 404 (by decide +kernel) rfl, xm_t 405 (by decide +kernel) rfl, xm_t 406 (by decide +kernel) rfl, xm_t 17 (by decide +kernel) rfl, ⟨by decide, by decide⟩, by decide +kernel⟩
theorem zwQ_160 : xj_zw "RecurrenceBook$RuleReader" 160 yK_length prog_18_method_54_code 1 (some .int) 0 := ⟨xm_t 389 (by decide +kernel) rfl, xm_t 390 (by decide +kernel) rfl, xm_t 391 (by decide +kernel) rfl, xm_t 392 (by decide +kernel) rfl, xm_t 17 (by decide +kernel) rfl, ⟨by decide, by decide⟩, by decide +kernel⟩
theorem flQ_19 : xj_fl "RecurrenceBook$RuleReader" 19 5 2 := ⟨_, _, _, rfl, by decide, xk5_in, Or.inl (xm_t 357 (by decide +kernel) rfl)⟩
theorem zwQ_154 : xj_zw "RecurrenceBook$RuleReader" 154 yK_charAt prog_18_method_56_code 2 (some .char) 1 := ⟨xm_t 399 (by decide +kernel) rfl, xm_t 400 (by decide +kernel) rfl, xm_t 401 (by decide +kernel) rfl, xm_t 402 (by decide +kernel) rfl, xm_t 17 (by decide +kernel) rfl, ⟨by decide, by decide⟩, by decide +kernel⟩
theorem flQ_9 : xj_fl "RecurrenceBook$RuleReader" 9 5 0 := ⟨_, _, _, rfl, by decide, xk5_in, Or.inl (xm_t 355 (by decide +kernel) rfl)⟩
theorem flQ_15 : xj_fl "RecurrenceBook$RuleReader" 15 5 1 := ⟨_, _, _, rfl, by decide, xk5_in, Or.inl (xm_t 356 (by decide +kernel) rfl)⟩
theorem flQ_35 : xj_fl "RecurrenceBook$RuleReader" 35 4 0 := ⟨_, _, _, rfl, by decide, xk4_in, Or.inr ⟨"RecurrenceBook", xm_n 312 (by decide +kernel) rfl⟩⟩
theorem flQ_25 : xj_fl "RecurrenceBook$RuleReader" 25 5 3 := ⟨_, _, _, rfl, by decide, xk5_in, Or.inl (xm_t 358 (by decide +kernel) rfl)⟩
theorem gsQ_118 : Cond.fieldLink "RecurrenceBook$RuleReader" 118 xj_fq (xj_fn.getD 3 "") "LRecurrenceBook$Frequency;" ∈ xj_ws := xm_t 449 (by decide +kernel) rfl
theorem fpQ_35 (nm : String) : xj_fp "RecurrenceBook$RuleReader" nm 35 4 0 (.object "RecurrenceBook$Frequency") := ⟨_, _, _, xk4_t, rfl, by decide, xk4_in, xk4_ty, xk4_nm, by decide +kernel, Or.inr ⟨rfl, ⟨"RecurrenceBook", xm_n 312 (by decide +kernel) rfl⟩⟩⟩
theorem vwQ_54 : xj_vw "RecurrenceBook$RuleReader" 54 5 yQ_takeWord prog_6_method_16_code 3 (some .boolean) [] 1 := ⟨_, _, _, rfl, Or.inl (xm_t 385 (by decide +kernel) rfl), xm_t 387 (by decide +kernel) rfl, xm_p (q := (yQ_takeWord, 4)) 2 (by decide +kernel), xm_t 388 (by decide +kernel) rfl, xm_t 13 (by decide +kernel) rfl, ⟨by decide, by decide⟩, by decide +kernel⟩
theorem gsQ_114 : Cond.fieldLink "RecurrenceBook$RuleReader" 114 xj_fq (xj_fn.getD 2 "") "LRecurrenceBook$Frequency;" ∈ xj_ws := xm_t 446 (by decide +kernel) rfl
theorem gsQ_110 : Cond.fieldLink "RecurrenceBook$RuleReader" 110 xj_fq (xj_fn.getD 1 "") "LRecurrenceBook$Frequency;" ∈ xj_ws := xm_t 443 (by decide +kernel) rfl
theorem gsQ_29 : Cond.fieldLink "RecurrenceBook$RuleReader" 29 xj_fq (xj_fn.getD 0 "") "LRecurrenceBook$Frequency;" ∈ xj_ws := xm_t 378 (by decide +kernel) rfl
theorem vwQ_137 : xj_vw "RecurrenceBook$RuleReader" 137 5 yQ_isDigitNext prog_6_method_14_code 1 (some .boolean) [] 0 := ⟨_, _, _, rfl, Or.inl (xm_t 460 (by decide +kernel) rfl), xm_t 462 (by decide +kernel) rfl, xm_p (q := (yQ_isDigitNext, 4)) 6 (by decide +kernel), xm_t 463 (by decide +kernel) rfl, xm_t 13 (by decide +kernel) rfl, ⟨by decide, by decide⟩, by decide +kernel⟩
theorem flQ_63 : xj_fl "RecurrenceBook$RuleReader" 63 4 1 := ⟨_, _, _, rfl, by decide, xk4_in, Or.inr ⟨"RecurrenceBook", xm_n 314 (by decide +kernel) rfl⟩⟩
theorem fpQ_63 (nm : String) : xj_fp "RecurrenceBook$RuleReader" nm 63 4 1 (.int) := ⟨_, _, _, xk4_t, rfl, by decide, xk4_in, xk4_ty, xk4_nm, by decide +kernel, Or.inr ⟨rfl, ⟨"RecurrenceBook", xm_n 314 (by decide +kernel) rfl⟩⟩⟩
theorem vwQ_120 : xj_vw "RecurrenceBook$RuleReader" 120 5 yQ_takeNumber prog_6_method_13_code 5 (some .int) [] 2 := ⟨_, _, _, rfl, Or.inl (xm_t 456 (by decide +kernel) rfl), xm_t 458 (by decide +kernel) rfl, xm_p (q := (yQ_takeNumber, 4)) 5 (by decide +kernel), xm_t 459 (by decide +kernel) rfl, xm_t 13 (by decide +kernel) rfl, ⟨by decide, by decide⟩, by decide +kernel⟩
theorem flQ_38 : xj_fl "RecurrenceBook$RuleReader" 38 4 2 := ⟨_, _, _, rfl, by decide, xk4_in, Or.inr ⟨"RecurrenceBook", xm_n 316 (by decide +kernel) rfl⟩⟩
theorem fpQ_38 (nm : String) : xj_fp "RecurrenceBook$RuleReader" nm 38 4 2 (.int) := ⟨_, _, _, xk4_t, rfl, by decide, xk4_in, xk4_ty, xk4_nm, by decide +kernel, Or.inr ⟨rfl, ⟨"RecurrenceBook", xm_n 316 (by decide +kernel) rfl⟩⟩⟩
theorem swD_28 : xj_sw "RecurrenceBook$Dates" 28 yB_isMonth prog_1_method_19_code 1 (some .boolean) [] 1 := ⟨Or.inr ⟨"RecurrenceBook", xm_n 180 (by decide +kernel) rfl⟩, xm_t 181 (by decide +kernel) rfl, xm_t 182 (by decide +kernel) rfl, xm_t 1 (by decide +kernel) rfl, ⟨by decide, by decide⟩, by decide +kernel⟩
theorem kQ_124 : Cond.constant "RecurrenceBook$RuleReader" 124 99999999 ∈ xj_ws := xm_t 474 (by decide +kernel) rfl
theorem fpQ_131 (nm : String) : xj_fp "RecurrenceBook$RuleReader" nm 131 4 4 (.int) := ⟨_, _, _, xk4_t, rfl, by decide, xk4_in, xk4_ty, xk4_nm, by decide +kernel, Or.inr ⟨rfl, ⟨"RecurrenceBook", xm_n 322 (by decide +kernel) rfl⟩⟩⟩
theorem fpQ_76 (nm : String) : xj_fp "RecurrenceBook$RuleReader" nm 76 4 3 (.boolean) := ⟨_, _, _, xk4_t, rfl, by decide, xk4_in, xk4_ty, xk4_nm, by decide +kernel, Or.inr ⟨rfl, ⟨"RecurrenceBook", xm_n 318 (by decide +kernel) rfl⟩⟩⟩
theorem swQ_125 : xj_sw "RecurrenceBook$RuleReader" 125 yD_dayOf prog_2_method_6_code 5 (some .int) [] 3 := ⟨Or.inl (xm_t 475 (by decide +kernel) rfl), xm_t 178 (by decide +kernel) rfl, xm_t 179 (by decide +kernel) rfl, xm_t 3 (by decide +kernel) rfl, ⟨by decide, by decide⟩, by decide +kernel⟩
theorem flR_29 : xj_fl "RecurrenceBook$Rule" 29 4 10 := ⟨_, _, _, rfl, by decide, xk4_in, Or.inl (xm_t 331 (by decide +kernel) rfl)⟩
theorem flR_37 : xj_fl "RecurrenceBook$Rule" 37 4 9 := ⟨_, _, _, rfl, by decide, xk4_in, Or.inl (xm_t 330 (by decide +kernel) rfl)⟩
theorem flR_26 : xj_fl "RecurrenceBook$Rule" 26 4 8 := ⟨_, _, _, rfl, by decide, xk4_in, Or.inl (xm_t 328 (by decide +kernel) rfl)⟩
theorem fpR_37 (nm : String) : xj_fp "RecurrenceBook$Rule" nm 37 4 9 (.long) := ⟨_, _, _, xk4_t, rfl, by decide, xk4_in, xk4_ty, xk4_nm, by decide +kernel, Or.inl ⟨xm_t 330 (by decide +kernel) rfl, Or.inl rfl⟩⟩
theorem swR_33 : xj_sw "RecurrenceBook$Rule" 33 yR_nthBit prog_5_method_4_code 2 (some .long) [] 2 := ⟨Or.inl (xm_t 502 (by decide +kernel) rfl), xm_t 503 (by decide +kernel) rfl, xm_t 504 (by decide +kernel) rfl, xm_t 14 (by decide +kernel) rfl, ⟨by decide, by decide⟩, by decide +kernel⟩
theorem fpR_29 (nm : String) : xj_fp "RecurrenceBook$Rule" nm 29 4 10 (.long) := ⟨_, _, _, xk4_t, rfl, by decide, xk4_in, xk4_ty, xk4_nm, by decide +kernel, Or.inl ⟨xm_t 331 (by decide +kernel) rfl, Or.inl rfl⟩⟩
theorem fpR_26 (nm : String) : xj_fp "RecurrenceBook$Rule" nm 26 4 8 (.int) := ⟨_, _, _, xk4_t, rfl, by decide, xk4_in, xk4_ty, xk4_nm, by decide +kernel, Or.inl ⟨xm_t 328 (by decide +kernel) rfl, Or.inl rfl⟩⟩
theorem vwQ_144 : xj_vw "RecurrenceBook$RuleReader" 144 4 yR_addWeekday prog_5_method_3_code 4 none [] 3 := ⟨_, _, _, rfl, Or.inl (xm_t 498 (by decide +kernel) rfl), xm_t 499 (by decide +kernel) rfl, xm_t 500 (by decide +kernel) rfl, xm_t 501 (by decide +kernel) rfl, xm_t 14 (by decide +kernel) rfl, ⟨by decide, by decide⟩, by decide +kernel⟩
theorem vwQ_140 : xj_vw "RecurrenceBook$RuleReader" 140 5 yQ_takeWeekday prog_6_method_12_code 3 (some .int) [] 0 := ⟨_, _, _, rfl, Or.inl (xm_t 493 (by decide +kernel) rfl), xm_t 495 (by decide +kernel) rfl, xm_p (q := (yQ_takeWeekday, 4)) 12 (by decide +kernel), xm_t 496 (by decide +kernel) rfl, xm_t 13 (by decide +kernel) rfl, ⟨by decide, by decide⟩, by decide +kernel⟩
theorem vwQ_48 : xj_vw "RecurrenceBook$RuleReader" 48 5 yQ_take prog_6_method_15_code 2 (some .boolean) [] 1 := ⟨_, _, _, rfl, Or.inl (xm_t 489 (by decide +kernel) rfl), xm_t 491 (by decide +kernel) rfl, xm_p (q := (yQ_take, 4)) 11 (by decide +kernel), xm_t 492 (by decide +kernel) rfl, xm_t 13 (by decide +kernel) rfl, ⟨by decide, by decide⟩, by decide +kernel⟩
theorem vwQ_134 : xj_vw "RecurrenceBook$RuleReader" 134 5 yQ_readWeekday prog_6_method_9_code 4 (some .boolean) [] 0 := ⟨_, _, _, rfl, Or.inl (xm_t 485 (by decide +kernel) rfl), xm_t 487 (by decide +kernel) rfl, xm_p (q := (yQ_readWeekday, 4)) 10 (by decide +kernel), xm_t 488 (by decide +kernel) rfl, xm_t 13 (by decide +kernel) rfl, ⟨by decide, by decide⟩, by decide +kernel⟩
theorem flR_20 : xj_fl "RecurrenceBook$Rule" 20 4 7 := ⟨_, _, _, rfl, by decide, xk4_in, Or.inl (xm_t 327 (by decide +kernel) rfl)⟩
theorem flR_23 : xj_fl "RecurrenceBook$Rule" 23 4 6 := ⟨_, _, _, rfl, by decide, xk4_in, Or.inl (xm_t 326 (by decide +kernel) rfl)⟩
theorem fpR_23 (nm : String) : xj_fp "RecurrenceBook$Rule" nm 23 4 6 (.int) := ⟨_, _, _, xk4_t, rfl, by decide, xk4_in, xk4_ty, xk4_nm, by decide +kernel, Or.inl ⟨xm_t 326 (by decide +kernel) rfl, Or.inl rfl⟩⟩
theorem fpR_20 (nm : String) : xj_fp "RecurrenceBook$Rule" nm 20 4 7 (.int) := ⟨_, _, _, xk4_t, rfl, by decide, xk4_in, xk4_ty, xk4_nm, by decide +kernel, Or.inl ⟨xm_t 327 (by decide +kernel) rfl, Or.inl rfl⟩⟩
theorem vwQ_148 : xj_vw "RecurrenceBook$RuleReader" 148 4 yR_addNumber prog_5_method_2_code 3 none [] 2 := ⟨_, _, _, rfl, Or.inl (xm_t 514 (by decide +kernel) rfl), xm_t 515 (by decide +kernel) rfl, xm_t 516 (by decide +kernel) rfl, xm_t 517 (by decide +kernel) rfl, xm_t 14 (by decide +kernel) rfl, ⟨by decide, by decide⟩, by decide +kernel⟩
theorem fpQ_101 (nm : String) : xj_fp "RecurrenceBook$RuleReader" nm 101 4 5 (.int) := ⟨_, _, _, xk4_t, rfl, by decide, xk4_in, xk4_ty, xk4_nm, by decide +kernel, Or.inr ⟨rfl, ⟨"RecurrenceBook", xm_n 323 (by decide +kernel) rfl⟩⟩⟩
theorem flQ_101 : xj_fl "RecurrenceBook$RuleReader" 101 4 5 := ⟨_, _, _, rfl, by decide, xk4_in, Or.inr ⟨"RecurrenceBook", xm_n 323 (by decide +kernel) rfl⟩⟩
theorem vwQ_104 : xj_vw "RecurrenceBook$RuleReader" 104 5 yQ_readMonths prog_6_method_11_code 3 (some .boolean) [] 0 := ⟨_, _, _, rfl, Or.inl (xm_t 519 (by decide +kernel) rfl), xm_t 521 (by decide +kernel) rfl, xm_p (q := (yQ_readMonths, 4)) 14 (by decide +kernel), xm_t 522 (by decide +kernel) rfl, xm_t 13 (by decide +kernel) rfl, ⟨by decide, by decide⟩, by decide +kernel⟩
theorem vwQ_96 : xj_vw "RecurrenceBook$RuleReader" 96 5 yQ_readNumbers prog_6_method_10_code 4 (some .boolean) [] 0 := ⟨_, _, _, rfl, Or.inl (xm_t 510 (by decide +kernel) rfl), xm_t 512 (by decide +kernel) rfl, xm_p (q := (yQ_readNumbers, 4)) 13 (by decide +kernel), xm_t 513 (by decide +kernel) rfl, xm_t 13 (by decide +kernel) rfl, ⟨by decide, by decide⟩, by decide +kernel⟩
theorem vwQ_93 : xj_vw "RecurrenceBook$RuleReader" 93 4 yR_hasNumbers prog_5_method_7_code 1 (some .boolean) [] 0 := ⟨_, _, _, rfl, Or.inl (xm_t 506 (by decide +kernel) rfl), xm_t 507 (by decide +kernel) rfl, xm_t 508 (by decide +kernel) rfl, xm_t 509 (by decide +kernel) rfl, xm_t 14 (by decide +kernel) rfl, ⟨by decide, by decide⟩, by decide +kernel⟩
theorem vwQ_88 : xj_vw "RecurrenceBook$RuleReader" 88 5 yQ_readWeekdays prog_6_method_8_code 2 (some .boolean) [] 0 := ⟨_, _, _, rfl, Or.inl (xm_t 481 (by decide +kernel) rfl), xm_t 483 (by decide +kernel) rfl, xm_p (q := (yQ_readWeekdays, 4)) 9 (by decide +kernel), xm_t 484 (by decide +kernel) rfl, xm_t 13 (by decide +kernel) rfl, ⟨by decide, by decide⟩, by decide +kernel⟩
theorem vwQ_85 : xj_vw "RecurrenceBook$RuleReader" 85 4 yR_hasWeekdays prog_5_method_6_code 1 (some .boolean) [] 0 := ⟨_, _, _, rfl, Or.inl (xm_t 477 (by decide +kernel) rfl), xm_t 478 (by decide +kernel) rfl, xm_t 479 (by decide +kernel) rfl, xm_t 480 (by decide +kernel) rfl, xm_t 14 (by decide +kernel) rfl, ⟨by decide, by decide⟩, by decide +kernel⟩
theorem vwQ_80 : xj_vw "RecurrenceBook$RuleReader" 80 5 yQ_readUntil prog_6_method_7_code 4 (some .boolean) [] 0 := ⟨_, _, _, rfl, Or.inl (xm_t 470 (by decide +kernel) rfl), xm_t 472 (by decide +kernel) rfl, xm_p (q := (yQ_readUntil, 4)) 8 (by decide +kernel), xm_t 473 (by decide +kernel) rfl, xm_t 13 (by decide +kernel) rfl, ⟨by decide, by decide⟩, by decide +kernel⟩
theorem flQ_76 : xj_fl "RecurrenceBook$RuleReader" 76 4 3 := ⟨_, _, _, rfl, by decide, xk4_in, Or.inr ⟨"RecurrenceBook", xm_n 318 (by decide +kernel) rfl⟩⟩
theorem vwQ_71 : xj_vw "RecurrenceBook$RuleReader" 71 5 yQ_readCount prog_6_method_6_code 1 (some .boolean) [] 0 := ⟨_, _, _, rfl, Or.inl (xm_t 465 (by decide +kernel) rfl), xm_t 467 (by decide +kernel) rfl, xm_p (q := (yQ_readCount, 4)) 7 (by decide +kernel), xm_t 468 (by decide +kernel) rfl, xm_t 13 (by decide +kernel) rfl, ⟨by decide, by decide⟩, by decide +kernel⟩
theorem vwQ_66 : xj_vw "RecurrenceBook$RuleReader" 66 5 yQ_readInterval prog_6_method_5_code 1 (some .boolean) [] 0 := ⟨_, _, _, rfl, Or.inl (xm_t 452 (by decide +kernel) rfl), xm_t 454 (by decide +kernel) rfl, xm_p (q := (yQ_readInterval, 4)) 4 (by decide +kernel), xm_t 455 (by decide +kernel) rfl, xm_t 13 (by decide +kernel) rfl, ⟨by decide, by decide⟩, by decide +kernel⟩
theorem vwQ_58 : xj_vw "RecurrenceBook$RuleReader" 58 5 yQ_readFrequency prog_6_method_4_code 1 (some .boolean) [] 0 := ⟨_, _, _, rfl, Or.inl (xm_t 437 (by decide +kernel) rfl), xm_t 439 (by decide +kernel) rfl, xm_p (q := (yQ_readFrequency, 4)) 3 (by decide +kernel), xm_t 440 (by decide +kernel) rfl, xm_t 13 (by decide +kernel) rfl, ⟨by decide, by decide⟩, by decide +kernel⟩
theorem vwR_68 : xj_vw "RecurrenceBook$Rule" 68 4 yR_hasNthWeekdays prog_5_method_5_code 1 (some .boolean) [] 0 := ⟨_, _, _, rfl, Or.inl (xm_t 531 (by decide +kernel) rfl), xm_t 532 (by decide +kernel) rfl, xm_t 533 (by decide +kernel) rfl, xm_t 534 (by decide +kernel) rfl, xm_t 14 (by decide +kernel) rfl, ⟨by decide, by decide⟩, by decide +kernel⟩
theorem gsR_62 : Cond.fieldLink "RecurrenceBook$Rule" 62 xj_fq (xj_fn.getD 2 "") "LRecurrenceBook$Frequency;" ∈ xj_ws := xm_t 529 (by decide +kernel) rfl
theorem gsR_65 : Cond.fieldLink "RecurrenceBook$Rule" 65 xj_fq (xj_fn.getD 3 "") "LRecurrenceBook$Frequency;" ∈ xj_ws := xm_t 530 (by decide +kernel) rfl
theorem flR_9 : xj_fl "RecurrenceBook$Rule" 9 4 0 := ⟨_, _, _, rfl, by decide, xk4_in, Or.inl (xm_t 310 (by decide +kernel) rfl)⟩
theorem gsR_57 : Cond.fieldLink "RecurrenceBook$Rule" 57 xj_fq (xj_fn.getD 1 "") "LRecurrenceBook$Frequency;" ∈ xj_ws := xm_t 527 (by decide +kernel) rfl
theorem vwR_43 : xj_vw "RecurrenceBook$Rule" 43 4 yR_hasNumbers prog_5_method_7_code 1 (some .boolean) [] 0 := ⟨_, _, _, rfl, Or.inl (xm_t 528 (by decide +kernel) rfl), xm_t 507 (by decide +kernel) rfl, xm_t 508 (by decide +kernel) rfl, xm_t 509 (by decide +kernel) rfl, xm_t 14 (by decide +kernel) rfl, ⟨by decide, by decide⟩, by decide +kernel⟩
theorem flR_53 : xj_fl "RecurrenceBook$Rule" 53 4 3 := ⟨_, _, _, rfl, by decide, xk4_in, Or.inl (xm_t 319 (by decide +kernel) rfl)⟩
theorem flR_50 : xj_fl "RecurrenceBook$Rule" 50 4 2 := ⟨_, _, _, rfl, by decide, xk4_in, Or.inl (xm_t 317 (by decide +kernel) rfl)⟩
theorem vwQ_45 : xj_vw "RecurrenceBook$RuleReader" 45 4 yR_isAllowed prog_5_method_11_code 2 (some .boolean) [] 0 := ⟨_, _, _, rfl, Or.inl (xm_t 523 (by decide +kernel) rfl), xm_t 524 (by decide +kernel) rfl, xm_t 525 (by decide +kernel) rfl, xm_t 526 (by decide +kernel) rfl, xm_t 14 (by decide +kernel) rfl, ⟨by decide, by decide⟩, by decide +kernel⟩
theorem vwQ_41 : xj_vw "RecurrenceBook$RuleReader" 41 5 yQ_readPart prog_6_method_3_code 1 (some .boolean) [] 0 := ⟨_, _, _, rfl, Or.inl (xm_t 380 (by decide +kernel) rfl), xm_t 382 (by decide +kernel) rfl, xm_p (q := (yQ_readPart, 4)) 1 (by decide +kernel), xm_t 383 (by decide +kernel) rfl, xm_t 13 (by decide +kernel) rfl, ⟨by decide, by decide⟩, by decide +kernel⟩
theorem swD_21 : xj_sw "RecurrenceBook$Dates" 21 yD_yearOf prog_2_method_3_code 1 (some .int) [] 1 := ⟨Or.inl (xm_t 545 (by decide +kernel) rfl), xm_t 165 (by decide +kernel) rfl, xm_t 166 (by decide +kernel) rfl, xm_t 3 (by decide +kernel) rfl, ⟨by decide, by decide⟩, by decide +kernel⟩
theorem fpU_65 (nm : String) : xj_fp "RecurrenceBook$Unfolding" nm 65 6 8 (.int) := ⟨_, _, _, xk6_t, rfl, by decide, xk6_in, xk6_ty, xk6_nm, by decide +kernel, Or.inl ⟨xm_t 558 (by decide +kernel) rfl, Or.inl rfl⟩⟩
theorem fpU_62 : xj_fp "RecurrenceBook$Unfolding" "<init>" 62 6 6 (.int) := ⟨_, _, _, xk6_t, rfl, by decide, xk6_in, xk6_ty, xk6_nm, by decide +kernel, Or.inl ⟨xm_t 556 (by decide +kernel) rfl, Or.inr ⟨rfl, rfl, rfl⟩⟩⟩
theorem swU_59 : xj_sw "RecurrenceBook$Unfolding" 59 yJ_min prog_16_method_69_code 2 (some .int) [] 2 := ⟨Or.inl (xm_t 549 (by decide +kernel) rfl), xm_t 168 (by decide +kernel) rfl, xm_t 169 (by decide +kernel) rfl, xm_t 4 (by decide +kernel) rfl, ⟨by decide, by decide⟩, by decide +kernel⟩
theorem flU_56 : xj_fl "RecurrenceBook$Unfolding" 56 4 2 := ⟨_, _, _, rfl, by decide, xk4_in, Or.inr ⟨"RecurrenceBook", xm_n 315 (by decide +kernel) rfl⟩⟩
theorem fpU_55 : xj_fp "RecurrenceBook$Unfolding" "<init>" 55 6 5 (.int) := ⟨_, _, _, xk6_t, rfl, by decide, xk6_in, xk6_ty, xk6_nm, by decide +kernel, Or.inl ⟨xm_t 555 (by decide +kernel) rfl, Or.inr ⟨rfl, rfl, rfl⟩⟩⟩
theorem swU_49 : xj_sw "RecurrenceBook$Unfolding" 49 yJ_max prog_16_method_65_code 2 (some .int) [] 2 := ⟨Or.inl (xm_t 548 (by decide +kernel) rfl), xm_t 171 (by decide +kernel) rfl, xm_t 172 (by decide +kernel) rfl, xm_t 4 (by decide +kernel) rfl, ⟨by decide, by decide⟩, by decide +kernel⟩
theorem flU_44 : xj_fl "RecurrenceBook$Unfolding" 44 4 1 := ⟨_, _, _, rfl, by decide, xk4_in, Or.inr ⟨"RecurrenceBook", xm_n 313 (by decide +kernel) rfl⟩⟩
theorem fpU_41 : xj_fp "RecurrenceBook$Unfolding" "<init>" 41 6 4 (.int) := ⟨_, _, _, xk6_t, rfl, by decide, xk6_in, xk6_ty, xk6_nm, by decide +kernel, Or.inl ⟨xm_t 554 (by decide +kernel) rfl, Or.inr ⟨rfl, rfl, rfl⟩⟩⟩
theorem swU_38 : xj_sw "RecurrenceBook$Unfolding" 38 yD_weekdayOf prog_2_method_2_code 1 (some .int) [] 1 := ⟨Or.inl (xm_t 547 (by decide +kernel) rfl), xm_t 68 (by decide +kernel) rfl, xm_t 69 (by decide +kernel) rfl, xm_t 3 (by decide +kernel) rfl, ⟨by decide, by decide⟩, by decide +kernel⟩
theorem fpU_35 : xj_fp "RecurrenceBook$Unfolding" "<init>" 35 6 3 (.int) := ⟨_, _, _, xk6_t, rfl, by decide, xk6_in, xk6_ty, xk6_nm, by decide +kernel, Or.inl ⟨xm_t 553 (by decide +kernel) rfl, Or.inr ⟨rfl, rfl, rfl⟩⟩⟩
theorem swU_32 : xj_sw "RecurrenceBook$Unfolding" 32 yD_monthStart prog_2_method_4_code 4 (some .int) [] 1 := ⟨Or.inl (xm_t 546 (by decide +kernel) rfl), xm_t 60 (by decide +kernel) rfl, xm_t 61 (by decide +kernel) rfl, xm_t 3 (by decide +kernel) rfl, ⟨by decide, by decide⟩, by decide +kernel⟩
theorem flU_29 : xj_fl "RecurrenceBook$Unfolding" 29 6 2 := ⟨_, _, _, rfl, by decide, xk6_in, Or.inl (xm_t 552 (by decide +kernel) rfl)⟩
theorem fpU_29 : xj_fp "RecurrenceBook$Unfolding" "<init>" 29 6 2 (.int) := ⟨_, _, _, xk6_t, rfl, by decide, xk6_in, xk6_ty, xk6_nm, by decide +kernel, Or.inl ⟨xm_t 552 (by decide +kernel) rfl, Or.inr ⟨rfl, rfl, rfl⟩⟩⟩
theorem swU_23 : xj_sw "RecurrenceBook$Unfolding" 23 yD_monthOf prog_2_method_5_code 3 (some .int) [] 1 := ⟨Or.inl (xm_t 542 (by decide +kernel) rfl), xm_t 543 (by decide +kernel) rfl, xm_t 544 (by decide +kernel) rfl, xm_t 3 (by decide +kernel) rfl, ⟨by decide, by decide⟩, by decide +kernel⟩
theorem fpU_19 : xj_fp "RecurrenceBook$Unfolding" "<init>" 19 6 7 (.array (.int)) := ⟨_, _, _, xk6_t, rfl, by decide, xk6_in, xk6_ty, xk6_nm, by decide +kernel, Or.inl ⟨xm_t 557 (by decide +kernel) rfl, Or.inr ⟨rfl, rfl, rfl⟩⟩⟩
theorem fpU_15 : xj_fp "RecurrenceBook$Unfolding" "<init>" 15 6 1 (.int) := ⟨_, _, _, xk6_t, rfl, by decide, xk6_in, xk6_ty, xk6_nm, by decide +kernel, Or.inl ⟨xm_t 551 (by decide +kernel) rfl, Or.inr ⟨rfl, rfl, rfl⟩⟩⟩
theorem fpU_9 : xj_fp "RecurrenceBook$Unfolding" "<init>" 9 6 0 (.object "RecurrenceBook$Rule") := ⟨_, _, _, xk6_t, rfl, by decide, xk6_in, xk6_ty, xk6_nm, by decide +kernel, Or.inl ⟨xm_t 550 (by decide +kernel) rfl, Or.inr ⟨rfl, rfl, rfl⟩⟩⟩
theorem owU_3 : Cond.methodLink "RecurrenceBook$Unfolding" 3 Lib.objectInit ∈ xj_ws := xm_t 541 (by decide +kernel) rfl
theorem flR_40 : xj_fl "RecurrenceBook$Rule" 40 4 5 := ⟨_, _, _, rfl, by decide, xk4_in, Or.inl (xm_t 325 (by decide +kernel) rfl)⟩
theorem fpU_103 (nm : String) : xj_fp "RecurrenceBook$Unfolding" nm 103 6 11 (.boolean) := ⟨_, _, _, xk6_t, rfl, by decide, xk6_in, xk6_ty, xk6_nm, by decide +kernel, Or.inl ⟨xm_t 561 (by decide +kernel) rfl, Or.inl rfl⟩⟩
theorem vwU_135 : xj_vw "RecurrenceBook$Unfolding" 135 4 yR_allowsMonth prog_5_method_8_code 2 (some .boolean) [] 1 := ⟨_, _, _, rfl, Or.inl (xm_t 595 (by decide +kernel) rfl), xm_t 596 (by decide +kernel) rfl, xm_t 597 (by decide +kernel) rfl, xm_t 598 (by decide +kernel) rfl, xm_t 14 (by decide +kernel) rfl, ⟨by decide, by decide⟩, by decide +kernel⟩
theorem flU_9 : xj_fl "RecurrenceBook$Unfolding" 9 6 0 := ⟨_, _, _, rfl, by decide, xk6_in, Or.inl (xm_t 550 (by decide +kernel) rfl)⟩
theorem fpU_130 (nm : String) : xj_fp "RecurrenceBook$Unfolding" nm 130 6 10 (.int) := ⟨_, _, _, xk6_t, rfl, by decide, xk6_in, xk6_ty, xk6_nm, by decide +kernel, Or.inl ⟨xm_t 560 (by decide +kernel) rfl, Or.inl rfl⟩⟩
theorem flU_133 : xj_fl "RecurrenceBook$Unfolding" 133 6 9 := ⟨_, _, _, rfl, by decide, xk6_in, Or.inl (xm_t 559 (by decide +kernel) rfl)⟩
theorem fpU_133 (nm : String) : xj_fp "RecurrenceBook$Unfolding" nm 133 6 9 (.int) := ⟨_, _, _, xk6_t, rfl, by decide, xk6_in, xk6_ty, xk6_nm, by decide +kernel, Or.inl ⟨xm_t 559 (by decide +kernel) rfl, Or.inl rfl⟩⟩
theorem vwU_66 : xj_vw "RecurrenceBook$Unfolding" 66 6 yU_enterMonth prog_8_method_8_code 2 none [] 1 := ⟨_, _, _, rfl, Or.inl (xm_t 591 (by decide +kernel) rfl), xm_t 593 (by decide +kernel) rfl, xm_p (q := (yU_enterMonth, 12)) 15 (by decide +kernel), xm_t 594 (by decide +kernel) rfl, xm_t 21 (by decide +kernel) rfl, ⟨by decide, by decide⟩, by decide +kernel⟩
theorem flU_130 : xj_fl "RecurrenceBook$Unfolding" 130 6 10 := ⟨_, _, _, rfl, by decide, xk6_in, Or.inl (xm_t 560 (by decide +kernel) rfl)⟩
theorem vwR_47 : xj_vw "RecurrenceBook$Rule" 47 4 yR_hasWeekdays prog_5_method_6_code 1 (some .boolean) [] 0 := ⟨_, _, _, rfl, Or.inl (xm_t 620 (by decide +kernel) rfl), xm_t 478 (by decide +kernel) rfl, xm_t 479 (by decide +kernel) rfl, xm_t 480 (by decide +kernel) rfl, xm_t 14 (by decide +kernel) rfl, ⟨by decide, by decide⟩, by decide +kernel⟩
theorem vwU_142 : xj_vw "RecurrenceBook$Unfolding" 142 4 yR_allowsWeekday prog_5_method_10_code 6 (some .boolean) [] 3 := ⟨_, _, _, rfl, Or.inl (xm_t 616 (by decide +kernel) rfl), xm_t 617 (by decide +kernel) rfl, xm_t 618 (by decide +kernel) rfl, xm_t 619 (by decide +kernel) rfl, xm_t 14 (by decide +kernel) rfl, ⟨by decide, by decide⟩, by decide +kernel⟩
theorem vwU_138 : xj_vw "RecurrenceBook$Unfolding" 138 4 yR_allowsNumber prog_5_method_9_code 4 (some .boolean) [] 2 := ⟨_, _, _, rfl, Or.inl (xm_t 612 (by decide +kernel) rfl), xm_t 613 (by decide +kernel) rfl, xm_t 614 (by decide +kernel) rfl, xm_t 615 (by decide +kernel) rfl, xm_t 14 (by decide +kernel) rfl, ⟨by decide, by decide⟩, by decide +kernel⟩
theorem flU_65 : xj_fl "RecurrenceBook$Unfolding" 65 6 8 := ⟨_, _, _, rfl, by decide, xk6_in, Or.inl (xm_t 558 (by decide +kernel) rfl)⟩
theorem flU_19 : xj_fl "RecurrenceBook$Unfolding" 19 6 7 := ⟨_, _, _, rfl, by decide, xk6_in, Or.inl (xm_t 557 (by decide +kernel) rfl)⟩
theorem flU_62 : xj_fl "RecurrenceBook$Unfolding" 62 6 6 := ⟨_, _, _, rfl, by decide, xk6_in, Or.inl (xm_t 556 (by decide +kernel) rfl)⟩
theorem flU_97 : xj_fl "RecurrenceBook$Unfolding" 97 4 4 := ⟨_, _, _, rfl, by decide, xk4_in, Or.inr ⟨"RecurrenceBook", xm_n 321 (by decide +kernel) rfl⟩⟩
theorem flU_15 : xj_fl "RecurrenceBook$Unfolding" 15 6 1 := ⟨_, _, _, rfl, by decide, xk6_in, Or.inl (xm_t 551 (by decide +kernel) rfl)⟩
theorem flU_55 : xj_fl "RecurrenceBook$Unfolding" 55 6 5 := ⟨_, _, _, rfl, by decide, xk6_in, Or.inl (xm_t 555 (by decide +kernel) rfl)⟩
theorem vwU_111 : xj_vw "RecurrenceBook$Unfolding" 111 6 yU_add prog_8_method_11_code 2 none [] 1 := ⟨_, _, _, rfl, Or.inl (xm_t 621 (by decide +kernel) rfl), xm_t 623 (by decide +kernel) rfl, xm_p (q := (yU_add, 12)) 19 (by decide +kernel), xm_t 624 (by decide +kernel) rfl, xm_t 21 (by decide +kernel) rfl, ⟨by decide, by decide⟩, by decide +kernel⟩
theorem vwU_107 : xj_vw "RecurrenceBook$Unfolding" 107 6 yU_isMeantInMonth prog_8_method_10_code 3 (some .boolean) [] 1 := ⟨_, _, _, rfl, Or.inl (xm_t 608 (by decide +kernel) rfl), xm_t 610 (by decide +kernel) rfl, xm_p (q := (yU_isMeantInMonth, 12)) 18 (by decide +kernel), xm_t 611 (by decide +kernel) rfl, xm_t 21 (by decide +kernel) rfl, ⟨by decide, by decide⟩, by decide +kernel⟩
theorem flU_103 : xj_fl "RecurrenceBook$Unfolding" 103 6 11 := ⟨_, _, _, rfl, by decide, xk6_in, Or.inl (xm_t 561 (by decide +kernel) rfl)⟩
theorem vwU_100 : xj_vw "RecurrenceBook$Unfolding" 100 6 yU_followMonth prog_8_method_9_code 2 none [] 1 := ⟨_, _, _, rfl, Or.inl (xm_t 604 (by decide +kernel) rfl), xm_t 606 (by decide +kernel) rfl, xm_p (q := (yU_followMonth, 12)) 17 (by decide +kernel), xm_t 607 (by decide +kernel) rfl, xm_t 21 (by decide +kernel) rfl, ⟨by decide, by decide⟩, by decide +kernel⟩
theorem flU_41 : xj_fl "RecurrenceBook$Unfolding" 41 6 4 := ⟨_, _, _, rfl, by decide, xk6_in, Or.inl (xm_t 554 (by decide +kernel) rfl)⟩
theorem flU_114 : xj_fl "RecurrenceBook$Unfolding" 114 4 8 := ⟨_, _, _, rfl, by decide, xk4_in, Or.inr ⟨"RecurrenceBook", xm_n 329 (by decide +kernel) rfl⟩⟩
theorem flU_35 : xj_fl "RecurrenceBook$Unfolding" 35 6 3 := ⟨_, _, _, rfl, by decide, xk6_in, Or.inl (xm_t 553 (by decide +kernel) rfl)⟩
theorem vwU_127 : xj_vw "RecurrenceBook$Unfolding" 127 4 yR_hasWeekdays prog_5_method_6_code 1 (some .boolean) [] 0 := ⟨_, _, _, rfl, Or.inl (xm_t 640 (by decide +kernel) rfl), xm_t 478 (by decide +kernel) rfl, xm_t 479 (by decide +kernel) rfl, xm_t 480 (by decide +kernel) rfl, xm_t 14 (by decide +kernel) rfl, ⟨by decide, by decide⟩, by decide +kernel⟩
theorem vwU_123 : xj_vw "RecurrenceBook$Unfolding" 123 4 yR_hasNumbers prog_5_method_7_code 1 (some .boolean) [] 0 := ⟨_, _, _, rfl, Or.inl (xm_t 639 (by decide +kernel) rfl), xm_t 507 (by decide +kernel) rfl, xm_t 508 (by decide +kernel) rfl, xm_t 509 (by decide +kernel) rfl, xm_t 14 (by decide +kernel) rfl, ⟨by decide, by decide⟩, by decide +kernel⟩
theorem vwU_117 : xj_vw "RecurrenceBook$Unfolding" 117 6 yU_addMonth prog_8_method_7_code 5 none [] 1 := ⟨_, _, _, rfl, Or.inl (xm_t 635 (by decide +kernel) rfl), xm_t 637 (by decide +kernel) rfl, xm_p (q := (yU_addMonth, 12)) 22 (by decide +kernel), xm_t 638 (by decide +kernel) rfl, xm_t 21 (by decide +kernel) rfl, ⟨by decide, by decide⟩, by decide +kernel⟩
theorem flU_120 : xj_fl "RecurrenceBook$Unfolding" 120 4 5 := ⟨_, _, _, rfl, by decide, xk4_in, Or.inr ⟨"RecurrenceBook", xm_n 324 (by decide +kernel) rfl⟩⟩
theorem gsU_74 : Cond.fieldLink "RecurrenceBook$Unfolding" 74 xj_fq (xj_fn.getD 0 "") "LRecurrenceBook$Frequency;" ∈ xj_ws := xm_t 599 (by decide +kernel) rfl
theorem gsU_82 : Cond.fieldLink "RecurrenceBook$Unfolding" 82 xj_fq (xj_fn.getD 1 "") "LRecurrenceBook$Frequency;" ∈ xj_ws := xm_t 625 (by decide +kernel) rfl
theorem gsU_88 : Cond.fieldLink "RecurrenceBook$Unfolding" 88 xj_fq (xj_fn.getD 2 "") "LRecurrenceBook$Frequency;" ∈ xj_ws := xm_t 630 (by decide +kernel) rfl
theorem vwU_94 : xj_vw "RecurrenceBook$Unfolding" 94 6 yU_addYears prog_8_method_6_code 4 none [] 0 := ⟨_, _, _, rfl, Or.inl (xm_t 641 (by decide +kernel) rfl), xm_t 643 (by decide +kernel) rfl, xm_p (q := (yU_addYears, 12)) 23 (by decide +kernel), xm_t 644 (by decide +kernel) rfl, xm_t 21 (by decide +kernel) rfl, ⟨by decide, by decide⟩, by decide +kernel⟩
theorem vwU_91 : xj_vw "RecurrenceBook$Unfolding" 91 6 yU_addMonths prog_8_method_5_code 2 none [] 0 := ⟨_, _, _, rfl, Or.inl (xm_t 631 (by decide +kernel) rfl), xm_t 633 (by decide +kernel) rfl, xm_p (q := (yU_addMonths, 12)) 21 (by decide +kernel), xm_t 634 (by decide +kernel) rfl, xm_t 21 (by decide +kernel) rfl, ⟨by decide, by decide⟩, by decide +kernel⟩
theorem flU_70 : xj_fl "RecurrenceBook$Unfolding" 70 4 0 := ⟨_, _, _, rfl, by decide, xk4_in, Or.inr ⟨"RecurrenceBook", xm_n 311 (by decide +kernel) rfl⟩⟩
theorem vwU_85 : xj_vw "RecurrenceBook$Unfolding" 85 6 yU_addWeeks prog_8_method_4_code 4 none [] 0 := ⟨_, _, _, rfl, Or.inl (xm_t 626 (by decide +kernel) rfl), xm_t 628 (by decide +kernel) rfl, xm_p (q := (yU_addWeeks, 12)) 20 (by decide +kernel), xm_t 629 (by decide +kernel) rfl, xm_t 21 (by decide +kernel) rfl, ⟨by decide, by decide⟩, by decide +kernel⟩
theorem vwU_79 : xj_vw "RecurrenceBook$Unfolding" 79 6 yU_addDays prog_8_method_3_code 2 none [] 0 := ⟨_, _, _, rfl, Or.inl (xm_t 600 (by decide +kernel) rfl), xm_t 602 (by decide +kernel) rfl, xm_p (q := (yU_addDays, 12)) 16 (by decide +kernel), xm_t 603 (by decide +kernel) rfl, xm_t 21 (by decide +kernel) rfl, ⟨by decide, by decide⟩, by decide +kernel⟩
theorem fpE_28 (nm : String) : xj_fp "RecurrenceBook$Event" nm 28 2 3 (.int) := ⟨_, _, _, xk2_t, rfl, by decide, xk2_in, xk2_ty, xk2_nm, by decide +kernel, Or.inl ⟨xm_t 83 (by decide +kernel) rfl, Or.inl rfl⟩⟩
theorem fpE_25 (nm : String) : xj_fp "RecurrenceBook$Event" nm 25 2 2 (.int) := ⟨_, _, _, xk2_t, rfl, by decide, xk2_in, xk2_ty, xk2_nm, by decide +kernel, Or.inl ⟨xm_t 81 (by decide +kernel) rfl, Or.inl rfl⟩⟩
theorem fpE_22 (nm : String) : xj_fp "RecurrenceBook$Event" nm 22 2 5 (.int) := ⟨_, _, _, xk2_t, rfl, by decide, xk2_in, xk2_ty, xk2_nm, by decide +kernel, Or.inl ⟨xm_t 86 (by decide +kernel) rfl, Or.inl rfl⟩⟩
theorem fpE_18 (nm : String) : xj_fp "RecurrenceBook$Event" nm 18 2 4 (.int) := ⟨_, _, _, xk2_t, rfl, by decide, xk2_in, xk2_ty, xk2_nm, by decide +kernel, Or.inl ⟨xm_t 84 (by decide +kernel) rfl, Or.inl rfl⟩⟩
theorem xwB_53_84_57 : xj_xw "RecurrenceBook" 53 84 57 "java/lang/IllegalArgumentException" 7 prog_14_method_2_code := ⟨xm_t 194 (by decide +kernel) rfl, xm_t 11 (by decide +kernel) rfl, xm_t 195 (by decide +kernel) rfl, xoB_57, by decide +kernel, ⟨by decide +kernel, by decide +kernel, by decide +kernel, by decide +kernel⟩, 4, _, List.mem_of_getElem? (i := 4) rfl⟩
theorem vwB_108 : xj_vw "RecurrenceBook" 108 2 yE_begin prog_3_method_2_code 4 none [] 3 := ⟨_, _, _, rfl, Or.inl (xm_t 645 (by decide +kernel) rfl), xm_t 646 (by decide +kernel) rfl, xm_t 647 (by decide +kernel) rfl, xm_t 648 (by decide +kernel) rfl, xm_t 5 (by decide +kernel) rfl, ⟨by decide, by decide⟩, by decide +kernel⟩
theorem vwB_104 : xj_vw "RecurrenceBook" 104 6 yU_unfold prog_8_method_2_code 1 (some .int) [] 0 := ⟨_, _, _, rfl, Or.inl (xm_t 587 (by decide +kernel) rfl), xm_t 588 (by decide +kernel) rfl, xm_t 589 (by decide +kernel) rfl, xm_t 590 (by decide +kernel) rfl, xm_t 21 (by decide +kernel) rfl, ⟨by decide, by decide⟩, by decide +kernel⟩
theorem iwB_101 : xj_iw "RecurrenceBook" 101 yU_init prog_8_method_1_code 4 3 := ⟨Or.inl (xm_t 538 (by decide +kernel) rfl), xm_t 539 (by decide +kernel) rfl, xm_t 540 (by decide +kernel) rfl, xm_t 21 (by decide +kernel) rfl, ⟨by decide, by decide⟩, by decide +kernel, rfl⟩
theorem flB_98 : xj_fl "RecurrenceBook" 98 2 0 := ⟨_, _, _, rfl, by decide, xk2_in, Or.inr ⟨"RecurrenceBook", xm_n 78 (by decide +kernel) rfl⟩⟩
theorem flB_94 : xj_fl "RecurrenceBook" 94 5 3 := ⟨_, _, _, rfl, by decide, xk5_in, Or.inr ⟨"RecurrenceBook", xm_n 359 (by decide +kernel) rfl⟩⟩
theorem nkB_92 : xj_nk "RecurrenceBook" 92 6 12 [.null, .int 0, .int 0, .int 0, .int 0, .int 0, .int 0, .null, .int 0, .int 0, .int 0, .int 0] := ⟨_, _, xk6_t, rfl, xk6_in, xk6_ty, xm_t 536 (by decide +kernel) rfl, xm_t 537 (by decide +kernel) rfl, xm_t 21 (by decide +kernel) rfl, by decide +kernel, rfl⟩
theorem xwB_53_90_57 : xj_xw "RecurrenceBook" 53 90 57 "java/lang/IllegalArgumentException" 7 prog_14_method_2_code := ⟨xm_t 194 (by decide +kernel) rfl, xm_t 11 (by decide +kernel) rfl, xm_t 195 (by decide +kernel) rfl, xoB_57, by decide +kernel, ⟨by decide +kernel, by decide +kernel, by decide +kernel, by decide +kernel⟩, 17, _, List.mem_of_getElem? (i := 17) rfl⟩
theorem vwB_86 : xj_vw "RecurrenceBook" 86 5 yQ_readRule prog_6_method_2_code 2 (some .boolean) [] 0 := ⟨_, _, _, rfl, Or.inl (xm_t 374 (by decide +kernel) rfl), xm_t 375 (by decide +kernel) rfl, xm_t 376 (by decide +kernel) rfl, xm_t 377 (by decide +kernel) rfl, xm_t 13 (by decide +kernel) rfl, ⟨by decide, by decide⟩, by decide +kernel⟩
theorem swB_81 : xj_sw "RecurrenceBook" 81 yB_isDay prog_1_method_20_code 1 (some .boolean) [] 1 := ⟨Or.inl (xm_t 369 (by decide +kernel) rfl), xm_t 370 (by decide +kernel) rfl, xm_t 371 (by decide +kernel) rfl, xm_t 1 (by decide +kernel) rfl, ⟨by decide, by decide⟩, by decide +kernel⟩
theorem iwB_78 : xj_iw "RecurrenceBook" 78 yQ_init prog_6_method_1_code 3 2 := ⟨Or.inl (xm_t 299 (by decide +kernel) rfl), xm_t 300 (by decide +kernel) rfl, xm_t 301 (by decide +kernel) rfl, xm_t 13 (by decide +kernel) rfl, ⟨by decide, by decide⟩, by decide +kernel, rfl⟩
theorem nkB_76 : xj_nk "RecurrenceBook" 76 5 4 [.null, .int 0, .int 0, .null] := ⟨_, _, xk5_t, rfl, xk5_in, xk5_ty, xm_t 297 (by decide +kernel) rfl, xm_t 298 (by decide +kernel) rfl, xm_t 13 (by decide +kernel) rfl, by decide +kernel, rfl⟩
theorem xwB_71_73_75 : xj_xw "RecurrenceBook" 71 73 75 "java/lang/IllegalStateException" 7 prog_15_method_2_code := ⟨xm_t 281 (by decide +kernel) rfl, xm_t 12 (by decide +kernel) rfl, xm_t 282 (by decide +kernel) rfl, xoB_75, by decide +kernel, ⟨by decide +kernel, by decide +kernel, by decide +kernel, by decide +kernel⟩, 3, _, List.mem_of_getElem? (i := 3) rfl⟩
theorem xwB_163_178_167 : xj_xw "RecurrenceBook" 163 178 167 "java/util/NoSuchElementException" 13 prog_22_method_4_code := ⟨xm_t 661 (by decide +kernel) rfl, xm_t 22 (by decide +kernel) rfl, xm_t 662 (by decide +kernel) rfl, xoB_167, by decide +kernel, ⟨by decide +kernel, by decide +kernel, by decide +kernel, by decide +kernel⟩, 18, _, List.mem_of_getElem? (i := 18) rfl⟩
theorem flE_28 : xj_fl "RecurrenceBook$Event" 28 2 3 := ⟨_, _, _, rfl, by decide, xk2_in, Or.inl (xm_t 83 (by decide +kernel) rfl)⟩
theorem vwB_116 : xj_vw "RecurrenceBook" 116 2 yE_leaveOut prog_3_method_3_code 4 (some .boolean) [] 1 := ⟨_, _, _, rfl, Or.inl (xm_t 677 (by decide +kernel) rfl), xm_t 678 (by decide +kernel) rfl, xm_t 679 (by decide +kernel) rfl, xm_t 680 (by decide +kernel) rfl, xm_t 5 (by decide +kernel) rfl, ⟨by decide, by decide⟩, by decide +kernel⟩
theorem vwB_112 : xj_vw "RecurrenceBook" 112 0 yB_findEvent prog_1_method_14_code 2 (some (.object "RecurrenceBook$Event")) [] 1 := ⟨_, _, _, rfl, Or.inl (xm_t 657 (by decide +kernel) rfl), xm_t 659 (by decide +kernel) rfl, xm_p (q := (yB_findEvent, 7)) 24 (by decide +kernel), xm_t 660 (by decide +kernel) rfl, xm_t 1 (by decide +kernel) rfl, ⟨by decide, by decide⟩, by decide +kernel⟩
theorem flB_119 : xj_fl "RecurrenceBook" 119 2 2 := ⟨_, _, _, rfl, by decide, xk2_in, Or.inr ⟨"RecurrenceBook", xm_n 82 (by decide +kernel) rfl⟩⟩
theorem xwB_163_180_167 : xj_xw "RecurrenceBook" 163 180 167 "java/util/NoSuchElementException" 13 prog_22_method_4_code := ⟨xm_t 661 (by decide +kernel) rfl, xm_t 22 (by decide +kernel) rfl, xm_t 662 (by decide +kernel) rfl, xoB_167, by decide +kernel, ⟨by decide +kernel, by decide +kernel, by decide +kernel, by decide +kernel⟩, 19, _, List.mem_of_getElem? (i := 19) rfl⟩
theorem vwB_122 : xj_vw "RecurrenceBook" 122 0 yB_findTime prog_1_method_15_code 4 (some .int) [] 2 := ⟨_, _, _, rfl, Or.inl (xm_t 695 (by decide +kernel) rfl), xm_t 697 (by decide +kernel) rfl, xm_p (q := (yB_findTime, 7)) 25 (by decide +kernel), xm_t 698 (by decide +kernel) rfl, xm_t 1 (by decide +kernel) rfl, ⟨by decide, by decide⟩, by decide +kernel⟩
theorem vwB_129 : xj_vw "RecurrenceBook" 129 1 yZ_momentOf prog_9_method_5_code 2 (some .int) [] 1 := ⟨_, _, _, rfl, Or.inl (xm_t 707 (by decide +kernel) rfl), xm_t 270 (by decide +kernel) rfl, xm_t 271 (by decide +kernel) rfl, xm_t 272 (by decide +kernel) rfl, xm_t 2 (by decide +kernel) rfl, ⟨by decide, by decide⟩, by decide +kernel⟩
theorem flB_126 : xj_fl "RecurrenceBook" 126 2 4 := ⟨_, _, _, rfl, by decide, xk2_in, Or.inr ⟨"RecurrenceBook", xm_n 85 (by decide +kernel) rfl⟩⟩
theorem vwB_133 : xj_vw "RecurrenceBook" 133 1 yZ_offsetAt prog_9_method_4_code 2 (some .int) [] 1 := ⟨_, _, _, rfl, Or.inl (xm_t 156 (by decide +kernel) rfl), xm_t 157 (by decide +kernel) rfl, xm_t 158 (by decide +kernel) rfl, xm_t 159 (by decide +kernel) rfl, xm_t 2 (by decide +kernel) rfl, ⟨by decide, by decide⟩, by decide +kernel⟩
theorem swB_136 : xj_sw "RecurrenceBook" 136 yD_dayOf prog_2_method_6_code 5 (some .int) [] 3 := ⟨Or.inl (xm_t 177 (by decide +kernel) rfl), xm_t 178 (by decide +kernel) rfl, xm_t 179 (by decide +kernel) rfl, xm_t 3 (by decide +kernel) rfl, ⟨by decide, by decide⟩, by decide +kernel⟩
theorem fpS_25 (nm : String) : xj_fp "RecurrenceBook$Spans" nm 25 3 4 (.int) := ⟨_, _, _, xk3_t, rfl, by decide, xk3_in, xk3_ty, xk3_nm, by decide +kernel, Or.inl ⟨xm_t 114 (by decide +kernel) rfl, Or.inl rfl⟩⟩
theorem fpS_22 (nm : String) : xj_fp "RecurrenceBook$Spans" nm 22 3 3 (.int) := ⟨_, _, _, xk3_t, rfl, by decide, xk3_in, xk3_ty, xk3_nm, by decide +kernel, Or.inl ⟨xm_t 113 (by decide +kernel) rfl, Or.inl rfl⟩⟩
theorem flB_38 : xj_fl "RecurrenceBook" 38 0 5 := ⟨_, _, _, rfl, by decide, xk0_in, Or.inl (xm_t 131 (by decide +kernel) rfl)⟩
theorem flB_153 : xj_fl "RecurrenceBook" 153 2 1 := ⟨_, _, _, rfl, by decide, xk2_in, Or.inr ⟨"RecurrenceBook", xm_n 80 (by decide +kernel) rfl⟩⟩
theorem flS_18 : xj_fl "RecurrenceBook$Spans" 18 3 2 := ⟨_, _, _, rfl, by decide, xk3_in, Or.inl (xm_t 111 (by decide +kernel) rfl)⟩
theorem flS_15 : xj_fl "RecurrenceBook$Spans" 15 3 1 := ⟨_, _, _, rfl, by decide, xk3_in, Or.inl (xm_t 109 (by decide +kernel) rfl)⟩
theorem flS_9 : xj_fl "RecurrenceBook$Spans" 9 3 0 := ⟨_, _, _, rfl, by decide, xk3_in, Or.inl (xm_t 107 (by decide +kernel) rfl)⟩
theorem swS_28 : xj_sw "RecurrenceBook$Spans" 28 yJ_max prog_16_method_65_code 2 (some .int) [] 2 := ⟨Or.inl (xm_t 729 (by decide +kernel) rfl), xm_t 171 (by decide +kernel) rfl, xm_t 172 (by decide +kernel) rfl, xm_t 4 (by decide +kernel) rfl, ⟨by decide, by decide⟩, by decide +kernel⟩
theorem swS_34 : xj_sw "RecurrenceBook$Spans" 34 yJ_min prog_16_method_69_code 2 (some .int) [] 2 := ⟨Or.inl (xm_t 730 (by decide +kernel) rfl), xm_t 168 (by decide +kernel) rfl, xm_t 169 (by decide +kernel) rfl, xm_t 4 (by decide +kernel) rfl, ⟨by decide, by decide⟩, by decide +kernel⟩
theorem flS_25 : xj_fl "RecurrenceBook$Spans" 25 3 4 := ⟨_, _, _, rfl, by decide, xk3_in, Or.inl (xm_t 114 (by decide +kernel) rfl)⟩
theorem flS_22 : xj_fl "RecurrenceBook$Spans" 22 3 3 := ⟨_, _, _, rfl, by decide, xk3_in, Or.inl (xm_t 113 (by decide +kernel) rfl)⟩
theorem flB_162 : xj_fl "RecurrenceBook" 162 3 2 := ⟨_, _, _, rfl, by decide, xk3_in, Or.inr ⟨"RecurrenceBook", xm_n 112 (by decide +kernel) rfl⟩⟩
theorem flB_45 : xj_fl "RecurrenceBook" 45 0 6 := ⟨_, _, _, rfl, by decide, xk0_in, Or.inl (xm_t 132 (by decide +kernel) rfl)⟩
theorem vwB_159 : xj_vw "RecurrenceBook" 159 3 yS_add prog_7_method_3_code 5 none [] 2 := ⟨_, _, _, rfl, Or.inl (xm_t 725 (by decide +kernel) rfl), xm_t 726 (by decide +kernel) rfl, xm_t 727 (by decide +kernel) rfl, xm_t 728 (by decide +kernel) rfl, xm_t 6 (by decide +kernel) rfl, ⟨by decide, by decide⟩, by decide +kernel⟩
theorem flB_156 : xj_fl "RecurrenceBook" 156 2 5 := ⟨_, _, _, rfl, by decide, xk2_in, Or.inr ⟨"RecurrenceBook", xm_n 87 (by decide +kernel) rfl⟩⟩
theorem vwB_150 : xj_vw "RecurrenceBook" 150 0 yB_earliestHead prog_1_method_16_code 5 (some .int) [] 0 := ⟨_, _, _, rfl, Or.inl (xm_t 721 (by decide +kernel) rfl), xm_t 723 (by decide +kernel) rfl, xm_p (q := (yB_earliestHead, 7)) 26 (by decide +kernel), xm_t 724 (by decide +kernel) rfl, xm_t 1 (by decide +kernel) rfl, ⟨by decide, by decide⟩, by decide +kernel⟩
theorem xwB_53_144_57 : xj_xw "RecurrenceBook" 53 144 57 "java/lang/IllegalArgumentException" 7 prog_14_method_2_code := ⟨xm_t 194 (by decide +kernel) rfl, xm_t 11 (by decide +kernel) rfl, xm_t 195 (by decide +kernel) rfl, xoB_57, by decide +kernel, ⟨by decide +kernel, by decide +kernel, by decide +kernel, by decide +kernel⟩, 20, _, List.mem_of_getElem? (i := 20) rfl⟩
theorem kB_142 : Cond.constantLong "RecurrenceBook" 142 200000 ∈ xj_ws := xm_t 715 (by decide +kernel) rfl
theorem vwB_146 : xj_vw "RecurrenceBook" 146 3 yS_open prog_7_method_2_code 3 none [] 2 := ⟨_, _, _, rfl, Or.inl (xm_t 717 (by decide +kernel) rfl), xm_t 718 (by decide +kernel) rfl, xm_t 719 (by decide +kernel) rfl, xm_t 720 (by decide +kernel) rfl, xm_t 6 (by decide +kernel) rfl, ⟨by decide, by decide⟩, by decide +kernel⟩
theorem xwB_163_165_167 : xj_xw "RecurrenceBook" 163 165 167 "java/util/NoSuchElementException" 13 prog_22_method_4_code := ⟨xm_t 661 (by decide +kernel) rfl, xm_t 22 (by decide +kernel) rfl, xm_t 662 (by decide +kernel) rfl, xoB_167, by decide +kernel, ⟨by decide +kernel, by decide +kernel, by decide +kernel, by decide +kernel⟩, 21, _, List.mem_of_getElem? (i := 21) rfl⟩
theorem flB_171 : xj_fl "RecurrenceBook" 171 3 0 := ⟨_, _, _, rfl, by decide, xk3_in, Or.inr ⟨"RecurrenceBook", xm_n 108 (by decide +kernel) rfl⟩⟩
theorem flB_168 : xj_fl "RecurrenceBook" 168 3 1 := ⟨_, _, _, rfl, by decide, xk3_in, Or.inr ⟨"RecurrenceBook", xm_n 110 (by decide +kernel) rfl⟩⟩
theorem swB_182 : xj_sw "RecurrenceBook" 182 yJ_max prog_16_method_65_code 2 (some .int) [] 2 := ⟨Or.inl (xm_t 749 (by decide +kernel) rfl), xm_t 171 (by decide +kernel) rfl, xm_t 172 (by decide +kernel) rfl, xm_t 4 (by decide +kernel) rfl, ⟨by decide, by decide⟩, by decide +kernel⟩
theorem swB_174 : xj_sw "RecurrenceBook" 174 yB_firstShared prog_1_method_17_code 6 (some .int) [] 2 := ⟨Or.inl (xm_t 746 (by decide +kernel) rfl), xm_t 747 (by decide +kernel) rfl, xm_t 748 (by decide +kernel) rfl, xm_t 1 (by decide +kernel) rfl, ⟨by decide, by decide⟩, by decide +kernel⟩
theorem swM_74 : xj_sw "RecurrenceBookModel" 74 yM_monthLength prog_11_method_5_code 2 (some .int) [] 2 := ⟨Or.inl (xm_t 769 (by decide +kernel) rfl), xm_t 770 (by decide +kernel) rfl, xm_t 771 (by decide +kernel) rfl, xm_t 7 (by decide +kernel) rfl, ⟨by decide, by decide⟩, by decide +kernel⟩
theorem swM_67 : xj_sw "RecurrenceBookModel" 67 yM_yearBegin prog_11_method_4_code 1 (some .int) [] 1 := ⟨Or.inl (xm_t 766 (by decide +kernel) rfl), xm_t 767 (by decide +kernel) rfl, xm_t 768 (by decide +kernel) rfl, xm_t 7 (by decide +kernel) rfl, ⟨by decide, by decide⟩, by decide +kernel⟩
theorem swM_89 : xj_sw "RecurrenceBookModel" 89 yM_weekday prog_11_method_9_code 1 (some .int) [] 1 := ⟨Or.inl (xm_t 772 (by decide +kernel) rfl), xm_t 773 (by decide +kernel) rfl, xm_t 774 (by decide +kernel) rfl, xm_t 7 (by decide +kernel) rfl, ⟨by decide, by decide⟩, by decide +kernel⟩
theorem swM_85 : xj_sw "RecurrenceBookModel" 85 yM_dayOf prog_11_method_7_code 5 (some .int) [] 3 := ⟨Or.inl (xm_t 763 (by decide +kernel) rfl), xm_t 764 (by decide +kernel) rfl, xm_t 765 (by decide +kernel) rfl, xm_t 7 (by decide +kernel) rfl, ⟨by decide, by decide⟩, by decide +kernel⟩
theorem flM_98 : xj_fl "RecurrenceBookModel" 98 7 4 := ⟨_, _, _, rfl, by decide, xk7_in, Or.inl (xm_t 779 (by decide +kernel) rfl)⟩
theorem swM_92 : xj_sw "RecurrenceBookModel" 92 yM_sunday prog_11_method_11_code 5 (some .int) [] 3 := ⟨Or.inl (xm_t 760 (by decide +kernel) rfl), xm_t 761 (by decide +kernel) rfl, xm_t 762 (by decide +kernel) rfl, xm_t 7 (by decide +kernel) rfl, ⟨by decide, by decide⟩, by decide +kernel⟩
theorem flM_16 : xj_fl "RecurrenceBookModel" 16 7 6 := ⟨_, _, _, rfl, by decide, xk7_in, Or.inl (xm_t 781 (by decide +kernel) rfl)⟩
theorem flM_95 : xj_fl "RecurrenceBookModel" 95 7 3 := ⟨_, _, _, rfl, by decide, xk7_in, Or.inl (xm_t 778 (by decide +kernel) rfl)⟩
theorem flM_13 : xj_fl "RecurrenceBookModel" 13 7 5 := ⟨_, _, _, rfl, by decide, xk7_in, Or.inl (xm_t 780 (by decide +kernel) rfl)⟩
theorem vwM_56 : xj_vw "RecurrenceBookModel" 56 7 yM_changes prog_11_method_12_code 6 none [] 4 := ⟨_, _, _, rfl, Or.inl (xm_t 756 (by decide +kernel) rfl), xm_t 758 (by decide +kernel) rfl, xm_p (q := (yM_changes, 36)) 27 (by decide +kernel), xm_t 759 (by decide +kernel) rfl, xm_t 7 (by decide +kernel) rfl, ⟨by decide, by decide⟩, by decide +kernel⟩
theorem fpM_53 : xj_fp "RecurrenceBookModel" "<init>" 53 7 35 (.array (.int)) := ⟨_, _, _, xk7_t, rfl, by decide, xk7_in, xk7_ty, xk7_nm, by decide +kernel, Or.inl ⟨xm_t 810 (by decide +kernel) rfl, Or.inr ⟨rfl, rfl, rfl⟩⟩⟩
theorem fpM_50 : xj_fp "RecurrenceBookModel" "<init>" 50 7 34 (.array (.int)) := ⟨_, _, _, xk7_t, rfl, by decide, xk7_in, xk7_ty, xk7_nm, by decide +kernel, Or.inl ⟨xm_t 809 (by decide +kernel) rfl, Or.inr ⟨rfl, rfl, rfl⟩⟩⟩
theorem fpM_47 : xj_fp "RecurrenceBookModel" "<init>" 47 7 24 (.array (.int)) := ⟨_, _, _, xk7_t, rfl, by decide, xk7_in, xk7_ty, xk7_nm, by decide +kernel, Or.inl ⟨xm_t 799 (by decide +kernel) rfl, Or.inr ⟨rfl, rfl, rfl⟩⟩⟩
theorem fpM_44 : xj_fp "RecurrenceBookModel" "<init>" 44 7 23 (.array (.int)) := ⟨_, _, _, xk7_t, rfl, by decide, xk7_in, xk7_ty, xk7_nm, by decide +kernel, Or.inl ⟨xm_t 798 (by decide +kernel) rfl, Or.inr ⟨rfl, rfl, rfl⟩⟩⟩
theorem fpM_41 : xj_fp "RecurrenceBookModel" "<init>" 41 7 21 (.array (.int)) := ⟨_, _, _, xk7_t, rfl, by decide, xk7_in, xk7_ty, xk7_nm, by decide +kernel, Or.inl ⟨xm_t 796 (by decide +kernel) rfl, Or.inr ⟨rfl, rfl, rfl⟩⟩⟩
theorem fpM_37 : xj_fp "RecurrenceBookModel" "<init>" 37 7 20 (.array (.boolean)) := ⟨_, _, _, xk7_t, rfl, by decide, xk7_in, xk7_ty, xk7_nm, by decide +kernel, Or.inl ⟨xm_t 795 (by decide +kernel) rfl, Or.inr ⟨rfl, rfl, rfl⟩⟩⟩
theorem aw_boolean : Cond.arrayClass .boolean ∈ xj_ws := xm_t 884 (by decide +kernel) rfl
theorem fpM_34 : xj_fp "RecurrenceBookModel" "<init>" 34 7 13 (.array (.int)) := ⟨_, _, _, xk7_t, rfl, by decide, xk7_in, xk7_ty, xk7_nm, by decide +kernel, Or.inl ⟨xm_t 788 (by decide +kernel) rfl, Or.inr ⟨rfl, rfl, rfl⟩⟩⟩
theorem fpM_31 : xj_fp "RecurrenceBookModel" "<init>" 31 7 12 (.array (.int)) := ⟨_, _, _, xk7_t, rfl, by decide, xk7_in, xk7_ty, xk7_nm, by decide +kernel, Or.inl ⟨xm_t 787 (by decide +kernel) rfl, Or.inr ⟨rfl, rfl, rfl⟩⟩⟩
theorem fpM_28 : xj_fp "RecurrenceBookModel" "<init>" 28 7 11 (.array (.int)) := ⟨_, _, _, xk7_t, rfl, by decide, xk7_in, xk7_ty, xk7_nm, by decide +kernel, Or.inl ⟨xm_t 786 (by decide +kernel) rfl, Or.inr ⟨rfl, rfl, rfl⟩⟩⟩
theorem fpM_25 : xj_fp "RecurrenceBookModel" "<init>" 25 7 10 (.array (.int)) := ⟨_, _, _, xk7_t, rfl, by decide, xk7_in, xk7_ty, xk7_nm, by decide +kernel, Or.inl ⟨xm_t 785 (by decide +kernel) rfl, Or.inr ⟨rfl, rfl, rfl⟩⟩⟩
theorem fpM_22 : xj_fp "RecurrenceBookModel" "<init>" 22 7 9 (.array (.int)) := ⟨_, _, _, xk7_t, rfl, by decide, xk7_in, xk7_ty, xk7_nm, by decide +kernel, Or.inl ⟨xm_t 784 (by decide +kernel) rfl, Or.inr ⟨rfl, rfl, rfl⟩⟩⟩
theorem fpM_19 : xj_fp "RecurrenceBookModel" "<init>" 19 7 8 (.array (.int)) := ⟨_, _, _, xk7_t, rfl, by decide, xk7_in, xk7_ty, xk7_nm, by decide +kernel, Or.inl ⟨xm_t 783 (by decide +kernel) rfl, Or.inr ⟨rfl, rfl, rfl⟩⟩⟩
theorem fpM_16 : xj_fp "RecurrenceBookModel" "<init>" 16 7 6 (.array (.int)) := ⟨_, _, _, xk7_t, rfl, by decide, xk7_in, xk7_ty, xk7_nm, by decide +kernel, Or.inl ⟨xm_t 781 (by decide +kernel) rfl, Or.inr ⟨rfl, rfl, rfl⟩⟩⟩
theorem fpM_13 : xj_fp "RecurrenceBookModel" "<init>" 13 7 5 (.array (.int)) := ⟨_, _, _, xk7_t, rfl, by decide, xk7_in, xk7_ty, xk7_nm, by decide +kernel, Or.inl ⟨xm_t 780 (by decide +kernel) rfl, Or.inr ⟨rfl, rfl, rfl⟩⟩⟩
theorem fpM_7 : xj_fp "RecurrenceBookModel" "<init>" 7 7 1 (.array (.int)) := ⟨_, _, _, xk7_t, rfl, by decide, xk7_in, xk7_ty, xk7_nm, by decide +kernel, Or.inl ⟨xm_t 776 (by decide +kernel) rfl, Or.inr ⟨rfl, rfl, rfl⟩⟩⟩
theorem owM_1 : Cond.methodLink "RecurrenceBookModel" 1 Lib.objectInit ∈ xj_ws := xm_t 755 (by decide +kernel) rfl
theorem flM_60 : xj_fl "RecurrenceBookModel" 60 7 0 := ⟨_, _, _, rfl, by decide, xk7_in, Or.inl (xm_t 775 (by decide +kernel) rfl)⟩
theorem fpM_60 (nm : String) : xj_fp "RecurrenceBookModel" nm 60 7 0 (.int) := ⟨_, _, _, xk7_t, rfl, by decide, xk7_in, xk7_ty, xk7_nm, by decide +kernel, Or.inl ⟨xm_t 775 (by decide +kernel) rfl, Or.inl rfl⟩⟩
theorem fpM_78 (nm : String) : xj_fp "RecurrenceBookModel" nm 78 7 28 (.int) := ⟨_, _, _, xk7_t, rfl, by decide, xk7_in, xk7_ty, xk7_nm, by decide +kernel, Or.inl ⟨xm_t 803 (by decide +kernel) rfl, Or.inl rfl⟩⟩
theorem fpM_71 (nm : String) : xj_fp "RecurrenceBookModel" nm 71 7 27 (.int) := ⟨_, _, _, xk7_t, rfl, by decide, xk7_in, xk7_ty, xk7_nm, by decide +kernel, Or.inl ⟨xm_t 802 (by decide +kernel) rfl, Or.inl rfl⟩⟩
theorem flM_71 : xj_fl "RecurrenceBookModel" 71 7 27 := ⟨_, _, _, rfl, by decide, xk7_in, Or.inl (xm_t 802 (by decide +kernel) rfl)⟩
theorem flM_64 : xj_fl "RecurrenceBookModel" 64 7 26 := ⟨_, _, _, rfl, by decide, xk7_in, Or.inl (xm_t 801 (by decide +kernel) rfl)⟩
theorem fpM_64 (nm : String) : xj_fp "RecurrenceBookModel" nm 64 7 26 (.int) := ⟨_, _, _, xk7_t, rfl, by decide, xk7_in, xk7_ty, xk7_nm, by decide +kernel, Or.inl ⟨xm_t 801 (by decide +kernel) rfl, Or.inl rfl⟩⟩
theorem swM_81 : xj_sw "RecurrenceBookModel" 81 yM_isDate prog_11_method_8_code 3 (some .boolean) [] 3 := ⟨Or.inl (xm_t 893 (by decide +kernel) rfl), xm_t 894 (by decide +kernel) rfl, xm_t 895 (by decide +kernel) rfl, xm_t 7 (by decide +kernel) rfl, ⟨by decide, by decide⟩, by decide +kernel⟩
theorem fpM_98 (nm : String) : xj_fp "RecurrenceBookModel" nm 98 7 4 (.int) := ⟨_, _, _, xk7_t, rfl, by decide, xk7_in, xk7_ty, xk7_nm, by decide +kernel, Or.inl ⟨xm_t 779 (by decide +kernel) rfl, Or.inl rfl⟩⟩
theorem fpM_95 (nm : String) : xj_fp "RecurrenceBookModel" nm 95 7 3 (.int) := ⟨_, _, _, xk7_t, rfl, by decide, xk7_in, xk7_ty, xk7_nm, by decide +kernel, Or.inl ⟨xm_t 778 (by decide +kernel) rfl, Or.inl rfl⟩⟩
theorem vwM_104 : xj_vw "RecurrenceBookModel" 104 7 yM_fails prog_11_method_3_code 2 (some .boolean) [] 1 := ⟨_, _, _, rfl, Or.inl (xm_t 903 (by decide +kernel) rfl), xm_t 905 (by decide +kernel) rfl, xm_p (q := (yM_fails, 36)) 28 (by decide +kernel), xm_t 906 (by decide +kernel) rfl, xm_t 7 (by decide +kernel) rfl, ⟨by decide, by decide⟩, by decide +kernel⟩
theorem swM_101 : xj_sw "RecurrenceBookModel" 101 yM_inside prog_11_method_13_code 3 (some .boolean) [] 3 := ⟨Or.inl (xm_t 900 (by decide +kernel) rfl), xm_t 901 (by decide +kernel) rfl, xm_t 902 (by decide +kernel) rfl, xm_t 7 (by decide +kernel) rfl, ⟨by decide, by decide⟩, by decide +kernel⟩
theorem vwM_108 : xj_vw "RecurrenceBookModel" 108 7 yM_inSummer prog_11_method_15_code 4 (some .boolean) [] 1 := ⟨_, _, _, rfl, Or.inl (xm_t 911 (by decide +kernel) rfl), xm_t 913 (by decide +kernel) rfl, xm_p (q := (yM_inSummer, 36)) 29 (by decide +kernel), xm_t 914 (by decide +kernel) rfl, xm_t 7 (by decide +kernel) rfl, ⟨by decide, by decide⟩, by decide +kernel⟩
theorem fpM_112 (nm : String) : xj_fp "RecurrenceBookModel" nm 112 7 2 (.int) := ⟨_, _, _, xk7_t, rfl, by decide, xk7_in, xk7_ty, xk7_nm, by decide +kernel, Or.inl ⟨xm_t 777 (by decide +kernel) rfl, Or.inl rfl⟩⟩
theorem flM_112 : xj_fl "RecurrenceBookModel" 112 7 2 := ⟨_, _, _, rfl, by decide, xk7_in, Or.inl (xm_t 777 (by decide +kernel) rfl)⟩
theorem flM_7 : xj_fl "RecurrenceBookModel" 7 7 1 := ⟨_, _, _, rfl, by decide, xk7_in, Or.inl (xm_t 776 (by decide +kernel) rfl)⟩
theorem flM_115 : xj_fl "RecurrenceBookModel" 115 7 14 := ⟨_, _, _, rfl, by decide, xk7_in, Or.inl (xm_t 789 (by decide +kernel) rfl)⟩
theorem fpM_115 (nm : String) : xj_fp "RecurrenceBookModel" nm 115 7 14 (.int) := ⟨_, _, _, xk7_t, rfl, by decide, xk7_in, xk7_ty, xk7_nm, by decide +kernel, Or.inl ⟨xm_t 789 (by decide +kernel) rfl, Or.inl rfl⟩⟩
theorem vwM_118 : xj_vw "RecurrenceBookModel" 118 7 yM_look prog_11_method_19_code 1 (some .int) [] 0 := ⟨_, _, _, rfl, Or.inl (xm_t 936 (by decide +kernel) rfl), xm_t 938 (by decide +kernel) rfl, xm_p (q := (yM_look, 36)) 33 (by decide +kernel), xm_t 939 (by decide +kernel) rfl, xm_t 7 (by decide +kernel) rfl, ⟨by decide, by decide⟩, by decide +kernel⟩
theorem kM_122 : Cond.constantLong "RecurrenceBookModel" 122 32 ∈ xj_ws := xm_t 940 (by decide +kernel) rfl
theorem kM_124 : Cond.constantLong "RecurrenceBookModel" 124 64 ∈ xj_ws := xm_t 941 (by decide +kernel) rfl
theorem flM_138 : xj_fl "RecurrenceBookModel" 138 7 15 := ⟨_, _, _, rfl, by decide, xk7_in, Or.inl (xm_t 790 (by decide +kernel) rfl)⟩
theorem fpM_138 (nm : String) : xj_fp "RecurrenceBookModel" nm 138 7 15 (.int) := ⟨_, _, _, xk7_t, rfl, by decide, xk7_in, xk7_ty, xk7_nm, by decide +kernel, Or.inl ⟨xm_t 790 (by decide +kernel) rfl, Or.inl rfl⟩⟩
theorem kM_130 : Cond.constantLong "RecurrenceBookModel" 130 4236697 ∈ xj_ws := xm_t 951 (by decide +kernel) rfl
theorem kM_132 : Cond.constantLong "RecurrenceBookModel" 132 777170329 ∈ xj_ws := xm_t 952 (by decide +kernel) rfl
theorem kM_134 : Cond.constantLong "RecurrenceBookModel" 134 14477304217 ∈ xj_ws := xm_t 953 (by decide +kernel) rfl
theorem kM_136 : Cond.constantLong "RecurrenceBookModel" 136 844155289 ∈ xj_ws := xm_t 954 (by decide +kernel) rfl
theorem vwM_126 : xj_vw "RecurrenceBookModel" 126 7 yM_letters prog_11_method_21_code 5 (some .long) [] 1 := ⟨_, _, _, rfl, Or.inl (xm_t 932 (by decide +kernel) rfl), xm_t 934 (by decide +kernel) rfl, xm_p (q := (yM_letters, 36)) 32 (by decide +kernel), xm_t 935 (by decide +kernel) rfl, xm_t 7 (by decide +kernel) rfl, ⟨by decide, by decide⟩, by decide +kernel⟩
theorem fpM_144 (nm : String) : xj_fp "RecurrenceBookModel" nm 144 7 18 (.int) := ⟨_, _, _, xk7_t, rfl, by decide, xk7_in, xk7_ty, xk7_nm, by decide +kernel, Or.inl ⟨xm_t 793 (by decide +kernel) rfl, Or.inl rfl⟩⟩
theorem vwM_141 : xj_vw "RecurrenceBookModel" 141 7 yM_digits prog_11_method_22_code 4 (some .int) [] 1 := ⟨_, _, _, rfl, Or.inl (xm_t 956 (by decide +kernel) rfl), xm_t 958 (by decide +kernel) rfl, xm_p (q := (yM_digits, 36)) 36 (by decide +kernel), xm_t 959 (by decide +kernel) rfl, xm_t 7 (by decide +kernel) rfl, ⟨by decide, by decide⟩, by decide +kernel⟩
theorem kM_147 : Cond.constantLong "RecurrenceBookModel" 147 431 ∈ xj_ws := xm_t 978 (by decide +kernel) rfl
theorem kM_149 : Cond.constantLong "RecurrenceBookModel" 149 661 ∈ xj_ws := xm_t 979 (by decide +kernel) rfl
theorem kM_151 : Cond.constantLong "RecurrenceBookModel" 151 741 ∈ xj_ws := xm_t 980 (by decide +kernel) rfl
theorem kM_153 : Cond.constantLong "RecurrenceBookModel" 153 648 ∈ xj_ws := xm_t 981 (by decide +kernel) rfl
theorem kM_155 : Cond.constantLong "RecurrenceBookModel" 155 210 ∈ xj_ws := xm_t 982 (by decide +kernel) rfl
theorem kM_157 : Cond.constantLong "RecurrenceBookModel" 157 609 ∈ xj_ws := xm_t 983 (by decide +kernel) rfl
theorem kM_159 : Cond.constantLong "RecurrenceBookModel" 159 629 ∈ xj_ws := xm_t 984 (by decide +kernel) rfl
theorem fpM_168 (nm : String) : xj_fp "RecurrenceBookModel" nm 168 7 25 (.int) := ⟨_, _, _, xk7_t, rfl, by decide, xk7_in, xk7_ty, xk7_nm, by decide +kernel, Or.inl ⟨xm_t 800 (by decide +kernel) rfl, Or.inl rfl⟩⟩
theorem flM_168 : xj_fl "RecurrenceBookModel" 168 7 25 := ⟨_, _, _, rfl, by decide, xk7_in, Or.inl (xm_t 800 (by decide +kernel) rfl)⟩
theorem flM_47 : xj_fl "RecurrenceBookModel" 47 7 24 := ⟨_, _, _, rfl, by decide, xk7_in, Or.inl (xm_t 799 (by decide +kernel) rfl)⟩
theorem flM_44 : xj_fl "RecurrenceBookModel" 44 7 23 := ⟨_, _, _, rfl, by decide, xk7_in, Or.inl (xm_t 798 (by decide +kernel) rfl)⟩
theorem swM_164 : xj_sw "RecurrenceBookModel" 164 yM_weekdayOf prog_11_method_25_code 2 (some .int) [] 1 := ⟨Or.inl (xm_t 975 (by decide +kernel) rfl), xm_t 976 (by decide +kernel) rfl, xm_t 977 (by decide +kernel) rfl, xm_t 7 (by decide +kernel) rfl, ⟨by decide, by decide⟩, by decide +kernel⟩
theorem vwM_161 : xj_vw "RecurrenceBookModel" 161 7 yM_takes prog_11_method_20_code 3 (some .boolean) [] 1 := ⟨_, _, _, rfl, Or.inl (xm_t 942 (by decide +kernel) rfl), xm_t 944 (by decide +kernel) rfl, xm_p (q := (yM_takes, 36)) 34 (by decide +kernel), xm_t 945 (by decide +kernel) rfl, xm_t 7 (by decide +kernel) rfl, ⟨by decide, by decide⟩, by decide +kernel⟩
theorem fpM_171 (nm : String) : xj_fp "RecurrenceBookModel" nm 171 7 22 (.int) := ⟨_, _, _, xk7_t, rfl, by decide, xk7_in, xk7_ty, xk7_nm, by decide +kernel, Or.inl ⟨xm_t 797 (by decide +kernel) rfl, Or.inl rfl⟩⟩
theorem flM_171 : xj_fl "RecurrenceBookModel" 171 7 22 := ⟨_, _, _, rfl, by decide, xk7_in, Or.inl (xm_t 797 (by decide +kernel) rfl)⟩
theorem flM_41 : xj_fl "RecurrenceBookModel" 41 7 21 := ⟨_, _, _, rfl, by decide, xk7_in, Or.inl (xm_t 796 (by decide +kernel) rfl)⟩
theorem vwM_182 : xj_vw "RecurrenceBookModel" 182 7 yM_readMonthDay prog_11_method_27_code 3 (some .boolean) [] 0 := ⟨_, _, _, rfl, Or.inl (xm_t 985 (by decide +kernel) rfl), xm_t 987 (by decide +kernel) rfl, xm_p (q := (yM_readMonthDay, 36)) 40 (by decide +kernel), xm_t 988 (by decide +kernel) rfl, xm_t 7 (by decide +kernel) rfl, ⟨by decide, by decide⟩, by decide +kernel⟩
theorem vwM_178 : xj_vw "RecurrenceBookModel" 178 7 yM_readWeekday prog_11_method_26_code 4 (some .boolean) [] 0 := ⟨_, _, _, rfl, Or.inl (xm_t 971 (by decide +kernel) rfl), xm_t 973 (by decide +kernel) rfl, xm_p (q := (yM_readWeekday, 36)) 39 (by decide +kernel), xm_t 974 (by decide +kernel) rfl, xm_t 7 (by decide +kernel) rfl, ⟨by decide, by decide⟩, by decide +kernel⟩
theorem fpM_174 (nm : String) : xj_fp "RecurrenceBookModel" nm 174 7 19 (.boolean) := ⟨_, _, _, xk7_t, rfl, by decide, xk7_in, xk7_ty, xk7_nm, by decide +kernel, Or.inl ⟨xm_t 794 (by decide +kernel) rfl, Or.inl rfl⟩⟩
theorem flM_37 : xj_fl "RecurrenceBookModel" 37 7 20 := ⟨_, _, _, rfl, by decide, xk7_in, Or.inl (xm_t 795 (by decide +kernel) rfl)⟩
theorem kM_185 : Cond.constantLong "RecurrenceBookModel" 185 215217 ∈ xj_ws := xm_t 946 (by decide +kernel) rfl
theorem kM_190 : Cond.constantLong "RecurrenceBookModel" 190 324946974764 ∈ xj_ws := xm_t 955 (by decide +kernel) rfl
theorem kM_195 : Cond.constantLong "RecurrenceBookModel" 195 3659220 ∈ xj_ws := xm_t 960 (by decide +kernel) rfl
theorem kM_200 : Cond.constantLong "RecurrenceBookModel" 200 22499628 ∈ xj_ws := xm_t 961 (by decide +kernel) rfl
theorem kM_205 : Cond.constantLong "RecurrenceBookModel" 205 2920505 ∈ xj_ws := xm_t 966 (by decide +kernel) rfl
theorem kM_210 : Cond.constantLong "RecurrenceBookModel" 210 98319808598073 ∈ xj_ws := xm_t 989 (by decide +kernel) rfl
theorem kM_212 : Cond.constantLong "RecurrenceBookModel" 212 3000482440 ∈ xj_ws := xm_t 990 (by decide +kernel) rfl
theorem vwM_207 : xj_vw "RecurrenceBookModel" 207 7 yM_readList prog_11_method_28_code 5 (some .boolean) [] 1 := ⟨_, _, _, rfl, Or.inl (xm_t 967 (by decide +kernel) rfl), xm_t 969 (by decide +kernel) rfl, xm_p (q := (yM_readList, 36)) 38 (by decide +kernel), xm_t 970 (by decide +kernel) rfl, xm_t 7 (by decide +kernel) rfl, ⟨by decide, by decide⟩, by decide +kernel⟩
theorem vwM_202 : xj_vw "RecurrenceBookModel" 202 7 yM_readUntil prog_11_method_24_code 6 (some .boolean) [] 0 := ⟨_, _, _, rfl, Or.inl (xm_t 962 (by decide +kernel) rfl), xm_t 964 (by decide +kernel) rfl, xm_p (q := (yM_readUntil, 36)) 37 (by decide +kernel), xm_t 965 (by decide +kernel) rfl, xm_t 7 (by decide +kernel) rfl, ⟨by decide, by decide⟩, by decide +kernel⟩
theorem flM_197 : xj_fl "RecurrenceBookModel" 197 7 17 := ⟨_, _, _, rfl, by decide, xk7_in, Or.inl (xm_t 792 (by decide +kernel) rfl)⟩
theorem fpM_197 (nm : String) : xj_fp "RecurrenceBookModel" nm 197 7 17 (.int) := ⟨_, _, _, xk7_t, rfl, by decide, xk7_in, xk7_ty, xk7_nm, by decide +kernel, Or.inl ⟨xm_t 792 (by decide +kernel) rfl, Or.inl rfl⟩⟩
theorem flM_192 : xj_fl "RecurrenceBookModel" 192 7 16 := ⟨_, _, _, rfl, by decide, xk7_in, Or.inl (xm_t 791 (by decide +kernel) rfl)⟩
theorem fpM_192 (nm : String) : xj_fp "RecurrenceBookModel" nm 192 7 16 (.int) := ⟨_, _, _, xk7_t, rfl, by decide, xk7_in, xk7_ty, xk7_nm, by decide +kernel, Or.inl ⟨xm_t 791 (by decide +kernel) rfl, Or.inl rfl⟩⟩
theorem vwM_187 : xj_vw "RecurrenceBookModel" 187 7 yM_readFrequency prog_11_method_23_code 3 (some .boolean) [] 0 := ⟨_, _, _, rfl, Or.inl (xm_t 947 (by decide +kernel) rfl), xm_t 949 (by decide +kernel) rfl, xm_p (q := (yM_readFrequency, 36)) 35 (by decide +kernel), xm_t 950 (by decide +kernel) rfl, xm_t 7 (by decide +kernel) rfl, ⟨by decide, by decide⟩, by decide +kernel⟩
theorem vwM_215 : xj_vw "RecurrenceBookModel" 215 7 yM_readPart prog_11_method_29_code 3 (some .int) [] 0 := ⟨_, _, _, rfl, Or.inl (xm_t 928 (by decide +kernel) rfl), xm_t 930 (by decide +kernel) rfl, xm_p (q := (yM_readPart, 36)) 31 (by decide +kernel), xm_t 931 (by decide +kernel) rfl, xm_t 7 (by decide +kernel) rfl, ⟨by decide, by decide⟩, by decide +kernel⟩
theorem kM_214 : Cond.constant "RecurrenceBookModel" 214 36524 ∈ xj_ws := xm_t 923 (by decide +kernel) rfl
theorem flM_78 : xj_fl "RecurrenceBookModel" 78 7 28 := ⟨_, _, _, rfl, by decide, xk7_in, Or.inl (xm_t 803 (by decide +kernel) rfl)⟩
theorem flM_221 : xj_fl "RecurrenceBookModel" 221 7 30 := ⟨_, _, _, rfl, by decide, xk7_in, Or.inl (xm_t 805 (by decide +kernel) rfl)⟩
theorem flM_224 : xj_fl "RecurrenceBookModel" 224 7 31 := ⟨_, _, _, rfl, by decide, xk7_in, Or.inl (xm_t 806 (by decide +kernel) rfl)⟩
theorem flM_218 : xj_fl "RecurrenceBookModel" 218 7 29 := ⟨_, _, _, rfl, by decide, xk7_in, Or.inl (xm_t 804 (by decide +kernel) rfl)⟩
theorem vwM_227 : xj_vw "RecurrenceBookModel" 227 7 yM_byWeekday prog_11_method_32_code 7 (some .boolean) [] 1 := ⟨_, _, _, rfl, Or.inl (xm_t 1007 (by decide +kernel) rfl), xm_t 1009 (by decide +kernel) rfl, xm_p (q := (yM_byWeekday, 36)) 45 (by decide +kernel), xm_t 1010 (by decide +kernel) rfl, xm_t 7 (by decide +kernel) rfl, ⟨by decide, by decide⟩, by decide +kernel⟩
theorem vwM_233 : xj_vw "RecurrenceBookModel" 233 7 yM_byMonthDay prog_11_method_31_code 4 (some .boolean) [] 0 := ⟨_, _, _, rfl, Or.inl (xm_t 1011 (by decide +kernel) rfl), xm_t 1013 (by decide +kernel) rfl, xm_p (q := (yM_byMonthDay, 36)) 46 (by decide +kernel), xm_t 1014 (by decide +kernel) rfl, xm_t 7 (by decide +kernel) rfl, ⟨by decide, by decide⟩, by decide +kernel⟩
theorem flM_230 : xj_fl "RecurrenceBookModel" 230 7 32 := ⟨_, _, _, rfl, by decide, xk7_in, Or.inl (xm_t 807 (by decide +kernel) rfl)⟩
theorem flM_174 : xj_fl "RecurrenceBookModel" 174 7 19 := ⟨_, _, _, rfl, by decide, xk7_in, Or.inl (xm_t 794 (by decide +kernel) rfl)⟩
theorem flM_28 : xj_fl "RecurrenceBookModel" 28 7 11 := ⟨_, _, _, rfl, by decide, xk7_in, Or.inl (xm_t 786 (by decide +kernel) rfl)⟩
theorem vwM_246 : xj_vw "RecurrenceBookModel" 246 7 yM_behindPeriod prog_11_method_35_code 2 (some .int) [] 1 := ⟨_, _, _, rfl, Or.inl (xm_t 1015 (by decide +kernel) rfl), xm_t 1017 (by decide +kernel) rfl, xm_p (q := (yM_behindPeriod, 36)) 47 (by decide +kernel), xm_t 1018 (by decide +kernel) rfl, xm_t 7 (by decide +kernel) rfl, ⟨by decide, by decide⟩, by decide +kernel⟩
theorem flM_25 : xj_fl "RecurrenceBookModel" 25 7 10 := ⟨_, _, _, rfl, by decide, xk7_in, Or.inl (xm_t 785 (by decide +kernel) rfl)⟩
theorem vwM_243 : xj_vw "RecurrenceBookModel" 243 7 yM_means prog_11_method_34_code 3 (some .boolean) [] 1 := ⟨_, _, _, rfl, Or.inl (xm_t 1003 (by decide +kernel) rfl), xm_t 1005 (by decide +kernel) rfl, xm_p (q := (yM_means, 36)) 44 (by decide +kernel), xm_t 1006 (by decide +kernel) rfl, xm_t 7 (by decide +kernel) rfl, ⟨by decide, by decide⟩, by decide +kernel⟩
theorem vwM_240 : xj_vw "RecurrenceBookModel" 240 7 yM_inPeriod prog_11_method_33_code 3 (some .boolean) [] 1 := ⟨_, _, _, rfl, Or.inl (xm_t 999 (by decide +kernel) rfl), xm_t 1001 (by decide +kernel) rfl, xm_p (q := (yM_inPeriod, 36)) 43 (by decide +kernel), xm_t 1002 (by decide +kernel) rfl, xm_t 7 (by decide +kernel) rfl, ⟨by decide, by decide⟩, by decide +kernel⟩
theorem vwM_236 : xj_vw "RecurrenceBookModel" 236 7 yM_split prog_11_method_6_code 5 none [] 1 := ⟨_, _, _, rfl, Or.inl (xm_t 991 (by decide +kernel) rfl), xm_t 993 (by decide +kernel) rfl, xm_p (q := (yM_split, 36)) 41 (by decide +kernel), xm_t 994 (by decide +kernel) rfl, xm_t 7 (by decide +kernel) rfl, ⟨by decide, by decide⟩, by decide +kernel⟩
theorem flM_144 : xj_fl "RecurrenceBookModel" 144 7 18 := ⟨_, _, _, rfl, by decide, xk7_in, Or.inl (xm_t 793 (by decide +kernel) rfl)⟩
theorem flM_249 : xj_fl "RecurrenceBookModel" 249 7 7 := ⟨_, _, _, rfl, by decide, xk7_in, Or.inl (xm_t 782 (by decide +kernel) rfl)⟩
theorem fpM_249 (nm : String) : xj_fp "RecurrenceBookModel" nm 249 7 7 (.int) := ⟨_, _, _, xk7_t, rfl, by decide, xk7_in, xk7_ty, xk7_nm, by decide +kernel, Or.inl ⟨xm_t 782 (by decide +kernel) rfl, Or.inl rfl⟩⟩
theorem vwM_255 : xj_vw "RecurrenceBookModel" 255 7 yM_fill prog_11_method_36_code 6 none [] 1 := ⟨_, _, _, rfl, Or.inl (xm_t 995 (by decide +kernel) rfl), xm_t 997 (by decide +kernel) rfl, xm_p (q := (yM_fill, 36)) 42 (by decide +kernel), xm_t 998 (by decide +kernel) rfl, xm_t 7 (by decide +kernel) rfl, ⟨by decide, by decide⟩, by decide +kernel⟩
theorem flM_34 : xj_fl "RecurrenceBookModel" 34 7 13 := ⟨_, _, _, rfl, by decide, xk7_in, Or.inl (xm_t 788 (by decide +kernel) rfl)⟩
theorem flM_22 : xj_fl "RecurrenceBookModel" 22 7 9 := ⟨_, _, _, rfl, by decide, xk7_in, Or.inl (xm_t 784 (by decide +kernel) rfl)⟩
theorem flM_19 : xj_fl "RecurrenceBookModel" 19 7 8 := ⟨_, _, _, rfl, by decide, xk7_in, Or.inl (xm_t 783 (by decide +kernel) rfl)⟩
theorem fpM_230 (nm : String) : xj_fp "RecurrenceBookModel" nm 230 7 32 (.int) := ⟨_, _, _, xk7_t, rfl, by decide, xk7_in, xk7_ty, xk7_nm, by decide +kernel, Or.inl ⟨xm_t 807 (by decide +kernel) rfl, Or.inl rfl⟩⟩
theorem fpM_224 (nm : String) : xj_fp "RecurrenceBookModel" nm 224 7 31 (.int) := ⟨_, _, _, xk7_t, rfl, by decide, xk7_in, xk7_ty, xk7_nm, by decide +kernel, Or.inl ⟨xm_t 806 (by decide +kernel) rfl, Or.inl rfl⟩⟩
theorem fpM_221 (nm : String) : xj_fp "RecurrenceBookModel" nm 221 7 30 (.int) := ⟨_, _, _, xk7_t, rfl, by decide, xk7_in, xk7_ty, xk7_nm, by decide +kernel, Or.inl ⟨xm_t 805 (by decide +kernel) rfl, Or.inl rfl⟩⟩
theorem fpM_218 (nm : String) : xj_fp "RecurrenceBookModel" nm 218 7 29 (.int) := ⟨_, _, _, xk7_t, rfl, by decide, xk7_in, xk7_ty, xk7_nm, by decide +kernel, Or.inl ⟨xm_t 804 (by decide +kernel) rfl, Or.inl rfl⟩⟩
theorem vwM_252 : xj_vw "RecurrenceBookModel" 252 7 yM_readRule prog_11_method_30_code 5 (some .boolean) [] 0 := ⟨_, _, _, rfl, Or.inl (xm_t 924 (by decide +kernel) rfl), xm_t 926 (by decide +kernel) rfl, xm_p (q := (yM_readRule, 36)) 30 (by decide +kernel), xm_t 927 (by decide +kernel) rfl, xm_t 7 (by decide +kernel) rfl, ⟨by decide, by decide⟩, by decide +kernel⟩
theorem flM_31 : xj_fl "RecurrenceBookModel" 31 7 12 := ⟨_, _, _, rfl, by decide, xk7_in, Or.inl (xm_t 787 (by decide +kernel) rfl)⟩
theorem vwM_258 : xj_vw "RecurrenceBookModel" 258 7 yM_isExcluded prog_11_method_38_code 5 (some .boolean) [] 2 := ⟨_, _, _, rfl, Or.inl (xm_t 1023 (by decide +kernel) rfl), xm_t 1025 (by decide +kernel) rfl, xm_p (q := (yM_isExcluded, 36)) 48 (by decide +kernel), xm_t 1026 (by decide +kernel) rfl, xm_t 7 (by decide +kernel) rfl, ⟨by decide, by decide⟩, by decide +kernel⟩
theorem vwM_262 : xj_vw "RecurrenceBookModel" 262 7 yM_timeDay prog_11_method_41_code 5 (some .int) [] 2 := ⟨_, _, _, rfl, Or.inl (xm_t 1035 (by decide +kernel) rfl), xm_t 1037 (by decide +kernel) rfl, xm_p (q := (yM_timeDay, 36)) 49 (by decide +kernel), xm_t 1038 (by decide +kernel) rfl, xm_t 7 (by decide +kernel) rfl, ⟨by decide, by decide⟩, by decide +kernel⟩
theorem vwM_265 : xj_vw "RecurrenceBookModel" 265 7 yM_momentOf prog_11_method_16_code 2 (some .int) [] 1 := ⟨_, _, _, rfl, Or.inl (xm_t 1043 (by decide +kernel) rfl), xm_t 1045 (by decide +kernel) rfl, xm_p (q := (yM_momentOf, 36)) 50 (by decide +kernel), xm_t 1046 (by decide +kernel) rfl, xm_t 7 (by decide +kernel) rfl, ⟨by decide, by decide⟩, by decide +kernel⟩
theorem fpM_268 (nm : String) : xj_fp "RecurrenceBookModel" nm 268 7 33 (.int) := ⟨_, _, _, xk7_t, rfl, by decide, xk7_in, xk7_ty, xk7_nm, by decide +kernel, Or.inl ⟨xm_t 808 (by decide +kernel) rfl, Or.inl rfl⟩⟩
theorem flM_268 : xj_fl "RecurrenceBookModel" 268 7 33 := ⟨_, _, _, rfl, by decide, xk7_in, Or.inl (xm_t 808 (by decide +kernel) rfl)⟩
theorem flM_53 : xj_fl "RecurrenceBookModel" 53 7 35 := ⟨_, _, _, rfl, by decide, xk7_in, Or.inl (xm_t 810 (by decide +kernel) rfl)⟩
theorem flM_50 : xj_fl "RecurrenceBookModel" 50 7 34 := ⟨_, _, _, rfl, by decide, xk7_in, Or.inl (xm_t 809 (by decide +kernel) rfl)⟩
theorem swM_274 : xj_sw "RecurrenceBookModel" 274 yM_greatest prog_11_method_45_code 2 (some .int) [] 2 := ⟨Or.inl (xm_t 1052 (by decide +kernel) rfl), xm_t 1053 (by decide +kernel) rfl, xm_t 1054 (by decide +kernel) rfl, xm_t 7 (by decide +kernel) rfl, ⟨by decide, by decide⟩, by decide +kernel⟩
theorem swM_271 : xj_sw "RecurrenceBookModel" 271 yM_least prog_11_method_44_code 2 (some .int) [] 2 := ⟨Or.inl (xm_t 1055 (by decide +kernel) rfl), xm_t 1056 (by decide +kernel) rfl, xm_t 1057 (by decide +kernel) rfl, xm_t 7 (by decide +kernel) rfl, ⟨by decide, by decide⟩, by decide +kernel⟩
theorem vwM_279 : xj_vw "RecurrenceBookModel" 279 7 yM_join prog_11_method_46_code 9 none [] 2 := ⟨_, _, _, rfl, Or.inl (xm_t 1058 (by decide +kernel) rfl), xm_t 1060 (by decide +kernel) rfl, xm_p (q := (yM_join, 36)) 51 (by decide +kernel), xm_t 1061 (by decide +kernel) rfl, xm_t 7 (by decide +kernel) rfl, ⟨by decide, by decide⟩, by decide +kernel⟩
theorem kM_277 : Cond.constantLong "RecurrenceBookModel" 277 200000 ∈ xj_ws := xm_t 1051 (by decide +kernel) rfl
theorem vwL_7 : xj_vw "RecurrenceBookLaw" 7 0 yB_zone prog_1_method_3_code 8 none [] 6 := ⟨_, _, _, rfl, Or.inl (xm_t 187 (by decide +kernel) rfl), xm_t 188 (by decide +kernel) rfl, xm_t 189 (by decide +kernel) rfl, xm_t 190 (by decide +kernel) rfl, xm_t 1 (by decide +kernel) rfl, ⟨by decide, by decide⟩, by decide +kernel⟩
theorem vwL_15 : xj_vw "RecurrenceBookLaw" 15 0 yB_event prog_1_method_4_code 6 (some .int) [] 3 := ⟨_, _, _, rfl, Or.inl (xm_t 277 (by decide +kernel) rfl), xm_t 278 (by decide +kernel) rfl, xm_t 279 (by decide +kernel) rfl, xm_t 280 (by decide +kernel) rfl, xm_t 1 (by decide +kernel) rfl, ⟨by decide, by decide⟩, by decide +kernel⟩
theorem vwL_21 : xj_vw "RecurrenceBookLaw" 21 0 yB_exclude prog_1_method_5_code 4 (some .boolean) [] 2 := ⟨_, _, _, rfl, Or.inl (xm_t 653 (by decide +kernel) rfl), xm_t 654 (by decide +kernel) rfl, xm_t 655 (by decide +kernel) rfl, xm_t 656 (by decide +kernel) rfl, xm_t 1 (by decide +kernel) rfl, ⟨by decide, by decide⟩, by decide +kernel⟩
theorem vwL_27 : xj_vw "RecurrenceBookLaw" 27 0 yB_times prog_1_method_6_code 2 (some .int) [] 1 := ⟨_, _, _, rfl, Or.inl (xm_t 684 (by decide +kernel) rfl), xm_t 685 (by decide +kernel) rfl, xm_t 686 (by decide +kernel) rfl, xm_t 687 (by decide +kernel) rfl, xm_t 1 (by decide +kernel) rfl, ⟨by decide, by decide⟩, by decide +kernel⟩
theorem vwL_31 : xj_vw "RecurrenceBookLaw" 31 0 yB_day prog_1_method_7_code 3 (some .int) [] 2 := ⟨_, _, _, rfl, Or.inl (xm_t 691 (by decide +kernel) rfl), xm_t 692 (by decide +kernel) rfl, xm_t 693 (by decide +kernel) rfl, xm_t 694 (by decide +kernel) rfl, xm_t 1 (by decide +kernel) rfl, ⟨by decide, by decide⟩, by decide +kernel⟩
theorem vwL_35 : xj_vw "RecurrenceBookLaw" 35 0 yB_moment prog_1_method_8_code 4 (some .int) [] 2 := ⟨_, _, _, rfl, Or.inl (xm_t 703 (by decide +kernel) rfl), xm_t 704 (by decide +kernel) rfl, xm_t 705 (by decide +kernel) rfl, xm_t 706 (by decide +kernel) rfl, xm_t 1 (by decide +kernel) rfl, ⟨by decide, by decide⟩, by decide +kernel⟩
theorem vwL_38 : xj_vw "RecurrenceBookLaw" 38 0 yB_busy prog_1_method_11_code 6 (some .int) [] 2 := ⟨_, _, _, rfl, Or.inl (xm_t 711 (by decide +kernel) rfl), xm_t 712 (by decide +kernel) rfl, xm_t 713 (by decide +kernel) rfl, xm_t 714 (by decide +kernel) rfl, xm_t 1 (by decide +kernel) rfl, ⟨by decide, by decide⟩, by decide +kernel⟩
theorem vwL_41 : xj_vw "RecurrenceBookLaw" 41 0 yB_span prog_1_method_12_code 3 (some .int) [] 2 := ⟨_, _, _, rfl, Or.inl (xm_t 734 (by decide +kernel) rfl), xm_t 735 (by decide +kernel) rfl, xm_t 736 (by decide +kernel) rfl, xm_t 737 (by decide +kernel) rfl, xm_t 1 (by decide +kernel) rfl, ⟨by decide, by decide⟩, by decide +kernel⟩
theorem vwL_45 : xj_vw "RecurrenceBookLaw" 45 0 yB_clash prog_1_method_13_code 3 (some .int) [] 2 := ⟨_, _, _, rfl, Or.inl (xm_t 742 (by decide +kernel) rfl), xm_t 743 (by decide +kernel) rfl, xm_t 744 (by decide +kernel) rfl, xm_t 745 (by decide +kernel) rfl, xm_t 1 (by decide +kernel) rfl, ⟨by decide, by decide⟩, by decide +kernel⟩
end
section
/-! RecurrenceBook$Zone.<init>()V -/
def fZ_init (v0 : xj_Rf) (A : xj_H) : Option xj_R :=
  if xj_isw v0 = true then
  (xj_mk A (.inl (0, 100, .inl (fun _ => 0))) 100).bind fun A1 =>
  (xj_pv A1 v0 1 2 (xj_rv (xj_o A.1.length))).bind fun A2 =>
  (xj_mk A2 (.inl (0, 100, .inl (fun _ => 0))) 100).bind fun A3 =>
  (xj_pv A3 v0 1 3 (xj_rv (xj_o A2.1.length))).bind fun A4 =>
  some (.inl none, A4)
  else none
theorem wZ_init {l : Launch} (hl : l.stackTraces = false) {z : xj_F} (B : xj_B l yZ_init prog_9_method_1_code 1 none [] 1 z) (v0 : xj_Rf) (A : xj_H) (h : fZ_init v0 A = some (xf_r z)) : xj_W l z 0 [(0, xj_rv v0)] [] A := by
  unfold fZ_init at h
  refine xg_aload_n (pc := 0) (i := 0) B dZ_init_0 rfl rfl ?_
  obtain ⟨a1, ha1, h⟩ := xj_isw_inv h
  refine xg_objInit (pc := 1) B ha1 dZ_init_1 owZ_3 ow_i ow_c (by decide) (by decide) ?_
  refine xg_aload_n (pc := 4) (i := 0) B dZ_init_4 rfl rfl ?_
  refine xg_bipush (pc := 5) (v := 100) B dZ_init_5 (by decide) ?_
  refine xg_newa (pc := 7) (t := 0) (N := 100) (a1 := .inl (fun _ => 0)) B dZ_init_7 rfl (fun _ => rfl) (fun _ h9 => by cases h9) aw_int (fun _ => rfl) (fun _ _ => rfl) (fun _ => trivial) (by decide) (by decide) (by decide) h (fun A1 eA1 h => ?_)
  refine xg_putr (pc := 9) B (Or.inr ⟨_, rfl⟩) dZ_init_9 fpZ_9 h (fun A2 eA2 h => ?_)
  refine xg_aload_n (pc := 12) (i := 0) B dZ_init_12 rfl rfl ?_
  refine xg_bipush (pc := 13) (v := 100) B dZ_init_13 (by decide) ?_
  refine xg_newa (pc := 15) (t := 0) (N := 100) (a1 := .inl (fun _ => 0)) B dZ_init_15 rfl (fun _ => rfl) (fun _ h9 => by cases h9) aw_int (fun _ => rfl) (fun _ _ => rfl) (fun _ => trivial) (by decide) (by decide) (by decide) h (fun A3 eA3 h => ?_)
  refine xg_putr (pc := 17) B (Or.inr ⟨_, rfl⟩) dZ_init_17 fpZ_15 h (fun A4 eA4 h => ?_)
  exact xg_vret B dZ_init_20 h
theorem cZ_init {l : Launch} (hl : l.stackTraces = false) (v0 : xj_Rf) (A : xj_H) (r : xj_R) (h : fZ_init v0 A = some r) : xj_M l yZ_init prog_9_method_1_code 1 none [] 1 [xj_rv v0] A r := by
  refine xj_M.of hl (by decide +kernel) (by simp [lg_sl, xj_ic, xj_lc, xj_rv_cat]) (fun z B hA hr => ?_)
  subst hr
  have hw := wZ_init hl B v0 A h
  simpa [lv_args, xj_ic, xj_lc, xj_rv_cat] using hw
/-! java/lang/Math.floorMod(II)I -/
def fJ_floorMod_18 (v2 : Int32) (A : xj_H) : Option xj_R :=
  some (.inl (some (.int v2)), A)
def fJ_floorMod (v0 : Int32) (v1 : Int32) (A : xj_H) : Option xj_R :=
  if v1 = 0 then none else
  if 0 ≤ (v0 ^^^ v1) then
    fJ_floorMod_18 (v0 % v1) A
  else
    if (v0 % v1) = 0 then
      fJ_floorMod_18 (v0 % v1) A
    else
      some (.inl (some (.int ((v0 % v1) + v1))), A)
theorem wJ_floorMod_18 {l : Launch} (hl : l.stackTraces = false) {z : xj_F} (B : xj_B l yJ_floorMod prog_16_method_50_code 3 (some .int) [] 1 z) (v2 : Int32) (A : xj_H) (h : fJ_floorMod_18 v2 A = some (xf_r z)) : xj_W l z 18 [(2, .int v2)] [] A := by
  unfold fJ_floorMod_18 at h
  refine xg_iload_n (pc := 18) (i := 2) B dJ_floorMod_18 rfl rfl ?_
  exact xg_iret B dJ_floorMod_19 h
theorem wJ_floorMod {l : Launch} (hl : l.stackTraces = false) {z : xj_F} (B : xj_B l yJ_floorMod prog_16_method_50_code 3 (some .int) [] 1 z) (v0 : Int32) (v1 : Int32) (A : xj_H) (h : fJ_floorMod v0 v1 A = some (xf_r z)) : xj_W l z 0 [(0, .int v0), (1, .int v1)] [] A := by
  unfold fJ_floorMod at h
  refine xg_iload_n (pc := 0) (i := 0) B dJ_floorMod_0 rfl rfl ?_
  refine xg_iload_n (pc := 1) (i := 1) B dJ_floorMod_1 rfl rfl ?_
  have hne2 : ¬ v1 = 0 := fun hc => by rw [if_pos hc] at h; cases h
  rw [if_neg hne2] at h
  refine xg_irem (pc := 2) B dJ_floorMod_2 hne2 ?_
  refine xg_istore_n (pc := 3) (i := 2) (ls' := [(2, .int (v0 % v1)), (0, .int v0), (1, .int v1)]) B dJ_floorMod_3 rfl (by decide) ⟨xj_nq (a := 0) (i := 2) (by decide), fun _ => rfl, trivial⟩ rfl ?_
  refine xg_iload_n (pc := 4) (i := 0) B dJ_floorMod_4 rfl rfl ?_
  refine xg_iload_n (pc := 5) (i := 1) B dJ_floorMod_5 rfl rfl ?_
  refine xg_ixor (pc := 6) B dJ_floorMod_6 ?_
  refine xg_if_ge (pc := 7) (tgt := 18) B dJ_floorMod_7 (by decide) h (fun c7 h => ?_) (fun c7 h => ?_)
  · refine xg_sub (ls' := [(2, .int (v0 % v1))]) [0] rfl ?_
    exact wJ_floorMod_18 hl B (v0 % v1) A h
  · refine xg_iload_n (pc := 10) (i := 2) B dJ_floorMod_10 rfl rfl ?_
    refine xg_if_eq (pc := 11) (tgt := 18) B dJ_floorMod_11 (by decide) h (fun c11 h => ?_) (fun c11 h => ?_)
    · refine xg_sub (ls' := [(2, .int (v0 % v1))]) [0] rfl ?_
      exact wJ_floorMod_18 hl B (v0 % v1) A h
    · refine xg_iload_n (pc := 14) (i := 2) B dJ_floorMod_14 rfl rfl ?_
      refine xg_iload_n (pc := 15) (i := 1) B dJ_floorMod_15 rfl rfl ?_
      refine xg_iadd (pc := 16) B dJ_floorMod_16 ?_
      exact xg_iret B dJ_floorMod_17 h
theorem cJ_floorMod {l : Launch} (hl : l.stackTraces = false) (v0 : Int32) (v1 : Int32) (A : xj_H) (r : xj_R) (h : fJ_floorMod v0 v1 A = some r) : xj_M l yJ_floorMod prog_16_method_50_code 3 (some .int) [] 1 [.int v0, .int v1] A r := by
  refine xj_M.of hl (by decide +kernel) (by simp [lg_sl, xj_ic, xj_lc, xj_rv_cat]) (fun z B hA hr => ?_)
  subst hr
  have hw := wJ_floorMod hl B v0 v1 A h
  simpa [lv_args, xj_ic, xj_lc, xj_rv_cat] using hw
/-! RecurrenceBook$Dates.monthStart(I)I -/
def fD_monthStart_28 (v1 : Int32) (v2 : Int32) (s0 : Int32) (A : xj_H) : Option xj_R :=
  (xj_tb v2).bind fun x1 =>
  some (.inl (some (.int (((((365 : Int32) * v1) + ((v1 + (3 : Int32)) / (4 : Int32))) + x1) + s0))), A)
def fD_monthStart_27 (v1 : Int32) (v2 : Int32) (A : xj_H) : Option xj_R :=
  fD_monthStart_28 v1 v2 (0 : Int32) A
def fD_monthStart (v0 : Int32) (A : xj_H) : Option xj_R :=
  xj_bi (fJ_floorMod v0 (12 : Int32) A) fun x1 A2 =>
  if x1 < (2 : Int32) then
    fD_monthStart_27 (v0 / (12 : Int32)) x1 A2
  else
    if ¬ ((v0 / (12 : Int32)) % (4 : Int32)) = 0 then
      fD_monthStart_27 (v0 / (12 : Int32)) x1 A2
    else
      fD_monthStart_28 (v0 / (12 : Int32)) x1 (1 : Int32) A2
theorem wD_monthStart_28 {l : Launch} (hl : l.stackTraces = false) {z : xj_F} (B : xj_B l yD_monthStart prog_2_method_4_code 4 (some .int) [] 2 z) (v1 : Int32) (v2 : Int32) (s0 : Int32) (A : xj_H) (h : fD_monthStart_28 v1 v2 s0 A = some (xf_r z)) : xj_W l z 28 [(1, .int v1), (2, .int v2)] [.int s0] A := by
  unfold fD_monthStart_28 at h
  refine xg_istore_n (pc := 28) (i := 3) (ls' := [(3, .int s0), (1, .int v1), (2, .int v2)]) B dD_monthStart_28 rfl (by decide) ⟨xj_nq (a := 1) (i := 3) (by decide), fun _ => rfl, trivial⟩ rfl ?_
  refine xg_sipush (pc := 29) (v := 365) B dD_monthStart_29 (by decide) ?_
  refine xg_iload_n (pc := 32) (i := 1) B dD_monthStart_32 rfl rfl ?_
  refine xg_imul (pc := 33) B dD_monthStart_33 ?_
  refine xg_iload_n (pc := 34) (i := 1) B dD_monthStart_34 rfl rfl ?_
  refine xg_iconst (pc := 35) (v := 3) B dD_monthStart_35 (by decide) ?_
  refine xg_iadd (pc := 36) B dD_monthStart_36 ?_
  refine xg_iconst (pc := 37) (v := 4) B dD_monthStart_37 (by decide) ?_
  refine xg_idiv (pc := 38) B dD_monthStart_38 (by decide) ?_
  refine xg_iadd (pc := 39) B dD_monthStart_39 ?_
  refine xg_gett (pc := 40) B dD_monthStart_40 gsD_17 ?_
  refine xg_iload_n (pc := 43) (i := 2) B dD_monthStart_43 rfl rfl ?_
  refine xg_tload (pc := 44) B dD_monthStart_44 h (fun x1 ex1 h => ?_)
  refine xg_iadd (pc := 45) B dD_monthStart_45 ?_
  refine xg_iload_n (pc := 46) (i := 3) B dD_monthStart_46 rfl rfl ?_
  refine xg_iadd (pc := 47) B dD_monthStart_47 ?_
  exact xg_iret B dD_monthStart_48 h
theorem wD_monthStart_27 {l : Launch} (hl : l.stackTraces = false) {z : xj_F} (B : xj_B l yD_monthStart prog_2_method_4_code 4 (some .int) [] 2 z) (v1 : Int32) (v2 : Int32) (A : xj_H) (h : fD_monthStart_27 v1 v2 A = some (xf_r z)) : xj_W l z 27 [(1, .int v1), (2, .int v2)] [] A := by
  unfold fD_monthStart_27 at h
  refine xg_iconst (pc := 27) (v := 0) B dD_monthStart_27 (by decide) ?_
  exact wD_monthStart_28 hl B v1 v2 (0 : Int32) A h
theorem wD_monthStart {l : Launch} (hl : l.stackTraces = false) {z : xj_F} (B : xj_B l yD_monthStart prog_2_method_4_code 4 (some .int) [] 2 z) (v0 : Int32) (A : xj_H) (h : fD_monthStart v0 A = some (xf_r z)) : xj_W l z 0 [(0, .int v0)] [] A := by
  unfold fD_monthStart at h
  refine xg_iload_n (pc := 0) (i := 0) B dD_monthStart_0 rfl rfl ?_
  refine xg_bipush (pc := 1) (v := 12) B dD_monthStart_1 (by decide) ?_
  refine xg_idiv (pc := 3) B dD_monthStart_3 (by decide) ?_
  refine xg_istore_n (pc := 4) (i := 1) (ls' := [(1, .int (v0 / (12 : Int32))), (0, .int v0)]) B dD_monthStart_4 rfl (by decide) ⟨fun _ => rfl, trivial⟩ rfl ?_
  refine xg_iload_n (pc := 5) (i := 0) B dD_monthStart_5 rfl rfl ?_
  refine xg_bipush (pc := 6) (v := 12) B dD_monthStart_6 (by decide) ?_
  refine xg_ci (pc := 8) (av := [.int v0, .int (12 : Int32)]) (st := []) (cy := prog_16_method_50_code) (nLy := 3) (rety := (some .int)) (hsy := []) B dD_monthStart_8 (xj_go_s B dD_monthStart_8 swD_11 rfl) swD_11.2.2.1 swD_11.2.2.2.1 (by decide) (by decide) (by decide) rfl (fun r9 h9 => cJ_floorMod hl _ _ _ r9 h9) h (fun x1 A2 eA2 h => ?_)
  refine xg_istore_n (pc := 11) (i := 2) (ls' := [(2, .int x1), (1, .int (v0 / (12 : Int32))), (0, .int v0)]) B dD_monthStart_11 rfl (by decide) ⟨fun _ => rfl, xj_nq (a := 0) (i := 2) (by decide), trivial⟩ rfl ?_
  refine xg_iload_n (pc := 12) (i := 2) B dD_monthStart_12 rfl rfl ?_
  refine xg_iconst (pc := 13) (v := 2) B dD_monthStart_13 (by decide) ?_
  refine xg_icmp_lt (pc := 14) (tgt := 27) B dD_monthStart_14 (by decide) h (fun c14 h => ?_) (fun c14 h => ?_)
  · refine xg_sub (ls' := [(1, .int (v0 / (12 : Int32))), (2, .int x1)]) [1, 0] rfl ?_
    exact wD_monthStart_27 hl B (v0 / (12 : Int32)) x1 A2 h
  · refine xg_iload_n (pc := 17) (i := 1) B dD_monthStart_17 rfl rfl ?_
    refine xg_iconst (pc := 18) (v := 4) B dD_monthStart_18 (by decide) ?_
    refine xg_irem (pc := 19) B dD_monthStart_19 (by decide) ?_
    refine xg_if_ne (pc := 20) (tgt := 27) B dD_monthStart_20 (by decide) h (fun c20 h => ?_) (fun c20 h => ?_)
    · refine xg_sub (ls' := [(1, .int (v0 / (12 : Int32))), (2, .int x1)]) [1, 0] rfl ?_
      exact wD_monthStart_27 hl B (v0 / (12 : Int32)) x1 A2 h
    · refine xg_iconst (pc := 23) (v := 1) B dD_monthStart_23 (by decide) ?_
      refine xg_goto (pc := 24) (tgt := 28) B dD_monthStart_24 (by decide) ?_
      refine xg_sub (ls' := [(1, .int (v0 / (12 : Int32))), (2, .int x1)]) [1, 0] rfl ?_
      exact wD_monthStart_28 hl B (v0 / (12 : Int32)) x1 (1 : Int32) A2 h
theorem cD_monthStart {l : Launch} (hl : l.stackTraces = false) (v0 : Int32) (A : xj_H) (r : xj_R) (h : fD_monthStart v0 A = some r) : xj_M l yD_monthStart prog_2_method_4_code 4 (some .int) [] 2 [.int v0] A r := by
  refine xj_M.of hl (by decide +kernel) (by simp [lg_sl, xj_ic, xj_lc, xj_rv_cat]) (fun z B hA hr => ?_)
  subst hr
  have hw := wD_monthStart hl B v0 A h
  simpa [lv_args, xj_ic, xj_lc, xj_rv_cat] using hw
/-! RecurrenceBook$Dates.weekdayOf(I)I -/
def fD_weekdayOf (v0 : Int32) (A : xj_H) : Option xj_R :=
  some (.inl (some (.int ((v0 + (5 : Int32)) % (7 : Int32)))), A)
theorem wD_weekdayOf {l : Launch} (hl : l.stackTraces = false) {z : xj_F} (B : xj_B l yD_weekdayOf prog_2_method_2_code 1 (some .int) [] 1 z) (v0 : Int32) (A : xj_H) (h : fD_weekdayOf v0 A = some (xf_r z)) : xj_W l z 0 [(0, .int v0)] [] A := by
  unfold fD_weekdayOf at h
  refine xg_iload_n (pc := 0) (i := 0) B dD_weekdayOf_0 rfl rfl ?_
  refine xg_iconst (pc := 1) (v := 5) B dD_weekdayOf_1 (by decide) ?_
  refine xg_iadd (pc := 2) B dD_weekdayOf_2 ?_
  refine xg_bipush (pc := 3) (v := 7) B dD_weekdayOf_3 (by decide) ?_
  refine xg_irem (pc := 5) B dD_weekdayOf_5 (by decide) ?_
  exact xg_iret B dD_weekdayOf_6 h
theorem cD_weekdayOf {l : Launch} (hl : l.stackTraces = false) (v0 : Int32) (A : xj_H) (r : xj_R) (h : fD_weekdayOf v0 A = some r) : xj_M l yD_weekdayOf prog_2_method_2_code 1 (some .int) [] 1 [.int v0] A r := by
  refine xj_M.of hl (by decide +kernel) (by simp [lg_sl, xj_ic, xj_lc, xj_rv_cat]) (fun z B hA hr => ?_)
  subst hr
  have hw := wD_weekdayOf hl B v0 A h
  simpa [lv_args, xj_ic, xj_lc, xj_rv_cat] using hw
/-! RecurrenceBook$Dates.sundayOf(II)I -/
def fD_sundayOf_40 (s0 : Int32) (A : xj_H) : Option xj_R :=
  some (.inl (some (.int s0)), A)
def fD_sundayOf (v0 : Int32) (v1 : Int32) (A : xj_H) : Option xj_R :=
  xj_bi (fD_monthStart v0 A) fun x1 A2 =>
  xj_bi (fD_weekdayOf x1 A2) fun x3 A4 =>
  xj_bi (fD_monthStart (v0 + (1 : Int32)) A4) fun x5 A6 =>
  if x5 ≤ (((x1 + (6 : Int32)) - x3) + ((7 : Int32) * (v1 - (1 : Int32)))) then
    fD_sundayOf_40 ((((x1 + (6 : Int32)) - x3) + ((7 : Int32) * (v1 - (1 : Int32)))) - (7 : Int32)) A6
  else
    fD_sundayOf_40 (((x1 + (6 : Int32)) - x3) + ((7 : Int32) * (v1 - (1 : Int32)))) A6
theorem wD_sundayOf_40 {l : Launch} (hl : l.stackTraces = false) {z : xj_F} (B : xj_B l yD_sundayOf prog_2_method_7_code 4 (some .int) [] 3 z) (s0 : Int32) (A : xj_H) (h : fD_sundayOf_40 s0 A = some (xf_r z)) : xj_W l z 40 [] [.int s0] A := by
  unfold fD_sundayOf_40 at h
  exact xg_iret B dD_sundayOf_40 h
theorem wD_sundayOf {l : Launch} (hl : l.stackTraces = false) {z : xj_F} (B : xj_B l yD_sundayOf prog_2_method_7_code 4 (some .int) [] 3 z) (v0 : Int32) (v1 : Int32) (A : xj_H) (h : fD_sundayOf v0 v1 A = some (xf_r z)) : xj_W l z 0 [(0, .int v0), (1, .int v1)] [] A := by
  unfold fD_sundayOf at h
  refine xg_iload_n (pc := 0) (i := 0) B dD_sundayOf_0 rfl rfl ?_
  refine xg_ci (pc := 1) (av := [.int v0]) (st := []) (cy := prog_2_method_4_code) (nLy := 4) (rety := (some .int)) (hsy := []) B dD_sundayOf_1 (xj_go_s B dD_sundayOf_1 swD_25 rfl) swD_25.2.2.1 swD_25.2.2.2.1 (by decide) (by decide) (by decide) rfl (fun r9 h9 => cD_monthStart hl _ _ r9 h9) h (fun x1 A2 eA2 h => ?_)
  refine xg_istore_n (pc := 4) (i := 2) (ls' := [(2, .int x1), (0, .int v0), (1, .int v1)]) B dD_sundayOf_4 rfl (by decide) ⟨xj_nq (a := 0) (i := 2) (by decide), fun _ => rfl, trivial⟩ rfl ?_
  refine xg_iload_n (pc := 5) (i := 2) B dD_sundayOf_5 rfl rfl ?_
  refine xg_bipush (pc := 6) (v := 6) B dD_sundayOf_6 (by decide) ?_
  refine xg_iadd (pc := 8) B dD_sundayOf_8 ?_
  refine xg_iload_n (pc := 9) (i := 2) B dD_sundayOf_9 rfl rfl ?_
  refine xg_ci (pc := 10) (av := [.int x1]) (st := [.int (x1 + (6 : Int32))]) (cy := prog_2_method_2_code) (nLy := 1) (rety := (some .int)) (hsy := []) B dD_sundayOf_10 (xj_go_s B dD_sundayOf_10 swD_32 rfl) swD_32.2.2.1 swD_32.2.2.2.1 (by decide) (by decide) (by simp [xj_ic, xj_lc, xj_rv_cat]) rfl (fun r9 h9 => cD_weekdayOf hl _ _ r9 h9) h (fun x3 A4 eA4 h => ?_)
  refine xg_isub (pc := 13) B dD_sundayOf_13 ?_
  refine xg_bipush (pc := 14) (v := 7) B dD_sundayOf_14 (by decide) ?_
  refine xg_iload_n (pc := 16) (i := 1) B dD_sundayOf_16 rfl rfl ?_
  refine xg_iconst (pc := 17) (v := 1) B dD_sundayOf_17 (by decide) ?_
  refine xg_isub (pc := 18) B dD_sundayOf_18 ?_
  refine xg_imul (pc := 19) B dD_sundayOf_19 ?_
  refine xg_iadd (pc := 20) B dD_sundayOf_20 ?_
  refine xg_istore_n (pc := 21) (i := 3) (ls' := [(3, .int (((x1 + (6 : Int32)) - x3) + ((7 : Int32) * (v1 - (1 : Int32))))), (2, .int x1), (0, .int v0), (1, .int v1)]) B dD_sundayOf_21 rfl (by decide) ⟨fun _ => rfl, xj_nq (a := 0) (i := 3) (by decide), xj_nq (a := 1) (i := 3) (by decide), trivial⟩ rfl ?_
  refine xg_iload_n (pc := 22) (i := 3) B dD_sundayOf_22 rfl rfl ?_
  refine xg_iload_n (pc := 23) (i := 0) B dD_sundayOf_23 rfl rfl ?_
  refine xg_iconst (pc := 24) (v := 1) B dD_sundayOf_24 (by decide) ?_
  refine xg_iadd (pc := 25) B dD_sundayOf_25 ?_
  refine xg_ci (pc := 26) (av := [.int (v0 + (1 : Int32))]) (st := [.int (((x1 + (6 : Int32)) - x3) + ((7 : Int32) * (v1 - (1 : Int32))))]) (cy := prog_2_method_4_code) (nLy := 4) (rety := (some .int)) (hsy := []) B dD_sundayOf_26 (xj_go_s B dD_sundayOf_26 swD_25 rfl) swD_25.2.2.1 swD_25.2.2.2.1 (by decide) (by decide) (by simp [xj_ic, xj_lc, xj_rv_cat]) rfl (fun r9 h9 => cD_monthStart hl _ _ r9 h9) h (fun x5 A6 eA6 h => ?_)
  refine xg_icmp_ge (pc := 29) (tgt := 36) B dD_sundayOf_29 (by decide) h (fun c29 h => ?_) (fun c29 h => ?_)
  · refine xg_iload_n (pc := 36) (i := 3) B dD_sundayOf_36 rfl rfl ?_
    refine xg_bipush (pc := 37) (v := 7) B dD_sundayOf_37 (by decide) ?_
    refine xg_isub (pc := 39) B dD_sundayOf_39 ?_
    refine xg_sub (ls' := []) [] rfl ?_
    exact wD_sundayOf_40 hl B ((((x1 + (6 : Int32)) - x3) + ((7 : Int32) * (v1 - (1 : Int32)))) - (7 : Int32)) A6 h
  · refine xg_iload_n (pc := 32) (i := 3) B dD_sundayOf_32 rfl rfl ?_
    refine xg_goto (pc := 33) (tgt := 40) B dD_sundayOf_33 (by decide) ?_
    refine xg_sub (ls' := []) [] rfl ?_
    exact wD_sundayOf_40 hl B (((x1 + (6 : Int32)) - x3) + ((7 : Int32) * (v1 - (1 : Int32)))) A6 h
theorem cD_sundayOf {l : Launch} (hl : l.stackTraces = false) (v0 : Int32) (v1 : Int32) (A : xj_H) (r : xj_R) (h : fD_sundayOf v0 v1 A = some r) : xj_M l yD_sundayOf prog_2_method_7_code 4 (some .int) [] 3 [.int v0, .int v1] A r := by
  refine xj_M.of hl (by decide +kernel) (by simp [lg_sl, xj_ic, xj_lc, xj_rv_cat]) (fun z B hA hr => ?_)
  subst hr
  have hw := wD_sundayOf hl B v0 v1 A h
  simpa [lv_args, xj_ic, xj_lc, xj_rv_cat] using hw
/-! RecurrenceBook$Zone.change(IIIIII)V -/
def fZ_change_13 : Nat → xj_Rf → Int32 → Int32 → Int32 → Int32 → Int32 → xj_H → Option xj_R
  | 0, _, _, _, _, _, _, _ => none
  | n + 1, v0, v3, v4, v5, v6, v7, A =>
    if (100 : Int32) ≤ v7 then
      some (.inl none, A)
    else
      xj_bi (fD_sundayOf ((((12 : Int32) * v7) + v3) - (1 : Int32)) v4 A) fun x1 A2 =>
      xj_bi (fD_sundayOf ((((12 : Int32) * v7) + v5) - (1 : Int32)) v6 A2) fun x3 A4 =>
      (xj_gr A4 v0 1 2).bind fun x5 =>
      (xj_gi A4 v0 1 0).bind fun x6 =>
      (xj_as A4 x5 0 v7 ((((1440 : Int32) * x1) + (120 : Int32)) - x6)).bind fun A7 =>
      (xj_gr A7 v0 1 3).bind fun x8 =>
      (xj_gi A7 v0 1 1).bind fun x9 =>
      (xj_as A7 x8 0 v7 ((((1440 : Int32) * x3) + (180 : Int32)) - x9)).bind fun A10 =>
      (fZ_change_13 n) v0 v3 v4 v5 v6 (v7 + 1) A10
def fZ_change (v0 : xj_Rf) (v1 : Int32) (v2 : Int32) (v3 : Int32) (v4 : Int32) (v5 : Int32) (v6 : Int32) (A : xj_H) : Option xj_R :=
  (xj_pv A v0 1 0 (.int v1)).bind fun A1 =>
  (xj_pv A1 v0 1 1 (.int v2)).bind fun A2 =>
  fZ_change_13 xj_fu v0 v3 v4 v5 v6 (0 : Int32) A2
theorem wZ_change_13 {l : Launch} (hl : l.stackTraces = false) {z : xj_F} (B : xj_B l yZ_change prog_9_method_2_code 10 none [] 4 z) : ∀ (n : Nat) (v0 : xj_Rf) (v3 : Int32) (v4 : Int32) (v5 : Int32) (v6 : Int32) (v7 : Int32) (A : xj_H), fZ_change_13 n v0 v3 v4 v5 v6 v7 A = some (xf_r z) → xj_W l z 13 [(0, xj_rv v0), (3, .int v3), (4, .int v4), (5, .int v5), (6, .int v6), (7, .int v7)] [] A
  | 0, _, _, _, _, _, _, _, h => by simp [fZ_change_13] at h
  | n + 1, v0, v3, v4, v5, v6, v7, A, h => by
    rw [fZ_change_13] at h
    refine xg_iload (pc := 13) (i := 7) B dZ_change_13 rfl ?_
    refine xg_bipush (pc := 15) (v := 100) B dZ_change_15 (by decide) ?_
    refine xg_icmp_ge (pc := 17) (tgt := 102) B dZ_change_17 (by decide) h (fun c17 h => ?_) (fun c17 h => ?_)
    · exact xg_vret B dZ_change_102 h
    · refine xg_bipush (pc := 20) (v := 12) B dZ_change_20 (by decide) ?_
      refine xg_iload (pc := 22) (i := 7) B dZ_change_22 rfl ?_
      refine xg_imul (pc := 24) B dZ_change_24 ?_
      refine xg_iload_n (pc := 25) (i := 3) B dZ_change_25 rfl rfl ?_
      refine xg_iadd (pc := 26) B dZ_change_26 ?_
      refine xg_iconst (pc := 27) (v := 1) B dZ_change_27 (by decide) ?_
      refine xg_isub (pc := 28) B dZ_change_28 ?_
      refine xg_iload (pc := 29) (i := 4) B dZ_change_29 rfl ?_
      refine xg_ci (pc := 31) (av := [.int ((((12 : Int32) * v7) + v3) - (1 : Int32)), .int v4]) (st := []) (cy := prog_2_method_7_code) (nLy := 4) (rety := (some .int)) (hsy := []) B dZ_change_31 (xj_go_s B dZ_change_31 swZ_25 rfl) swZ_25.2.2.1 swZ_25.2.2.2.1 (by decide) (by decide) (by decide) rfl (fun r9 h9 => cD_sundayOf hl _ _ _ r9 h9) h (fun x1 A2 eA2 h => ?_)
      refine xg_istore (pc := 34) (i := 8) (ls' := [(8, .int x1), (0, xj_rv v0), (3, .int v3), (4, .int v4), (5, .int v5), (6, .int v6), (7, .int v7)]) B dZ_change_34 (by decide) ⟨xj_nq (a := 0) (i := 8) (by decide), xj_nq (a := 3) (i := 8) (by decide), xj_nq (a := 4) (i := 8) (by decide), xj_nq (a := 5) (i := 8) (by decide), xj_nq (a := 6) (i := 8) (by decide), fun _ => rfl, trivial⟩ rfl ?_
      refine xg_bipush (pc := 36) (v := 12) B dZ_change_36 (by decide) ?_
      refine xg_iload (pc := 38) (i := 7) B dZ_change_38 rfl ?_
      refine xg_imul (pc := 40) B dZ_change_40 ?_
      refine xg_iload (pc := 41) (i := 5) B dZ_change_41 rfl ?_
      refine xg_iadd (pc := 43) B dZ_change_43 ?_
      refine xg_iconst (pc := 44) (v := 1) B dZ_change_44 (by decide) ?_
      refine xg_isub (pc := 45) B dZ_change_45 ?_
      refine xg_iload (pc := 46) (i := 6) B dZ_change_46 rfl ?_
      refine xg_ci (pc := 48) (av := [.int ((((12 : Int32) * v7) + v5) - (1 : Int32)), .int v6]) (st := []) (cy := prog_2_method_7_code) (nLy := 4) (rety := (some .int)) (hsy := []) B dZ_change_48 (xj_go_s B dZ_change_48 swZ_25 rfl) swZ_25.2.2.1 swZ_25.2.2.2.1 (by decide) (by decide) (by decide) rfl (fun r9 h9 => cD_sundayOf hl _ _ _ r9 h9) h (fun x3 A4 eA4 h => ?_)
      refine xg_istore (pc := 51) (i := 9) (ls' := [(9, .int x3), (8, .int x1), (0, xj_rv v0), (3, .int v3), (4, .int v4), (5, .int v5), (6, .int v6), (7, .int v7)]) B dZ_change_51 (by decide) ⟨fun _ => rfl, xj_nq (a := 0) (i := 9) (by decide), xj_nq (a := 3) (i := 9) (by decide), xj_nq (a := 4) (i := 9) (by decide), xj_nq (a := 5) (i := 9) (by decide), xj_nq (a := 6) (i := 9) (by decide), xj_nq (a := 7) (i := 9) (by decide), trivial⟩ rfl ?_
      refine xg_aload_n (pc := 53) (i := 0) B dZ_change_53 rfl rfl ?_
      refine xg_getr (pc := 54) B dZ_change_54 flZ_9 h (fun x5 ex5 h => ?_)
      refine xg_iload (pc := 57) (i := 7) B dZ_change_57 rfl ?_
      refine xg_sipush (pc := 59) (v := 1440) B dZ_change_59 (by decide) ?_
      refine xg_iload (pc := 62) (i := 8) B dZ_change_62 rfl ?_
      refine xg_imul (pc := 64) B dZ_change_64 ?_
      refine xg_bipush (pc := 65) (v := 120) B dZ_change_65 (by decide) ?_
      refine xg_iadd (pc := 67) B dZ_change_67 ?_
      refine xg_aload_n (pc := 68) (i := 0) B dZ_change_68 rfl rfl ?_
      refine xg_geti (pc := 69) B dZ_change_69 flZ_18 h (fun x6 ex6 h => ?_)
      refine xg_isub (pc := 72) B dZ_change_72 ?_
      refine xg_iastore (pc := 73) B dZ_change_73 h (fun A7 eA7 h => ?_)
      refine xg_aload_n (pc := 74) (i := 0) B dZ_change_74 rfl rfl ?_
      refine xg_getr (pc := 75) B dZ_change_75 flZ_15 h (fun x8 ex8 h => ?_)
      refine xg_iload (pc := 78) (i := 7) B dZ_change_78 rfl ?_
      refine xg_sipush (pc := 80) (v := 1440) B dZ_change_80 (by decide) ?_
      refine xg_iload (pc := 83) (i := 9) B dZ_change_83 rfl ?_
      refine xg_imul (pc := 85) B dZ_change_85 ?_
      refine xg_sipush (pc := 86) (v := 180) B dZ_change_86 (by decide) ?_
      refine xg_iadd (pc := 89) B dZ_change_89 ?_
      refine xg_aload_n (pc := 90) (i := 0) B dZ_change_90 rfl rfl ?_
      refine xg_geti (pc := 91) B dZ_change_91 flZ_22 h (fun x9 ex9 h => ?_)
      refine xg_isub (pc := 94) B dZ_change_94 ?_
      refine xg_iastore (pc := 95) B dZ_change_95 h (fun A10 eA10 h => ?_)
      refine xg_iinc (pc := 96) (i := 7) (v := (v7 + 1)) (ls' := [(7, .int (v7 + 1)), (9, .int x3), (8, .int x1), (0, xj_rv v0), (3, .int v3), (4, .int v4), (5, .int v5), (6, .int v6)]) B dZ_change_96 rfl (xj_inc_1 _) (by decide) ⟨xj_nq (a := 9) (i := 7) (by decide), xj_nq (a := 8) (i := 7) (by decide), xj_nq (a := 0) (i := 7) (by decide), xj_nq (a := 3) (i := 7) (by decide), xj_nq (a := 4) (i := 7) (by decide), xj_nq (a := 5) (i := 7) (by decide), fun _ => rfl, xj_nq (a := 7) (i := 7) (by decide), trivial⟩ rfl ?_
      refine xg_goto (pc := 99) (tgt := 13) B dZ_change_99 (by decide) ?_
      refine xg_sub (ls' := [(0, xj_rv v0), (3, .int v3), (4, .int v4), (5, .int v5), (6, .int v6), (7, .int (v7 + 1))]) [3, 4, 5, 6, 7, 0] rfl ?_
      exact (wZ_change_13 hl B n) v0 v3 v4 v5 v6 (v7 + 1) A10 h
theorem wZ_change {l : Launch} (hl : l.stackTraces = false) {z : xj_F} (B : xj_B l yZ_change prog_9_method_2_code 10 none [] 4 z) (v0 : xj_Rf) (v1 : Int32) (v2 : Int32) (v3 : Int32) (v4 : Int32) (v5 : Int32) (v6 : Int32) (A : xj_H) (h : fZ_change v0 v1 v2 v3 v4 v5 v6 A = some (xf_r z)) : xj_W l z 0 [(0, xj_rv v0), (1, .int v1), (2, .int v2), (3, .int v3), (4, .int v4), (5, .int v5), (6, .int v6)] [] A := by
  unfold fZ_change at h
  refine xg_aload_n (pc := 0) (i := 0) B dZ_change_0 rfl rfl ?_
  refine xg_iload_n (pc := 1) (i := 1) B dZ_change_1 rfl rfl ?_
  refine xg_puti (pc := 2) B dZ_change_2 (fpZ_18 _) h (fun A1 eA1 h => ?_)
  refine xg_aload_n (pc := 5) (i := 0) B dZ_change_5 rfl rfl ?_
  refine xg_iload_n (pc := 6) (i := 2) B dZ_change_6 rfl rfl ?_
  refine xg_puti (pc := 7) B dZ_change_7 (fpZ_22 _) h (fun A2 eA2 h => ?_)
  refine xg_iconst (pc := 10) (v := 0) B dZ_change_10 (by decide) ?_
  refine xg_istore (pc := 11) (i := 7) (ls' := [(7, .int (0 : Int32)), (0, xj_rv v0), (1, .int v1), (2, .int v2), (3, .int v3), (4, .int v4), (5, .int v5), (6, .int v6)]) B dZ_change_11 (by decide) ⟨xj_nq (a := 0) (i := 7) (by decide), xj_nq (a := 1) (i := 7) (by decide), xj_nq (a := 2) (i := 7) (by decide), xj_nq (a := 3) (i := 7) (by decide), xj_nq (a := 4) (i := 7) (by decide), xj_nq (a := 5) (i := 7) (by decide), fun _ => rfl, trivial⟩ rfl ?_
  refine xg_sub (ls' := [(0, xj_rv v0), (3, .int v3), (4, .int v4), (5, .int v5), (6, .int v6), (7, .int (0 : Int32))]) [1, 4, 5, 6, 7, 0] rfl ?_
  exact wZ_change_13 hl B xj_fu v0 v3 v4 v5 v6 (0 : Int32) A2 h
theorem cZ_change {l : Launch} (hl : l.stackTraces = false) (v0 : xj_Rf) (v1 : Int32) (v2 : Int32) (v3 : Int32) (v4 : Int32) (v5 : Int32) (v6 : Int32) (A : xj_H) (r : xj_R) (h : fZ_change v0 v1 v2 v3 v4 v5 v6 A = some r) : xj_M l yZ_change prog_9_method_2_code 10 none [] 4 [xj_rv v0, .int v1, .int v2, .int v3, .int v4, .int v5, .int v6] A r := by
  refine xj_M.of hl (by decide +kernel) (by simp [lg_sl, xj_ic, xj_lc, xj_rv_cat]) (fun z B hA hr => ?_)
  subst hr
  have hw := wZ_change hl B v0 v1 v2 v3 v4 v5 v6 A h
  simpa [lv_args, xj_ic, xj_lc, xj_rv_cat] using hw
/-! RecurrenceBook$Event.<init>()V -/
def fE_init (v0 : xj_Rf) (A : xj_H) : Option xj_R :=
  if xj_isw v0 = true then
  (xj_mk A (.inl (0, 200, .inl (fun _ => 0))) 200).bind fun A1 =>
  (xj_pv A1 v0 2 0 (xj_rv (xj_o A.1.length))).bind fun A2 =>
  (xj_mk A2 (.inl (0, 200, .inl (fun _ => 0))) 200).bind fun A3 =>
  (xj_pv A3 v0 2 1 (xj_rv (xj_o A2.1.length))).bind fun A4 =>
  some (.inl none, A4)
  else none
theorem wE_init {l : Launch} (hl : l.stackTraces = false) {z : xj_F} (B : xj_B l yE_init prog_3_method_1_code 1 none [] 1 z) (v0 : xj_Rf) (A : xj_H) (h : fE_init v0 A = some (xf_r z)) : xj_W l z 0 [(0, xj_rv v0)] [] A := by
  unfold fE_init at h
  refine xg_aload_n (pc := 0) (i := 0) B dE_init_0 rfl rfl ?_
  obtain ⟨a1, ha1, h⟩ := xj_isw_inv h
  refine xg_objInit (pc := 1) B ha1 dE_init_1 owE_3 ow_i ow_c (by decide) (by decide) ?_
  refine xg_aload_n (pc := 4) (i := 0) B dE_init_4 rfl rfl ?_
  refine xg_sipush (pc := 5) (v := 200) B dE_init_5 (by decide) ?_
  refine xg_newa (pc := 8) (t := 0) (N := 200) (a1 := .inl (fun _ => 0)) B dE_init_8 rfl (fun _ => rfl) (fun _ h9 => by cases h9) aw_int (fun _ => rfl) (fun _ _ => rfl) (fun _ => trivial) (by decide) (by decide) (by decide) h (fun A1 eA1 h => ?_)
  refine xg_putr (pc := 10) B (Or.inr ⟨_, rfl⟩) dE_init_10 fpE_9 h (fun A2 eA2 h => ?_)
  refine xg_aload_n (pc := 13) (i := 0) B dE_init_13 rfl rfl ?_
  refine xg_sipush (pc := 14) (v := 200) B dE_init_14 (by decide) ?_
  refine xg_newa (pc := 17) (t := 0) (N := 200) (a1 := .inl (fun _ => 0)) B dE_init_17 rfl (fun _ => rfl) (fun _ h9 => by cases h9) aw_int (fun _ => rfl) (fun _ _ => rfl) (fun _ => trivial) (by decide) (by decide) (by decide) h (fun A3 eA3 h => ?_)
  refine xg_putr (pc := 19) B (Or.inr ⟨_, rfl⟩) dE_init_19 fpE_15 h (fun A4 eA4 h => ?_)
  exact xg_vret B dE_init_22 h
theorem cE_init {l : Launch} (hl : l.stackTraces = false) (v0 : xj_Rf) (A : xj_H) (r : xj_R) (h : fE_init v0 A = some r) : xj_M l yE_init prog_3_method_1_code 1 none [] 1 [xj_rv v0] A r := by
  refine xj_M.of hl (by decide +kernel) (by simp [lg_sl, xj_ic, xj_lc, xj_rv_cat]) (fun z B hA hr => ?_)
  subst hr
  have hw := wE_init hl B v0 A h
  simpa [lv_args, xj_ic, xj_lc, xj_rv_cat] using hw
/-! RecurrenceBook$Spans.<init>()V -/
def fS_init (v0 : xj_Rf) (A : xj_H) : Option xj_R :=
  if xj_isw v0 = true then
  (xj_mk A (.inl (0, 1600, .inl (fun _ => 0))) 1600).bind fun A1 =>
  (xj_pv A1 v0 3 0 (xj_rv (xj_o A.1.length))).bind fun A2 =>
  (xj_mk A2 (.inl (0, 1600, .inl (fun _ => 0))) 1600).bind fun A3 =>
  (xj_pv A3 v0 3 1 (xj_rv (xj_o A2.1.length))).bind fun A4 =>
  (xj_pv A4 v0 3 2 (.int (0 : Int32))).bind fun A5 =>
  some (.inl none, A5)
  else none
theorem wS_init {l : Launch} (hl : l.stackTraces = false) {z : xj_F} (B : xj_B l yS_init prog_7_method_1_code 1 none [] 1 z) (v0 : xj_Rf) (A : xj_H) (h : fS_init v0 A = some (xf_r z)) : xj_W l z 0 [(0, xj_rv v0)] [] A := by
  unfold fS_init at h
  refine xg_aload_n (pc := 0) (i := 0) B dS_init_0 rfl rfl ?_
  obtain ⟨a1, ha1, h⟩ := xj_isw_inv h
  refine xg_objInit (pc := 1) B ha1 dS_init_1 owS_3 ow_i ow_c (by decide) (by decide) ?_
  refine xg_aload_n (pc := 4) (i := 0) B dS_init_4 rfl rfl ?_
  refine xg_sipush (pc := 5) (v := 1600) B dS_init_5 (by decide) ?_
  refine xg_newa (pc := 8) (t := 0) (N := 1600) (a1 := .inl (fun _ => 0)) B dS_init_8 rfl (fun _ => rfl) (fun _ h9 => by cases h9) aw_int (fun _ => rfl) (fun _ _ => rfl) (fun _ => trivial) (by decide) (by decide) (by decide) h (fun A1 eA1 h => ?_)
  refine xg_putr (pc := 10) B (Or.inr ⟨_, rfl⟩) dS_init_10 fpS_9 h (fun A2 eA2 h => ?_)
  refine xg_aload_n (pc := 13) (i := 0) B dS_init_13 rfl rfl ?_
  refine xg_sipush (pc := 14) (v := 1600) B dS_init_14 (by decide) ?_
  refine xg_newa (pc := 17) (t := 0) (N := 1600) (a1 := .inl (fun _ => 0)) B dS_init_17 rfl (fun _ => rfl) (fun _ h9 => by cases h9) aw_int (fun _ => rfl) (fun _ _ => rfl) (fun _ => trivial) (by decide) (by decide) (by decide) h (fun A3 eA3 h => ?_)
  refine xg_putr (pc := 19) B (Or.inr ⟨_, rfl⟩) dS_init_19 fpS_15 h (fun A4 eA4 h => ?_)
  refine xg_aload_n (pc := 22) (i := 0) B dS_init_22 rfl rfl ?_
  refine xg_iconst (pc := 23) (v := 0) B dS_init_23 (by decide) ?_
  refine xg_puti (pc := 24) B dS_init_24 (fpS_18 _) h (fun A5 eA5 h => ?_)
  exact xg_vret B dS_init_27 h
theorem cS_init {l : Launch} (hl : l.stackTraces = false) (v0 : xj_Rf) (A : xj_H) (r : xj_R) (h : fS_init v0 A = some r) : xj_M l yS_init prog_7_method_1_code 1 none [] 1 [xj_rv v0] A r := by
  refine xj_M.of hl (by decide +kernel) (by simp [lg_sl, xj_ic, xj_lc, xj_rv_cat]) (fun z B hA hr => ?_)
  subst hr
  have hw := wS_init hl B v0 A h
  simpa [lv_args, xj_ic, xj_lc, xj_rv_cat] using hw
/-! RecurrenceBook.<init>()V -/
def fB_init_53 : Nat → xj_Rf → Int32 → xj_H → Option xj_R
  | 0, _, _, _ => none
  | n + 1, v0, v1, A =>
    if (8 : Int32) ≤ v1 then
      (xj_pv A v0 0 4 (.int (0 : Int32))).bind fun A1 =>
      (xj_mk A1 (.inl (0, 8, .inl (fun _ => 0))) 8).bind fun A2 =>
      (xj_pv A2 v0 0 5 (xj_rv (xj_o A1.1.length))).bind fun A3 =>
      (xj_mk A3 (.inr (3, [.null, .null, .int 0, .int 0, .int 0])) 5).bind fun A4 =>
      xj_bv (fS_init (xj_o A3.1.length) A4) fun A5 =>
      (xj_pv A5 v0 0 6 (xj_rv (xj_o A3.1.length))).bind fun A6 =>
      some (.inl none, A6)
    else
      (xj_gr A v0 0 3).bind fun x7 =>
      (xj_mk A (.inr (2, [.null, .null, .int 0, .int 0, .int 0, .int 0])) 6).bind fun A8 =>
      xj_bv (fE_init (xj_o A.1.length) A8) fun A9 =>
      (xj_ras A9 x7 v1 2 (xj_o A.1.length)).bind fun A10 =>
      (fB_init_53 n) v0 (v1 + 1) A10
def fB_init (v0 : xj_Rf) (A : xj_H) : Option xj_R :=
  if xj_isw v0 = true then
  (xj_mk A (.inl (1, 60, .inl (fun _ => 0))) 60).bind fun A1 =>
  (xj_pv A1 v0 0 0 (xj_rv (xj_o A.1.length))).bind fun A2 =>
  (xj_pv A2 v0 0 1 (.int (0 : Int32))).bind fun A3 =>
  (xj_mk A3 (.inr (1, [.int 0, .int 0, .null, .null])) 4).bind fun A4 =>
  xj_bv (fZ_init (xj_o A3.1.length) A4) fun A5 =>
  (xj_pv A5 v0 0 2 (xj_rv (xj_o A3.1.length))).bind fun A6 =>
  (xj_gr A6 v0 0 2).bind fun x7 =>
  xj_bv (xj_rq A6 x7 1 (fZ_change x7 (0 : Int32) (0 : Int32) (3 : Int32) (5 : Int32) (10 : Int32) (5 : Int32) A6)) fun A8 =>
  (xj_mk A8 (.inl (4, 8, .inr (.inr (.inr (.inr (fun _ => none)))))) 8).bind fun A9 =>
  (xj_pv A9 v0 0 3 (xj_rv (xj_o A8.1.length))).bind fun A10 =>
  fB_init_53 xj_fu v0 (0 : Int32) A10
  else none
theorem wB_init_53 {l : Launch} (hl : l.stackTraces = false) {z : xj_F} (B : xj_B l yB_init prog_1_method_1_code 2 none [] 5 z) : ∀ (n : Nat) (v0 : xj_Rf) (v1 : Int32) (A : xj_H), fB_init_53 n v0 v1 A = some (xf_r z) → xj_W l z 53 [(0, xj_rv v0), (1, .int v1)] [] A
  | 0, _, _, _, h => by simp [fB_init_53] at h
  | n + 1, v0, v1, A, h => by
    rw [fB_init_53] at h
    refine xg_iload_n (pc := 53) (i := 1) B dB_init_53 rfl rfl ?_
    refine xg_bipush (pc := 54) (v := 8) B dB_init_54 (by decide) ?_
    refine xg_icmp_ge (pc := 56) (tgt := 78) B dB_init_56 (by decide) h (fun c56 h => ?_) (fun c56 h => ?_)
    · refine xg_aload_n (pc := 78) (i := 0) B dB_init_78 rfl rfl ?_
      refine xg_iconst (pc := 79) (v := 0) B dB_init_79 (by decide) ?_
      refine xg_puti (pc := 80) B dB_init_80 (fpB_35 _) h (fun A1 eA1 h => ?_)
      refine xg_aload_n (pc := 83) (i := 0) B dB_init_83 rfl rfl ?_
      refine xg_bipush (pc := 84) (v := 8) B dB_init_84 (by decide) ?_
      refine xg_newa (pc := 86) (t := 0) (N := 8) (a1 := .inl (fun _ => 0)) B dB_init_86 rfl (fun _ => rfl) (fun _ h9 => by cases h9) aw_int (fun _ => rfl) (fun _ _ => rfl) (fun _ => trivial) (by decide) (by decide) (by decide) h (fun A2 eA2 h => ?_)
      refine xg_putr (pc := 88) B (Or.inr ⟨_, rfl⟩) dB_init_88 fpB_38 h (fun A3 eA3 h => ?_)
      refine xg_aload_n (pc := 91) (i := 0) B dB_init_91 rfl rfl ?_
      refine xg_new (pc := 92) B dB_init_92 nkB_42 h (fun A4 eA4 h => ?_)
      refine xg_dup (pc := 95) B dB_init_95 (xj_rv_cat _) ?_
      refine xg_cv (pc := 96) (av := [xj_rv (xj_o A3.1.length)]) (st := [xj_rv (xj_o A3.1.length), xj_rv v0]) (cy := prog_7_method_1_code) (nLy := 1) (rety := none) (hsy := []) B dB_init_96 (xj_go_i B dB_init_96 iwB_44 rfl) iwB_44.2.2.1 iwB_44.2.2.2.1 (by decide) (by decide) (by simp [xj_ic, xj_lc, xj_rv_cat]) rfl (fun r9 h9 => cS_init hl _ _ r9 h9) h (fun A5 eA5 h => ?_)
      refine xg_putr (pc := 99) B (Or.inl ⟨_, rfl⟩) dB_init_99 fpB_45 h (fun A6 eA6 h => ?_)
      exact xg_vret B dB_init_102 h
    · refine xg_aload_n (pc := 59) (i := 0) B dB_init_59 rfl rfl ?_
      refine xg_getr (pc := 60) B dB_init_60 flB_30 h (fun x7 ex7 h => ?_)
      refine xg_iload_n (pc := 63) (i := 1) B dB_init_63 rfl rfl ?_
      refine xg_new (pc := 64) B dB_init_64 nkB_28 h (fun A8 eA8 h => ?_)
      refine xg_dup (pc := 67) B dB_init_67 (xj_rv_cat _) ?_
      refine xg_cv (pc := 68) (av := [xj_rv (xj_o A.1.length)]) (st := [xj_rv (xj_o A.1.length), .int v1, xj_rv x7]) (cy := prog_3_method_1_code) (nLy := 1) (rety := none) (hsy := []) B dB_init_68 (xj_go_i B dB_init_68 iwB_34 rfl) iwB_34.2.2.1 iwB_34.2.2.2.1 (by decide) (by decide) (by simp [xj_ic, xj_lc, xj_rv_cat]) rfl (fun r9 h9 => cE_init hl _ _ r9 h9) h (fun A9 eA9 h => ?_)
      refine xg_aastore (pc := 71) B ⟨_, rfl, rfl⟩ dB_init_71 h (fun A10 eA10 h => ?_)
      refine xg_iinc (pc := 72) (i := 1) (v := (v1 + 1)) (ls' := [(1, .int (v1 + 1)), (0, xj_rv v0)]) B dB_init_72 rfl (xj_inc_1 _) (by decide) ⟨fun _ => xj_rv_cat _, xj_nq (a := 1) (i := 1) (by decide), trivial⟩ rfl ?_
      refine xg_goto (pc := 75) (tgt := 53) B dB_init_75 (by decide) ?_
      refine xg_sub (ls' := [(0, xj_rv v0), (1, .int (v1 + 1))]) [1, 0] rfl ?_
      exact (wB_init_53 hl B n) v0 (v1 + 1) A10 h
theorem wB_init {l : Launch} (hl : l.stackTraces = false) {z : xj_F} (B : xj_B l yB_init prog_1_method_1_code 2 none [] 5 z) (v0 : xj_Rf) (A : xj_H) (h : fB_init v0 A = some (xf_r z)) : xj_W l z 0 [(0, xj_rv v0)] [] A := by
  unfold fB_init at h
  refine xg_aload_n (pc := 0) (i := 0) B dB_init_0 rfl rfl ?_
  obtain ⟨a1, ha1, h⟩ := xj_isw_inv h
  refine xg_objInit (pc := 1) B ha1 dB_init_1 owB_3 ow_i ow_c (by decide) (by decide) ?_
  refine xg_aload_n (pc := 4) (i := 0) B dB_init_4 rfl rfl ?_
  refine xg_bipush (pc := 5) (v := 60) B dB_init_5 (by decide) ?_
  refine xg_newa (pc := 7) (t := 1) (N := 60) (a1 := .inl (fun _ => 0)) B dB_init_7 rfl (fun _ => rfl) (fun _ h9 => by cases h9) aw_char (fun _ => rfl) (fun _ _ => rfl) (fun _ => trivial) (by decide) (by decide) (by decide) h (fun A1 eA1 h => ?_)
  refine xg_putr (pc := 9) B (Or.inr ⟨_, rfl⟩) dB_init_9 fpB_9 h (fun A2 eA2 h => ?_)
  refine xg_aload_n (pc := 12) (i := 0) B dB_init_12 rfl rfl ?_
  refine xg_iconst (pc := 13) (v := 0) B dB_init_13 (by decide) ?_
  refine xg_puti (pc := 14) B dB_init_14 (fpB_13 _) h (fun A3 eA3 h => ?_)
  refine xg_aload_n (pc := 17) (i := 0) B dB_init_17 rfl rfl ?_
  refine xg_new (pc := 18) B dB_init_18 nkB_17 h (fun A4 eA4 h => ?_)
  refine xg_dup (pc := 21) B dB_init_21 (xj_rv_cat _) ?_
  refine xg_cv (pc := 22) (av := [xj_rv (xj_o A3.1.length)]) (st := [xj_rv (xj_o A3.1.length), xj_rv v0]) (cy := prog_9_method_1_code) (nLy := 1) (rety := none) (hsy := []) B dB_init_22 (xj_go_i B dB_init_22 iwB_19 rfl) iwB_19.2.2.1 iwB_19.2.2.2.1 (by decide) (by decide) (by simp [xj_ic, xj_lc, xj_rv_cat]) rfl (fun r9 h9 => cZ_init hl _ _ r9 h9) h (fun A5 eA5 h => ?_)
  refine xg_putr (pc := 25) B (Or.inl ⟨_, rfl⟩) dB_init_25 fpB_20 h (fun A6 eA6 h => ?_)
  refine xg_aload_n (pc := 28) (i := 0) B dB_init_28 rfl rfl ?_
  refine xg_getr (pc := 29) B dB_init_29 flB_20 h (fun x7 ex7 h => ?_)
  refine xg_iconst (pc := 32) (v := 0) B dB_init_32 (by decide) ?_
  refine xg_iconst (pc := 33) (v := 0) B dB_init_33 (by decide) ?_
  refine xg_iconst (pc := 34) (v := 3) B dB_init_34 (by decide) ?_
  refine xg_iconst (pc := 35) (v := 5) B dB_init_35 (by decide) ?_
  refine xg_bipush (pc := 36) (v := 10) B dB_init_36 (by decide) ?_
  refine xg_iconst (pc := 38) (v := 5) B dB_init_38 (by decide) ?_
  obtain ⟨hq39, h⟩ := xj_rq_v h
  refine xg_cv (pc := 39) (av := [xj_rv x7, .int (0 : Int32), .int (0 : Int32), .int (3 : Int32), .int (5 : Int32), .int (10 : Int32), .int (5 : Int32)]) (st := []) (cy := prog_9_method_2_code) (nLy := 10) (rety := none) (hsy := []) B dB_init_39 (xj_go_v B dB_init_39 vwB_24 rfl hq39) (xj_vw_c vwB_24) (xj_vw_i vwB_24) (by decide) (by decide) (by decide) rfl (fun r9 h9 => cZ_change hl _ _ _ _ _ _ _ _ r9 h9) h (fun A8 eA8 h => ?_)
  refine xg_aload_n (pc := 42) (i := 0) B dB_init_42 rfl rfl ?_
  refine xg_bipush (pc := 43) (v := 8) B dB_init_43 (by decide) ?_
  refine xg_newq (pc := 45) (N := 8) B dB_init_45 clB_28 (by decide) (by decide) (by decide) h (fun A9 eA9 h => ?_)
  refine xg_putr (pc := 48) B (Or.inr ⟨_, rfl⟩) dB_init_48 fpB_30 h (fun A10 eA10 h => ?_)
  refine xg_iconst (pc := 51) (v := 0) B dB_init_51 (by decide) ?_
  refine xg_istore_n (pc := 52) (i := 1) (ls' := [(1, .int (0 : Int32)), (0, xj_rv v0)]) B dB_init_52 rfl (by decide) ⟨fun _ => xj_rv_cat _, trivial⟩ rfl ?_
  refine xg_sub (ls' := [(0, xj_rv v0), (1, .int (0 : Int32))]) [1, 0] rfl ?_
  exact wB_init_53 hl B xj_fu v0 (0 : Int32) A10 h
theorem cB_init {l : Launch} (hl : l.stackTraces = false) (v0 : xj_Rf) (A : xj_H) (r : xj_R) (h : fB_init v0 A = some r) : xj_M l yB_init prog_1_method_1_code 2 none [] 5 [xj_rv v0] A r := by
  refine xj_M.of hl (by decide +kernel) (by simp [lg_sl, xj_ic, xj_lc, xj_rv_cat]) (fun z B hA hr => ?_)
  subst hr
  have hw := wB_init hl B v0 A h
  simpa [lv_args, xj_ic, xj_lc, xj_rv_cat] using hw
/-! RecurrenceBook.type(C)Z -/
def fB_type (v0 : xj_Rf) (v1 : Int32) (A : xj_H) : Option xj_R :=
  (xj_gi A v0 0 1).bind fun x1 =>
  if x1 < (60 : Int32) then
    (xj_gr A v0 0 0).bind fun x2 =>
    (xj_gi A v0 0 1).bind fun x3 =>
    (xj_as A x2 1 x3 (vp_nar .char v1)).bind fun A4 =>
    (xj_gi A4 v0 0 1).bind fun x5 =>
    (xj_pv A4 v0 0 1 (.int (x5 + (1 : Int32)))).bind fun A6 =>
    xj_rz (1 : Int32) A6
  else
    xj_rz (0 : Int32) A
theorem wB_type {l : Launch} (hl : l.stackTraces = false) {z : xj_F} (B : xj_B l yB_type prog_1_method_2_code 2 (some .boolean) [] 1 z) (v0 : xj_Rf) (v1 : Int32) (A : xj_H) (h : fB_type v0 v1 A = some (xf_r z)) : xj_W l z 0 [(0, xj_rv v0), (1, .int v1)] [] A := by
  unfold fB_type at h
  refine xg_aload_n (pc := 0) (i := 0) B dB_type_0 rfl rfl ?_
  refine xg_geti (pc := 1) B dB_type_1 flB_13 h (fun x1 ex1 h => ?_)
  refine xg_bipush (pc := 4) (v := 60) B dB_type_4 (by decide) ?_
  refine xg_icmp_lt (pc := 6) (tgt := 11) B dB_type_6 (by decide) h (fun c6 h => ?_) (fun c6 h => ?_)
  · refine xg_aload_n (pc := 11) (i := 0) B dB_type_11 rfl rfl ?_
    refine xg_getr (pc := 12) B dB_type_12 flB_9 h (fun x2 ex2 h => ?_)
    refine xg_aload_n (pc := 15) (i := 0) B dB_type_15 rfl rfl ?_
    refine xg_geti (pc := 16) B dB_type_16 flB_13 h (fun x3 ex3 h => ?_)
    refine xg_iload_n (pc := 19) (i := 1) B dB_type_19 rfl rfl ?_
    refine xg_castore (pc := 20) B dB_type_20 h (fun A4 eA4 h => ?_)
    refine xg_aload_n (pc := 21) (i := 0) B dB_type_21 rfl rfl ?_
    refine xg_dup (pc := 22) B dB_type_22 (xj_rv_cat _) ?_
    refine xg_geti (pc := 23) B dB_type_23 flB_13 h (fun x5 ex5 h => ?_)
    refine xg_iconst (pc := 26) (v := 1) B dB_type_26 (by decide) ?_
    refine xg_iadd (pc := 27) B dB_type_27 ?_
    refine xg_puti (pc := 28) B dB_type_28 (fpB_13 _) h (fun A6 eA6 h => ?_)
    refine xg_iconst (pc := 31) (v := 1) B dB_type_31 (by decide) ?_
    exact xg_zret B dB_type_32 h
  · refine xg_iconst (pc := 9) (v := 0) B dB_type_9 (by decide) ?_
    exact xg_zret B dB_type_10 h
theorem cB_type {l : Launch} (hl : l.stackTraces = false) (v0 : xj_Rf) (v1 : Int32) (A : xj_H) (r : xj_R) (h : fB_type v0 v1 A = some r) : xj_M l yB_type prog_1_method_2_code 2 (some .boolean) [] 1 [xj_rv v0, .int v1] A r := by
  refine xj_M.of hl (by decide +kernel) (by simp [lg_sl, xj_ic, xj_lc, xj_rv_cat]) (fun z B hA hr => ?_)
  subst hr
  have hw := wB_type hl B v0 v1 A h
  simpa [lv_args, xj_ic, xj_lc, xj_rv_cat] using hw
/-! RecurrenceBook.isOffset(I)Z -/
def fB_isOffset_19 (s0 : Int32) (A : xj_H) : Option xj_R :=
  xj_rz s0 A
def fB_isOffset_18 (A : xj_H) : Option xj_R :=
  fB_isOffset_19 (0 : Int32) A
def fB_isOffset (v0 : Int32) (A : xj_H) : Option xj_R :=
  if v0 < (-840 : Int32) then
    fB_isOffset_18  A
  else
    if (840 : Int32) < v0 then
      fB_isOffset_18  A
    else
      fB_isOffset_19 (1 : Int32) A
theorem wB_isOffset_19 {l : Launch} (hl : l.stackTraces = false) {z : xj_F} (B : xj_B l yB_isOffset prog_1_method_18_code 1 (some .boolean) [] 1 z) (s0 : Int32) (A : xj_H) (h : fB_isOffset_19 s0 A = some (xf_r z)) : xj_W l z 19 [] [.int s0] A := by
  unfold fB_isOffset_19 at h
  exact xg_zret B dB_isOffset_19 h
theorem wB_isOffset_18 {l : Launch} (hl : l.stackTraces = false) {z : xj_F} (B : xj_B l yB_isOffset prog_1_method_18_code 1 (some .boolean) [] 1 z) (A : xj_H) (h : fB_isOffset_18  A = some (xf_r z)) : xj_W l z 18 [] [] A := by
  unfold fB_isOffset_18 at h
  refine xg_iconst (pc := 18) (v := 0) B dB_isOffset_18 (by decide) ?_
  exact wB_isOffset_19 hl B (0 : Int32) A h
theorem wB_isOffset {l : Launch} (hl : l.stackTraces = false) {z : xj_F} (B : xj_B l yB_isOffset prog_1_method_18_code 1 (some .boolean) [] 1 z) (v0 : Int32) (A : xj_H) (h : fB_isOffset v0 A = some (xf_r z)) : xj_W l z 0 [(0, .int v0)] [] A := by
  unfold fB_isOffset at h
  refine xg_iload_n (pc := 0) (i := 0) B dB_isOffset_0 rfl rfl ?_
  refine xg_sipush (pc := 1) (v := -840) B dB_isOffset_1 (by decide) ?_
  refine xg_icmp_lt (pc := 4) (tgt := 18) B dB_isOffset_4 (by decide) h (fun c4 h => ?_) (fun c4 h => ?_)
  · refine xg_sub (ls' := []) [] rfl ?_
    exact wB_isOffset_18 hl B  A h
  · refine xg_iload_n (pc := 7) (i := 0) B dB_isOffset_7 rfl rfl ?_
    refine xg_sipush (pc := 8) (v := 840) B dB_isOffset_8 (by decide) ?_
    refine xg_icmp_gt (pc := 11) (tgt := 18) B dB_isOffset_11 (by decide) h (fun c11 h => ?_) (fun c11 h => ?_)
    · refine xg_sub (ls' := []) [] rfl ?_
      exact wB_isOffset_18 hl B  A h
    · refine xg_iconst (pc := 14) (v := 1) B dB_isOffset_14 (by decide) ?_
      refine xg_goto (pc := 15) (tgt := 19) B dB_isOffset_15 (by decide) ?_
      refine xg_sub (ls' := []) [] rfl ?_
      exact wB_isOffset_19 hl B (1 : Int32) A h
theorem cB_isOffset {l : Launch} (hl : l.stackTraces = false) (v0 : Int32) (A : xj_H) (r : xj_R) (h : fB_isOffset v0 A = some r) : xj_M l yB_isOffset prog_1_method_18_code 1 (some .boolean) [] 1 [.int v0] A r := by
  refine xj_M.of hl (by decide +kernel) (by simp [lg_sl, xj_ic, xj_lc, xj_rv_cat]) (fun z B hA hr => ?_)
  subst hr
  have hw := wB_isOffset hl B v0 A h
  simpa [lv_args, xj_ic, xj_lc, xj_rv_cat] using hw
/-! RecurrenceBook.isMonth(I)Z -/
def fB_isMonth_16 (s0 : Int32) (A : xj_H) : Option xj_R :=
  xj_rz s0 A
def fB_isMonth_15 (A : xj_H) : Option xj_R :=
  fB_isMonth_16 (0 : Int32) A
def fB_isMonth (v0 : Int32) (A : xj_H) : Option xj_R :=
  if v0 < (1 : Int32) then
    fB_isMonth_15  A
  else
    if (12 : Int32) < v0 then
      fB_isMonth_15  A
    else
      fB_isMonth_16 (1 : Int32) A
theorem wB_isMonth_16 {l : Launch} (hl : l.stackTraces = false) {z : xj_F} (B : xj_B l yB_isMonth prog_1_method_19_code 1 (some .boolean) [] 1 z) (s0 : Int32) (A : xj_H) (h : fB_isMonth_16 s0 A = some (xf_r z)) : xj_W l z 16 [] [.int s0] A := by
  unfold fB_isMonth_16 at h
  exact xg_zret B dB_isMonth_16 h
theorem wB_isMonth_15 {l : Launch} (hl : l.stackTraces = false) {z : xj_F} (B : xj_B l yB_isMonth prog_1_method_19_code 1 (some .boolean) [] 1 z) (A : xj_H) (h : fB_isMonth_15  A = some (xf_r z)) : xj_W l z 15 [] [] A := by
  unfold fB_isMonth_15 at h
  refine xg_iconst (pc := 15) (v := 0) B dB_isMonth_15 (by decide) ?_
  exact wB_isMonth_16 hl B (0 : Int32) A h
theorem wB_isMonth {l : Launch} (hl : l.stackTraces = false) {z : xj_F} (B : xj_B l yB_isMonth prog_1_method_19_code 1 (some .boolean) [] 1 z) (v0 : Int32) (A : xj_H) (h : fB_isMonth v0 A = some (xf_r z)) : xj_W l z 0 [(0, .int v0)] [] A := by
  unfold fB_isMonth at h
  refine xg_iload_n (pc := 0) (i := 0) B dB_isMonth_0 rfl rfl ?_
  refine xg_iconst (pc := 1) (v := 1) B dB_isMonth_1 (by decide) ?_
  refine xg_icmp_lt (pc := 2) (tgt := 15) B dB_isMonth_2 (by decide) h (fun c2 h => ?_) (fun c2 h => ?_)
  · refine xg_sub (ls' := []) [] rfl ?_
    exact wB_isMonth_15 hl B  A h
  · refine xg_iload_n (pc := 5) (i := 0) B dB_isMonth_5 rfl rfl ?_
    refine xg_bipush (pc := 6) (v := 12) B dB_isMonth_6 (by decide) ?_
    refine xg_icmp_gt (pc := 8) (tgt := 15) B dB_isMonth_8 (by decide) h (fun c8 h => ?_) (fun c8 h => ?_)
    · refine xg_sub (ls' := []) [] rfl ?_
      exact wB_isMonth_15 hl B  A h
    · refine xg_iconst (pc := 11) (v := 1) B dB_isMonth_11 (by decide) ?_
      refine xg_goto (pc := 12) (tgt := 16) B dB_isMonth_12 (by decide) ?_
      refine xg_sub (ls' := []) [] rfl ?_
      exact wB_isMonth_16 hl B (1 : Int32) A h
theorem cB_isMonth {l : Launch} (hl : l.stackTraces = false) (v0 : Int32) (A : xj_H) (r : xj_R) (h : fB_isMonth v0 A = some r) : xj_M l yB_isMonth prog_1_method_19_code 1 (some .boolean) [] 1 [.int v0] A r := by
  refine xj_M.of hl (by decide +kernel) (by simp [lg_sl, xj_ic, xj_lc, xj_rv_cat]) (fun z B hA hr => ?_)
  subst hr
  have hw := wB_isMonth hl B v0 A h
  simpa [lv_args, xj_ic, xj_lc, xj_rv_cat] using hw
/-! RecurrenceBook$Dates.yearOf(I)I -/
def fD_yearOf (v0 : Int32) (A : xj_H) : Option xj_R :=
  some (.inl (some (.int (((4 : Int32) * v0) / (1461 : Int32)))), A)
theorem wD_yearOf {l : Launch} (hl : l.stackTraces = false) {z : xj_F} (B : xj_B l yD_yearOf prog_2_method_3_code 1 (some .int) [] 1 z) (v0 : Int32) (A : xj_H) (h : fD_yearOf v0 A = some (xf_r z)) : xj_W l z 0 [(0, .int v0)] [] A := by
  unfold fD_yearOf at h
  refine xg_iconst (pc := 0) (v := 4) B dD_yearOf_0 (by decide) ?_
  refine xg_iload_n (pc := 1) (i := 0) B dD_yearOf_1 rfl rfl ?_
  refine xg_imul (pc := 2) B dD_yearOf_2 ?_
  refine xg_sipush (pc := 3) (v := 1461) B dD_yearOf_3 (by decide) ?_
  refine xg_idiv (pc := 6) B dD_yearOf_6 (by decide) ?_
  exact xg_iret B dD_yearOf_7 h
theorem cD_yearOf {l : Launch} (hl : l.stackTraces = false) (v0 : Int32) (A : xj_H) (r : xj_R) (h : fD_yearOf v0 A = some r) : xj_M l yD_yearOf prog_2_method_3_code 1 (some .int) [] 1 [.int v0] A r := by
  refine xj_M.of hl (by decide +kernel) (by simp [lg_sl, xj_ic, xj_lc, xj_rv_cat]) (fun z B hA hr => ?_)
  subst hr
  have hw := wD_yearOf hl B v0 A h
  simpa [lv_args, xj_ic, xj_lc, xj_rv_cat] using hw
/-! java/lang/Math.min(II)I -/
def fJ_min_10 (s0 : Int32) (A : xj_H) : Option xj_R :=
  some (.inl (some (.int s0)), A)
def fJ_min (v0 : Int32) (v1 : Int32) (A : xj_H) : Option xj_R :=
  if v1 < v0 then
    fJ_min_10 v1 A
  else
    fJ_min_10 v0 A
theorem wJ_min_10 {l : Launch} (hl : l.stackTraces = false) {z : xj_F} (B : xj_B l yJ_min prog_16_method_69_code 2 (some .int) [] 1 z) (s0 : Int32) (A : xj_H) (h : fJ_min_10 s0 A = some (xf_r z)) : xj_W l z 10 [] [.int s0] A := by
  unfold fJ_min_10 at h
  exact xg_iret B dJ_min_10 h
theorem wJ_min {l : Launch} (hl : l.stackTraces = false) {z : xj_F} (B : xj_B l yJ_min prog_16_method_69_code 2 (some .int) [] 1 z) (v0 : Int32) (v1 : Int32) (A : xj_H) (h : fJ_min v0 v1 A = some (xf_r z)) : xj_W l z 0 [(0, .int v0), (1, .int v1)] [] A := by
  unfold fJ_min at h
  refine xg_iload_n (pc := 0) (i := 0) B dJ_min_0 rfl rfl ?_
  refine xg_iload_n (pc := 1) (i := 1) B dJ_min_1 rfl rfl ?_
  refine xg_icmp_gt (pc := 2) (tgt := 9) B dJ_min_2 (by decide) h (fun c2 h => ?_) (fun c2 h => ?_)
  · refine xg_iload_n (pc := 9) (i := 1) B dJ_min_9 rfl rfl ?_
    refine xg_sub (ls' := []) [] rfl ?_
    exact wJ_min_10 hl B v1 A h
  · refine xg_iload_n (pc := 5) (i := 0) B dJ_min_5 rfl rfl ?_
    refine xg_goto (pc := 6) (tgt := 10) B dJ_min_6 (by decide) ?_
    refine xg_sub (ls' := []) [] rfl ?_
    exact wJ_min_10 hl B v0 A h
theorem cJ_min {l : Launch} (hl : l.stackTraces = false) (v0 : Int32) (v1 : Int32) (A : xj_H) (r : xj_R) (h : fJ_min v0 v1 A = some r) : xj_M l yJ_min prog_16_method_69_code 2 (some .int) [] 1 [.int v0, .int v1] A r := by
  refine xj_M.of hl (by decide +kernel) (by simp [lg_sl, xj_ic, xj_lc, xj_rv_cat]) (fun z B hA hr => ?_)
  subst hr
  have hw := wJ_min hl B v0 v1 A h
  simpa [lv_args, xj_ic, xj_lc, xj_rv_cat] using hw
/-! java/lang/Math.max(II)I -/
def fJ_max_10 (s0 : Int32) (A : xj_H) : Option xj_R :=
  some (.inl (some (.int s0)), A)
def fJ_max (v0 : Int32) (v1 : Int32) (A : xj_H) : Option xj_R :=
  if v0 < v1 then
    fJ_max_10 v1 A
  else
    fJ_max_10 v0 A
theorem wJ_max_10 {l : Launch} (hl : l.stackTraces = false) {z : xj_F} (B : xj_B l yJ_max prog_16_method_65_code 2 (some .int) [] 1 z) (s0 : Int32) (A : xj_H) (h : fJ_max_10 s0 A = some (xf_r z)) : xj_W l z 10 [] [.int s0] A := by
  unfold fJ_max_10 at h
  exact xg_iret B dJ_max_10 h
theorem wJ_max {l : Launch} (hl : l.stackTraces = false) {z : xj_F} (B : xj_B l yJ_max prog_16_method_65_code 2 (some .int) [] 1 z) (v0 : Int32) (v1 : Int32) (A : xj_H) (h : fJ_max v0 v1 A = some (xf_r z)) : xj_W l z 0 [(0, .int v0), (1, .int v1)] [] A := by
  unfold fJ_max at h
  refine xg_iload_n (pc := 0) (i := 0) B dJ_max_0 rfl rfl ?_
  refine xg_iload_n (pc := 1) (i := 1) B dJ_max_1 rfl rfl ?_
  refine xg_icmp_lt (pc := 2) (tgt := 9) B dJ_max_2 (by decide) h (fun c2 h => ?_) (fun c2 h => ?_)
  · refine xg_iload_n (pc := 9) (i := 1) B dJ_max_9 rfl rfl ?_
    refine xg_sub (ls' := []) [] rfl ?_
    exact wJ_max_10 hl B v1 A h
  · refine xg_iload_n (pc := 5) (i := 0) B dJ_max_5 rfl rfl ?_
    refine xg_goto (pc := 6) (tgt := 10) B dJ_max_6 (by decide) ?_
    refine xg_sub (ls' := []) [] rfl ?_
    exact wJ_max_10 hl B v0 A h
theorem cJ_max {l : Launch} (hl : l.stackTraces = false) (v0 : Int32) (v1 : Int32) (A : xj_H) (r : xj_R) (h : fJ_max v0 v1 A = some r) : xj_M l yJ_max prog_16_method_65_code 2 (some .int) [] 1 [.int v0, .int v1] A r := by
  refine xj_M.of hl (by decide +kernel) (by simp [lg_sl, xj_ic, xj_lc, xj_rv_cat]) (fun z B hA hr => ?_)
  subst hr
  have hw := wJ_max hl B v0 v1 A h
  simpa [lv_args, xj_ic, xj_lc, xj_rv_cat] using hw
/-! RecurrenceBook$Zone.isSummer(I)Z -/
def fZ_isSummer_55 (k25 : xj_Rf → Int32 → Int32 → Int32 → xj_H → Option xj_R) (v0 : xj_Rf) (v1 : Int32) (v3 : Int32) (v4 : Int32) (A : xj_H) : Option xj_R :=
  k25 v0 v1 v3 (v4 + 1) A
def fZ_isSummer_25 : Nat → xj_Rf → Int32 → Int32 → Int32 → xj_H → Option xj_R
  | 0, _, _, _, _, _ => none
  | n + 1, v0, v1, v3, v4, A =>
    if v3 < v4 then
      xj_rz (0 : Int32) A
    else
      (xj_gr A v0 1 2).bind fun x1 =>
      (xj_ai A x1 0 v4).bind fun x2 =>
      if v1 < x2 then
        fZ_isSummer_55 (fZ_isSummer_25 n) v0 v1 v3 v4 A
      else
        (xj_gr A v0 1 3).bind fun x3 =>
        (xj_ai A x3 0 v4).bind fun x4 =>
        if x4 ≤ v1 then
          fZ_isSummer_55 (fZ_isSummer_25 n) v0 v1 v3 v4 A
        else
          xj_rz (1 : Int32) A
def fZ_isSummer (v0 : xj_Rf) (v1 : Int32) (A : xj_H) : Option xj_R :=
  xj_bi (fD_yearOf (v1 / (1440 : Int32)) A) fun x1 A2 =>
  xj_bi (fJ_min (99 : Int32) (x1 + (1 : Int32)) A2) fun x3 A4 =>
  xj_bi (fJ_max (0 : Int32) x1 A4) fun x5 A6 =>
  fZ_isSummer_25 xj_fu v0 v1 x3 x5 A6
theorem wZ_isSummer_55 {l : Launch} (hl : l.stackTraces = false) {z : xj_F} (B : xj_B l yZ_isSummer prog_9_method_3_code 5 (some .boolean) [] 2 z) (k25 : xj_Rf → Int32 → Int32 → Int32 → xj_H → Option xj_R) (hk25 : ∀ (v0 : xj_Rf) (v1 : Int32) (v3 : Int32) (v4 : Int32) (A : xj_H), k25 v0 v1 v3 v4 A = some (xf_r z) → xj_W l z 25 [(0, xj_rv v0), (1, .int v1), (3, .int v3), (4, .int v4)] [] A) (v0 : xj_Rf) (v1 : Int32) (v3 : Int32) (v4 : Int32) (A : xj_H) (h : fZ_isSummer_55 k25 v0 v1 v3 v4 A = some (xf_r z)) : xj_W l z 55 [(0, xj_rv v0), (1, .int v1), (3, .int v3), (4, .int v4)] [] A := by
  unfold fZ_isSummer_55 at h
  refine xg_iinc (pc := 55) (i := 4) (v := (v4 + 1)) (ls' := [(4, .int (v4 + 1)), (0, xj_rv v0), (1, .int v1), (3, .int v3)]) B dZ_isSummer_55 rfl (xj_inc_1 _) (by decide) ⟨xj_nq (a := 0) (i := 4) (by decide), xj_nq (a := 1) (i := 4) (by decide), fun _ => rfl, xj_nq (a := 4) (i := 4) (by decide), trivial⟩ rfl ?_
  refine xg_goto (pc := 58) (tgt := 25) B dZ_isSummer_58 (by decide) ?_
  refine xg_sub (ls' := [(0, xj_rv v0), (1, .int v1), (3, .int v3), (4, .int (v4 + 1))]) [1, 2, 3, 0] rfl ?_
  exact hk25 v0 v1 v3 (v4 + 1) A h
theorem wZ_isSummer_25 {l : Launch} (hl : l.stackTraces = false) {z : xj_F} (B : xj_B l yZ_isSummer prog_9_method_3_code 5 (some .boolean) [] 2 z) : ∀ (n : Nat) (v0 : xj_Rf) (v1 : Int32) (v3 : Int32) (v4 : Int32) (A : xj_H), fZ_isSummer_25 n v0 v1 v3 v4 A = some (xf_r z) → xj_W l z 25 [(0, xj_rv v0), (1, .int v1), (3, .int v3), (4, .int v4)] [] A
  | 0, _, _, _, _, _, h => by simp [fZ_isSummer_25] at h
  | n + 1, v0, v1, v3, v4, A, h => by
    rw [fZ_isSummer_25] at h
    refine xg_iload (pc := 25) (i := 4) B dZ_isSummer_25 rfl ?_
    refine xg_iload_n (pc := 27) (i := 3) B dZ_isSummer_27 rfl rfl ?_
    refine xg_icmp_gt (pc := 28) (tgt := 61) B dZ_isSummer_28 (by decide) h (fun c28 h => ?_) (fun c28 h => ?_)
    · refine xg_iconst (pc := 61) (v := 0) B dZ_isSummer_61 (by decide) ?_
      exact xg_zret B dZ_isSummer_62 h
    · refine xg_aload_n (pc := 31) (i := 0) B dZ_isSummer_31 rfl rfl ?_
      refine xg_getr (pc := 32) B dZ_isSummer_32 flZ_9 h (fun x1 ex1 h => ?_)
      refine xg_iload (pc := 35) (i := 4) B dZ_isSummer_35 rfl ?_
      refine xg_iaload (pc := 37) B dZ_isSummer_37 h (fun x2 ex2 h => ?_)
      refine xg_iload_n (pc := 38) (i := 1) B dZ_isSummer_38 rfl rfl ?_
      refine xg_icmp_gt (pc := 39) (tgt := 55) B dZ_isSummer_39 (by decide) h (fun c39 h => ?_) (fun c39 h => ?_)
      · exact wZ_isSummer_55 hl B (fZ_isSummer_25 n) (wZ_isSummer_25 hl B n) v0 v1 v3 v4 A h
      · refine xg_iload_n (pc := 42) (i := 1) B dZ_isSummer_42 rfl rfl ?_
        refine xg_aload_n (pc := 43) (i := 0) B dZ_isSummer_43 rfl rfl ?_
        refine xg_getr (pc := 44) B dZ_isSummer_44 flZ_15 h (fun x3 ex3 h => ?_)
        refine xg_iload (pc := 47) (i := 4) B dZ_isSummer_47 rfl ?_
        refine xg_iaload (pc := 49) B dZ_isSummer_49 h (fun x4 ex4 h => ?_)
        refine xg_icmp_ge (pc := 50) (tgt := 55) B dZ_isSummer_50 (by decide) h (fun c50 h => ?_) (fun c50 h => ?_)
        · exact wZ_isSummer_55 hl B (fZ_isSummer_25 n) (wZ_isSummer_25 hl B n) v0 v1 v3 v4 A h
        · refine xg_iconst (pc := 53) (v := 1) B dZ_isSummer_53 (by decide) ?_
          exact xg_zret B dZ_isSummer_54 h
theorem wZ_isSummer {l : Launch} (hl : l.stackTraces = false) {z : xj_F} (B : xj_B l yZ_isSummer prog_9_method_3_code 5 (some .boolean) [] 2 z) (v0 : xj_Rf) (v1 : Int32) (A : xj_H) (h : fZ_isSummer v0 v1 A = some (xf_r z)) : xj_W l z 0 [(0, xj_rv v0), (1, .int v1)] [] A := by
  unfold fZ_isSummer at h
  refine xg_iload_n (pc := 0) (i := 1) B dZ_isSummer_0 rfl rfl ?_
  refine xg_sipush (pc := 1) (v := 1440) B dZ_isSummer_1 (by decide) ?_
  refine xg_idiv (pc := 4) B dZ_isSummer_4 (by decide) ?_
  refine xg_ci (pc := 5) (av := [.int (v1 / (1440 : Int32))]) (st := []) (cy := prog_2_method_3_code) (nLy := 1) (rety := (some .int)) (hsy := []) B dZ_isSummer_5 (xj_go_s B dZ_isSummer_5 swZ_31 rfl) swZ_31.2.2.1 swZ_31.2.2.2.1 (by decide) (by decide) (by decide) rfl (fun r9 h9 => cD_yearOf hl _ _ r9 h9) h (fun x1 A2 eA2 h => ?_)
  refine xg_istore_n (pc := 8) (i := 2) (ls' := [(2, .int x1), (0, xj_rv v0), (1, .int v1)]) B dZ_isSummer_8 rfl (by decide) ⟨xj_nq (a := 0) (i := 2) (by decide), fun _ => rfl, trivial⟩ rfl ?_
  refine xg_bipush (pc := 9) (v := 99) B dZ_isSummer_9 (by decide) ?_
  refine xg_iload_n (pc := 11) (i := 2) B dZ_isSummer_11 rfl rfl ?_
  refine xg_iconst (pc := 12) (v := 1) B dZ_isSummer_12 (by decide) ?_
  refine xg_iadd (pc := 13) B dZ_isSummer_13 ?_
  refine xg_ci (pc := 14) (av := [.int (99 : Int32), .int (x1 + (1 : Int32))]) (st := []) (cy := prog_16_method_69_code) (nLy := 2) (rety := (some .int)) (hsy := []) B dZ_isSummer_14 (xj_go_s B dZ_isSummer_14 swZ_35 rfl) swZ_35.2.2.1 swZ_35.2.2.2.1 (by decide) (by decide) (by decide) rfl (fun r9 h9 => cJ_min hl _ _ _ r9 h9) h (fun x3 A4 eA4 h => ?_)
  refine xg_istore_n (pc := 17) (i := 3) (ls' := [(3, .int x3), (2, .int x1), (0, xj_rv v0), (1, .int v1)]) B dZ_isSummer_17 rfl (by decide) ⟨fun _ => rfl, xj_nq (a := 0) (i := 3) (by decide), xj_nq (a := 1) (i := 3) (by decide), trivial⟩ rfl ?_
  refine xg_iconst (pc := 18) (v := 0) B dZ_isSummer_18 (by decide) ?_
  refine xg_iload_n (pc := 19) (i := 2) B dZ_isSummer_19 rfl rfl ?_
  refine xg_ci (pc := 20) (av := [.int (0 : Int32), .int x1]) (st := []) (cy := prog_16_method_65_code) (nLy := 2) (rety := (some .int)) (hsy := []) B dZ_isSummer_20 (xj_go_s B dZ_isSummer_20 swZ_40 rfl) swZ_40.2.2.1 swZ_40.2.2.2.1 (by decide) (by decide) (by decide) rfl (fun r9 h9 => cJ_max hl _ _ _ r9 h9) h (fun x5 A6 eA6 h => ?_)
  refine xg_istore (pc := 23) (i := 4) (ls' := [(4, .int x5), (3, .int x3), (2, .int x1), (0, xj_rv v0), (1, .int v1)]) B dZ_isSummer_23 (by decide) ⟨fun _ => rfl, xj_nq (a := 2) (i := 4) (by decide), xj_nq (a := 0) (i := 4) (by decide), xj_nq (a := 1) (i := 4) (by decide), trivial⟩ rfl ?_
  refine xg_sub (ls' := [(0, xj_rv v0), (1, .int v1), (3, .int x3), (4, .int x5)]) [3, 4, 1, 0] rfl ?_
  exact wZ_isSummer_25 hl B xj_fu v0 v1 x3 x5 A6 h
theorem cZ_isSummer {l : Launch} (hl : l.stackTraces = false) (v0 : xj_Rf) (v1 : Int32) (A : xj_H) (r : xj_R) (h : fZ_isSummer v0 v1 A = some r) : xj_M l yZ_isSummer prog_9_method_3_code 5 (some .boolean) [] 2 [xj_rv v0, .int v1] A r := by
  refine xj_M.of hl (by decide +kernel) (by simp [lg_sl, xj_ic, xj_lc, xj_rv_cat]) (fun z B hA hr => ?_)
  subst hr
  have hw := wZ_isSummer hl B v0 v1 A h
  simpa [lv_args, xj_ic, xj_lc, xj_rv_cat] using hw
/-! RecurrenceBook$Zone.momentOf(I)I -/
def fZ_momentOf_28 (s0 : Int32) (A : xj_H) : Option xj_R :=
  some (.inl (some (.int s0)), A)
def fZ_momentOf (v0 : xj_Rf) (v1 : Int32) (A : xj_H) : Option xj_R :=
  (xj_gi A v0 1 1).bind fun x1 =>
  xj_bi (xj_rq A v0 1 (fZ_isSummer v0 (v1 - x1) A)) fun x2 A3 =>
  if x2 = 0 then
    (xj_gi A3 v0 1 0).bind fun x4 =>
    fZ_momentOf_28 (v1 - x4) A3
  else
    (xj_gi A3 v0 1 1).bind fun x5 =>
    fZ_momentOf_28 (v1 - x5) A3
theorem wZ_momentOf_28 {l : Launch} (hl : l.stackTraces = false) {z : xj_F} (B : xj_B l yZ_momentOf prog_9_method_5_code 2 (some .int) [] 3 z) (s0 : Int32) (A : xj_H) (h : fZ_momentOf_28 s0 A = some (xf_r z)) : xj_W l z 28 [] [.int s0] A := by
  unfold fZ_momentOf_28 at h
  exact xg_iret B dZ_momentOf_28 h
theorem wZ_momentOf {l : Launch} (hl : l.stackTraces = false) {z : xj_F} (B : xj_B l yZ_momentOf prog_9_method_5_code 2 (some .int) [] 3 z) (v0 : xj_Rf) (v1 : Int32) (A : xj_H) (h : fZ_momentOf v0 v1 A = some (xf_r z)) : xj_W l z 0 [(0, xj_rv v0), (1, .int v1)] [] A := by
  unfold fZ_momentOf at h
  refine xg_aload_n (pc := 0) (i := 0) B dZ_momentOf_0 rfl rfl ?_
  refine xg_iload_n (pc := 1) (i := 1) B dZ_momentOf_1 rfl rfl ?_
  refine xg_aload_n (pc := 2) (i := 0) B dZ_momentOf_2 rfl rfl ?_
  refine xg_geti (pc := 3) B dZ_momentOf_3 flZ_22 h (fun x1 ex1 h => ?_)
  refine xg_isub (pc := 6) B dZ_momentOf_6 ?_
  obtain ⟨hq7, h⟩ := xj_rq_i h
  refine xg_ci (pc := 7) (av := [xj_rv v0, .int (v1 - x1)]) (st := []) (cy := prog_9_method_3_code) (nLy := 5) (rety := (some .boolean)) (hsy := []) B dZ_momentOf_7 (xj_go_v B dZ_momentOf_7 vwZ_43 rfl hq7) (xj_vw_c vwZ_43) (xj_vw_i vwZ_43) (by decide) (by decide) (by decide) rfl (fun r9 h9 => cZ_isSummer hl _ _ _ r9 h9) h (fun x2 A3 eA3 h => ?_)
  refine xg_if_eq (pc := 10) (tgt := 22) B dZ_momentOf_10 (by decide) h (fun c10 h => ?_) (fun c10 h => ?_)
  · refine xg_iload_n (pc := 22) (i := 1) B dZ_momentOf_22 rfl rfl ?_
    refine xg_aload_n (pc := 23) (i := 0) B dZ_momentOf_23 rfl rfl ?_
    refine xg_geti (pc := 24) B dZ_momentOf_24 flZ_18 h (fun x4 ex4 h => ?_)
    refine xg_isub (pc := 27) B dZ_momentOf_27 ?_
    refine xg_sub (ls' := []) [] rfl ?_
    exact wZ_momentOf_28 hl B (v1 - x4) A3 h
  · refine xg_iload_n (pc := 13) (i := 1) B dZ_momentOf_13 rfl rfl ?_
    refine xg_aload_n (pc := 14) (i := 0) B dZ_momentOf_14 rfl rfl ?_
    refine xg_geti (pc := 15) B dZ_momentOf_15 flZ_22 h (fun x5 ex5 h => ?_)
    refine xg_isub (pc := 18) B dZ_momentOf_18 ?_
    refine xg_goto (pc := 19) (tgt := 28) B dZ_momentOf_19 (by decide) ?_
    refine xg_sub (ls' := []) [] rfl ?_
    exact wZ_momentOf_28 hl B (v1 - x5) A3 h
theorem cZ_momentOf {l : Launch} (hl : l.stackTraces = false) (v0 : xj_Rf) (v1 : Int32) (A : xj_H) (r : xj_R) (h : fZ_momentOf v0 v1 A = some r) : xj_M l yZ_momentOf prog_9_method_5_code 2 (some .int) [] 3 [xj_rv v0, .int v1] A r := by
  refine xj_M.of hl (by decide +kernel) (by simp [lg_sl, xj_ic, xj_lc, xj_rv_cat]) (fun z B hA hr => ?_)
  subst hr
  have hw := wZ_momentOf hl B v0 v1 A h
  simpa [lv_args, xj_ic, xj_lc, xj_rv_cat] using hw
/-! RecurrenceBook$Event.settle(LRecurrenceBook$Zone;)V -/
def fE_settle_73 (k2 : xj_Rf → xj_Rf → Int32 → xj_H → Option xj_R) (v0 : xj_Rf) (v1 : xj_Rf) (v2 : Int32) (v3 : Int32) (v4 : Int32) (A : xj_H) : Option xj_R :=
  (xj_gr A v0 2 1).bind fun x1 =>
  (xj_as A x1 0 v4 v3).bind fun A2 =>
  k2 v0 v1 (v2 + 1) A2
def fE_settle_33 (k2 : xj_Rf → xj_Rf → Int32 → xj_H → Option xj_R) : Nat → xj_Rf → xj_Rf → Int32 → Int32 → Int32 → xj_H → Option xj_R
  | 0, _, _, _, _, _, _ => none
  | n + 1, v0, v1, v2, v3, v4, A =>
    if v4 ≤ 0 then
      fE_settle_73 k2 v0 v1 v2 v3 v4 A
    else
      (xj_gr A v0 2 1).bind fun x1 =>
      (xj_ai A x1 0 (v4 - (1 : Int32))).bind fun x2 =>
      if x2 ≤ v3 then
        fE_settle_73 k2 v0 v1 v2 v3 v4 A
      else
        (xj_gr A v0 2 1).bind fun x3 =>
        (xj_gr A v0 2 1).bind fun x4 =>
        (xj_ai A x4 0 (v4 - (1 : Int32))).bind fun x5 =>
        (xj_as A x3 0 v4 x5).bind fun A6 =>
        (fE_settle_33 k2 n) v0 v1 v2 v3 (v4 - 1) A6
def fE_settle_2 : Nat → xj_Rf → xj_Rf → Int32 → xj_H → Option xj_R
  | 0, _, _, _, _ => none
  | n + 1, v0, v1, v2, A =>
    (xj_gi A v0 2 2).bind fun x1 =>
    if x1 ≤ v2 then
      some (.inl none, A)
    else
      (xj_gr A v0 2 0).bind fun x2 =>
      (xj_ai A x2 0 v2).bind fun x3 =>
      (xj_gi A v0 2 4).bind fun x4 =>
      xj_bi (xj_rq A v1 1 (fZ_momentOf v1 (((1440 : Int32) * x3) + x4) A)) fun x5 A6 =>
      fE_settle_33 (fE_settle_2 n) xj_fu v0 v1 v2 x5 v2 A6
def fE_settle (v0 : xj_Rf) (v1 : xj_Rf) (A : xj_H) : Option xj_R :=
  fE_settle_2 xj_fu v0 v1 (0 : Int32) A
theorem wE_settle_73 {l : Launch} (hl : l.stackTraces = false) {z : xj_F} (B : xj_B l yE_settle prog_3_method_4_code 5 none [] 4 z) (k2 : xj_Rf → xj_Rf → Int32 → xj_H → Option xj_R) (hk2 : ∀ (v0 : xj_Rf) (v1 : xj_Rf) (v2 : Int32) (A : xj_H), k2 v0 v1 v2 A = some (xf_r z) → xj_W l z 2 [(0, xj_rv v0), (1, xj_rv v1), (2, .int v2)] [] A) (v0 : xj_Rf) (v1 : xj_Rf) (v2 : Int32) (v3 : Int32) (v4 : Int32) (A : xj_H) (h : fE_settle_73 k2 v0 v1 v2 v3 v4 A = some (xf_r z)) : xj_W l z 73 [(0, xj_rv v0), (1, xj_rv v1), (2, .int v2), (3, .int v3), (4, .int v4)] [] A := by
  unfold fE_settle_73 at h
  refine xg_aload_n (pc := 73) (i := 0) B dE_settle_73 rfl rfl ?_
  refine xg_getr (pc := 74) B dE_settle_74 flE_15 h (fun x1 ex1 h => ?_)
  refine xg_iload (pc := 77) (i := 4) B dE_settle_77 rfl ?_
  refine xg_iload_n (pc := 79) (i := 3) B dE_settle_79 rfl rfl ?_
  refine xg_iastore (pc := 80) B dE_settle_80 h (fun A2 eA2 h => ?_)
  refine xg_iinc (pc := 81) (i := 2) (v := (v2 + 1)) (ls' := [(2, .int (v2 + 1)), (0, xj_rv v0), (1, xj_rv v1), (3, .int v3), (4, .int v4)]) B dE_settle_81 rfl (xj_inc_1 _) (by decide) ⟨xj_nq (a := 0) (i := 2) (by decide), fun _ => xj_rv_cat _, xj_nq (a := 2) (i := 2) (by decide), xj_nq (a := 3) (i := 2) (by decide), xj_nq (a := 4) (i := 2) (by decide), trivial⟩ rfl ?_
  refine xg_goto (pc := 84) (tgt := 2) B dE_settle_84 (by decide) ?_
  refine xg_sub (ls' := [(0, xj_rv v0), (1, xj_rv v1), (2, .int (v2 + 1))]) [1, 2, 0] rfl ?_
  exact hk2 v0 v1 (v2 + 1) A2 h
theorem wE_settle_33 {l : Launch} (hl : l.stackTraces = false) {z : xj_F} (B : xj_B l yE_settle prog_3_method_4_code 5 none [] 4 z) (k2 : xj_Rf → xj_Rf → Int32 → xj_H → Option xj_R) (hk2 : ∀ (v0 : xj_Rf) (v1 : xj_Rf) (v2 : Int32) (A : xj_H), k2 v0 v1 v2 A = some (xf_r z) → xj_W l z 2 [(0, xj_rv v0), (1, xj_rv v1), (2, .int v2)] [] A) : ∀ (n : Nat) (v0 : xj_Rf) (v1 : xj_Rf) (v2 : Int32) (v3 : Int32) (v4 : Int32) (A : xj_H), fE_settle_33 k2 n v0 v1 v2 v3 v4 A = some (xf_r z) → xj_W l z 33 [(0, xj_rv v0), (1, xj_rv v1), (2, .int v2), (3, .int v3), (4, .int v4)] [] A
  | 0, _, _, _, _, _, _, h => by simp [fE_settle_33] at h
  | n + 1, v0, v1, v2, v3, v4, A, h => by
    rw [fE_settle_33] at h
    refine xg_iload (pc := 33) (i := 4) B dE_settle_33 rfl ?_
    refine xg_if_le (pc := 35) (tgt := 73) B dE_settle_35 (by decide) h (fun c35 h => ?_) (fun c35 h => ?_)
    · exact wE_settle_73 hl B k2 hk2 v0 v1 v2 v3 v4 A h
    · refine xg_aload_n (pc := 38) (i := 0) B dE_settle_38 rfl rfl ?_
      refine xg_getr (pc := 39) B dE_settle_39 flE_15 h (fun x1 ex1 h => ?_)
      refine xg_iload (pc := 42) (i := 4) B dE_settle_42 rfl ?_
      refine xg_iconst (pc := 44) (v := 1) B dE_settle_44 (by decide) ?_
      refine xg_isub (pc := 45) B dE_settle_45 ?_
      refine xg_iaload (pc := 46) B dE_settle_46 h (fun x2 ex2 h => ?_)
      refine xg_iload_n (pc := 47) (i := 3) B dE_settle_47 rfl rfl ?_
      refine xg_icmp_le (pc := 48) (tgt := 73) B dE_settle_48 (by decide) h (fun c48 h => ?_) (fun c48 h => ?_)
      · exact wE_settle_73 hl B k2 hk2 v0 v1 v2 v3 v4 A h
      · refine xg_aload_n (pc := 51) (i := 0) B dE_settle_51 rfl rfl ?_
        refine xg_getr (pc := 52) B dE_settle_52 flE_15 h (fun x3 ex3 h => ?_)
        refine xg_iload (pc := 55) (i := 4) B dE_settle_55 rfl ?_
        refine xg_aload_n (pc := 57) (i := 0) B dE_settle_57 rfl rfl ?_
        refine xg_getr (pc := 58) B dE_settle_58 flE_15 h (fun x4 ex4 h => ?_)
        refine xg_iload (pc := 61) (i := 4) B dE_settle_61 rfl ?_
        refine xg_iconst (pc := 63) (v := 1) B dE_settle_63 (by decide) ?_
        refine xg_isub (pc := 64) B dE_settle_64 ?_
        refine xg_iaload (pc := 65) B dE_settle_65 h (fun x5 ex5 h => ?_)
        refine xg_iastore (pc := 66) B dE_settle_66 h (fun A6 eA6 h => ?_)
        refine xg_iinc (pc := 67) (i := 4) (v := (v4 - 1)) (ls' := [(4, .int (v4 - 1)), (0, xj_rv v0), (1, xj_rv v1), (2, .int v2), (3, .int v3)]) B dE_settle_67 rfl (xj_inc_m1 _) (by decide) ⟨xj_nq (a := 0) (i := 4) (by decide), xj_nq (a := 1) (i := 4) (by decide), xj_nq (a := 2) (i := 4) (by decide), fun _ => rfl, xj_nq (a := 4) (i := 4) (by decide), trivial⟩ rfl ?_
        refine xg_goto (pc := 70) (tgt := 33) B dE_settle_70 (by decide) ?_
        refine xg_sub (ls' := [(0, xj_rv v0), (1, xj_rv v1), (2, .int v2), (3, .int v3), (4, .int (v4 - 1))]) [1, 2, 3, 4, 0] rfl ?_
        exact (wE_settle_33 hl B k2 hk2 n) v0 v1 v2 v3 (v4 - 1) A6 h
theorem wE_settle_2 {l : Launch} (hl : l.stackTraces = false) {z : xj_F} (B : xj_B l yE_settle prog_3_method_4_code 5 none [] 4 z) : ∀ (n : Nat) (v0 : xj_Rf) (v1 : xj_Rf) (v2 : Int32) (A : xj_H), fE_settle_2 n v0 v1 v2 A = some (xf_r z) → xj_W l z 2 [(0, xj_rv v0), (1, xj_rv v1), (2, .int v2)] [] A
  | 0, _, _, _, _, h => by simp [fE_settle_2] at h
  | n + 1, v0, v1, v2, A, h => by
    rw [fE_settle_2] at h
    refine xg_iload_n (pc := 2) (i := 2) B dE_settle_2 rfl rfl ?_
    refine xg_aload_n (pc := 3) (i := 0) B dE_settle_3 rfl rfl ?_
    refine xg_geti (pc := 4) B dE_settle_4 flE_25 h (fun x1 ex1 h => ?_)
    refine xg_icmp_ge (pc := 7) (tgt := 87) B dE_settle_7 (by decide) h (fun c7 h => ?_) (fun c7 h => ?_)
    · exact xg_vret B dE_settle_87 h
    · refine xg_aload_n (pc := 10) (i := 1) B dE_settle_10 rfl rfl ?_
      refine xg_sipush (pc := 11) (v := 1440) B dE_settle_11 (by decide) ?_
      refine xg_aload_n (pc := 14) (i := 0) B dE_settle_14 rfl rfl ?_
      refine xg_getr (pc := 15) B dE_settle_15 flE_9 h (fun x2 ex2 h => ?_)
      refine xg_iload_n (pc := 18) (i := 2) B dE_settle_18 rfl rfl ?_
      refine xg_iaload (pc := 19) B dE_settle_19 h (fun x3 ex3 h => ?_)
      refine xg_imul (pc := 20) B dE_settle_20 ?_
      refine xg_aload_n (pc := 21) (i := 0) B dE_settle_21 rfl rfl ?_
      refine xg_geti (pc := 22) B dE_settle_22 flE_18 h (fun x4 ex4 h => ?_)
      refine xg_iadd (pc := 25) B dE_settle_25 ?_
      obtain ⟨hq26, h⟩ := xj_rq_i h
      refine xg_ci (pc := 26) (av := [xj_rv v1, .int (((1440 : Int32) * x3) + x4)]) (st := []) (cy := prog_9_method_5_code) (nLy := 2) (rety := (some .int)) (hsy := []) B dE_settle_26 (xj_go_v B dE_settle_26 vwE_31 rfl hq26) (xj_vw_c vwE_31) (xj_vw_i vwE_31) (by decide) (by decide) (by decide) rfl (fun r9 h9 => cZ_momentOf hl _ _ _ r9 h9) h (fun x5 A6 eA6 h => ?_)
      refine xg_istore_n (pc := 29) (i := 3) (ls' := [(3, .int x5), (0, xj_rv v0), (1, xj_rv v1), (2, .int v2)]) B dE_settle_29 rfl (by decide) ⟨xj_nq (a := 0) (i := 3) (by decide), xj_nq (a := 1) (i := 3) (by decide), fun _ => rfl, trivial⟩ rfl ?_
      refine xg_iload_n (pc := 30) (i := 2) B dE_settle_30 rfl rfl ?_
      refine xg_istore (pc := 31) (i := 4) (ls' := [(4, .int v2), (3, .int x5), (0, xj_rv v0), (1, xj_rv v1), (2, .int v2)]) B dE_settle_31 (by decide) ⟨fun _ => rfl, xj_nq (a := 0) (i := 4) (by decide), xj_nq (a := 1) (i := 4) (by decide), xj_nq (a := 2) (i := 4) (by decide), trivial⟩ rfl ?_
      refine xg_sub (ls' := [(0, xj_rv v0), (1, xj_rv v1), (2, .int v2), (3, .int x5), (4, .int v2)]) [2, 3, 4, 1, 0] rfl ?_
      exact wE_settle_33 hl B (fE_settle_2 n) (wE_settle_2 hl B n) xj_fu v0 v1 v2 x5 v2 A6 h
theorem wE_settle {l : Launch} (hl : l.stackTraces = false) {z : xj_F} (B : xj_B l yE_settle prog_3_method_4_code 5 none [] 4 z) (v0 : xj_Rf) (v1 : xj_Rf) (A : xj_H) (h : fE_settle v0 v1 A = some (xf_r z)) : xj_W l z 0 [(0, xj_rv v0), (1, xj_rv v1)] [] A := by
  unfold fE_settle at h
  refine xg_iconst (pc := 0) (v := 0) B dE_settle_0 (by decide) ?_
  refine xg_istore_n (pc := 1) (i := 2) (ls' := [(2, .int (0 : Int32)), (0, xj_rv v0), (1, xj_rv v1)]) B dE_settle_1 rfl (by decide) ⟨xj_nq (a := 0) (i := 2) (by decide), fun _ => xj_rv_cat _, trivial⟩ rfl ?_
  refine xg_sub (ls' := [(0, xj_rv v0), (1, xj_rv v1), (2, .int (0 : Int32))]) [1, 2, 0] rfl ?_
  exact wE_settle_2 hl B xj_fu v0 v1 (0 : Int32) A h
theorem cE_settle {l : Launch} (hl : l.stackTraces = false) (v0 : xj_Rf) (v1 : xj_Rf) (A : xj_H) (r : xj_R) (h : fE_settle v0 v1 A = some r) : xj_M l yE_settle prog_3_method_4_code 5 none [] 4 [xj_rv v0, xj_rv v1] A r := by
  refine xj_M.of hl (by decide +kernel) (by simp [lg_sl, xj_ic, xj_lc, xj_rv_cat]) (fun z B hA hr => ?_)
  subst hr
  have hw := wE_settle hl B v0 v1 A h
  simpa [lv_args, xj_ic, xj_lc, xj_rv_cat] using hw
end
section
/-! RecurrenceBook.zone(IIIIII)V -/
def fB_zone_113 : Nat → xj_Rf → Int32 → xj_H → Option xj_R
  | 0, _, _, _ => none
  | n + 1, v0, v7, A =>
    (xj_gi A v0 0 4).bind fun x1 =>
    if x1 ≤ v7 then
      some (.inl none, A)
    else
      (xj_gr A v0 0 3).bind fun x2 =>
      (xj_ral A x2 v7).bind fun x3 =>
      (xj_gr A v0 0 2).bind fun x4 =>
      xj_bv (xj_rq A x3 2 (fE_settle x3 x4 A)) fun A5 =>
      (fB_zone_113 n) v0 (v7 + 1) A5
def fB_zone_84 (A : xj_H) : Option xj_R :=
  xj_th A "java/lang/IllegalArgumentException"
def fB_zone_50 (A : xj_H) : Option xj_R :=
  xj_th A "java/lang/IllegalArgumentException"
def fB_zone_19 (A : xj_H) : Option xj_R :=
  xj_th A "java/lang/IllegalArgumentException"
def fB_zone (v0 : xj_Rf) (v1 : Int32) (v2 : Int32) (v3 : Int32) (v4 : Int32) (v5 : Int32) (v6 : Int32) (A : xj_H) : Option xj_R :=
  xj_bi (fB_isOffset v1 A) fun x1 A2 =>
  if x1 = 0 then
    fB_zone_19  A2
  else
    xj_bi (fB_isOffset v2 A2) fun x3 A4 =>
    if x3 = 0 then
      fB_zone_19  A4
    else
      if v1 ≤ v2 then
        xj_bi (fB_isMonth v3 A4) fun x5 A6 =>
        if x5 = 0 then
          fB_zone_50  A6
        else
          xj_bi (fB_isMonth v5 A6) fun x7 A8 =>
          if x7 = 0 then
            fB_zone_50  A8
          else
            if v3 < v5 then
              if v4 < (1 : Int32) then
                fB_zone_84  A8
              else
                if (5 : Int32) < v4 then
                  fB_zone_84  A8
                else
                  if v6 < (1 : Int32) then
                    fB_zone_84  A8
                  else
                    if v6 ≤ (5 : Int32) then
                      (xj_gr A8 v0 0 2).bind fun x9 =>
                      xj_bv (xj_rq A8 x9 1 (fZ_change x9 v1 v2 v3 v4 v5 v6 A8)) fun A10 =>
                      fB_zone_113 xj_fu v0 (0 : Int32) A10
                    else
                      fB_zone_84  A8
            else
              fB_zone_50  A8
      else
        fB_zone_19  A4
theorem wB_zone_113 {l : Launch} (hl : l.stackTraces = false) {z : xj_F} (B : xj_B l yB_zone prog_1_method_3_code 8 none [] 6 z) : ∀ (n : Nat) (v0 : xj_Rf) (v7 : Int32) (A : xj_H), fB_zone_113 n v0 v7 A = some (xf_r z) → xj_W l z 113 [(0, xj_rv v0), (7, .int v7)] [] A
  | 0, _, _, _, h => by simp [fB_zone_113] at h
  | n + 1, v0, v7, A, h => by
    rw [fB_zone_113] at h
    refine xg_iload (pc := 113) (i := 7) B dB_zone_113 rfl ?_
    refine xg_aload_n (pc := 115) (i := 0) B dB_zone_115 rfl rfl ?_
    refine xg_geti (pc := 116) B dB_zone_116 flB_35 h (fun x1 ex1 h => ?_)
    refine xg_icmp_ge (pc := 119) (tgt := 142) B dB_zone_119 (by decide) h (fun c119 h => ?_) (fun c119 h => ?_)
    · exact xg_vret B dB_zone_142 h
    · refine xg_aload_n (pc := 122) (i := 0) B dB_zone_122 rfl rfl ?_
      refine xg_getr (pc := 123) B dB_zone_123 flB_30 h (fun x2 ex2 h => ?_)
      refine xg_iload (pc := 126) (i := 7) B dB_zone_126 rfl ?_
      refine xg_aaload (pc := 128) B dB_zone_128 h (fun x3 ex3 h => ?_)
      refine xg_aload_n (pc := 129) (i := 0) B dB_zone_129 rfl rfl ?_
      refine xg_getr (pc := 130) B dB_zone_130 flB_20 h (fun x4 ex4 h => ?_)
      obtain ⟨hq133, h⟩ := xj_rq_v h
      refine xg_cv (pc := 133) (av := [xj_rv x3, xj_rv x4]) (st := []) (cy := prog_3_method_4_code) (nLy := 5) (rety := none) (hsy := []) B dB_zone_133 (xj_go_v B dB_zone_133 vwB_67 rfl hq133) (xj_vw_c vwB_67) (xj_vw_i vwB_67) (by decide) (by decide) (by decide) rfl (fun r9 h9 => cE_settle hl _ _ _ r9 h9) h (fun A5 eA5 h => ?_)
      refine xg_iinc (pc := 136) (i := 7) (v := (v7 + 1)) (ls' := [(7, .int (v7 + 1)), (0, xj_rv v0)]) B dB_zone_136 rfl (xj_inc_1 _) (by decide) ⟨xj_nq (a := 0) (i := 7) (by decide), xj_nq (a := 7) (i := 7) (by decide), trivial⟩ rfl ?_
      refine xg_goto (pc := 139) (tgt := 113) B dB_zone_139 (by decide) ?_
      refine xg_sub (ls' := [(0, xj_rv v0), (7, .int (v7 + 1))]) [1, 0] rfl ?_
      exact (wB_zone_113 hl B n) v0 (v7 + 1) A5 h
theorem wB_zone_84 {l : Launch} (hl : l.stackTraces = false) {z : xj_F} (B : xj_B l yB_zone prog_1_method_3_code 8 none [] 6 z) (A : xj_H) (h : fB_zone_84  A = some (xf_r z)) : xj_W l z 84 [] [] A := by
  unfold fB_zone_84 at h
  exact xg_throw (pc := 84) B dB_zone_84 dB_zone_87 dB_zone_88 dB_zone_90 dB_zone_93 xwB_53_65_57 (by decide) rfl h
theorem wB_zone_50 {l : Launch} (hl : l.stackTraces = false) {z : xj_F} (B : xj_B l yB_zone prog_1_method_3_code 8 none [] 6 z) (A : xj_H) (h : fB_zone_50  A = some (xf_r z)) : xj_W l z 50 [] [] A := by
  unfold fB_zone_50 at h
  exact xg_throw (pc := 50) B dB_zone_50 dB_zone_53 dB_zone_54 dB_zone_56 dB_zone_59 xwB_53_63_57 (by decide) rfl h
theorem wB_zone_19 {l : Launch} (hl : l.stackTraces = false) {z : xj_F} (B : xj_B l yB_zone prog_1_method_3_code 8 none [] 6 z) (A : xj_H) (h : fB_zone_19  A = some (xf_r z)) : xj_W l z 19 [] [] A := by
  unfold fB_zone_19 at h
  exact xg_throw (pc := 19) B dB_zone_19 dB_zone_22 dB_zone_23 dB_zone_25 dB_zone_28 xwB_53_55_57 (by decide) rfl h
theorem wB_zone {l : Launch} (hl : l.stackTraces = false) {z : xj_F} (B : xj_B l yB_zone prog_1_method_3_code 8 none [] 6 z) (v0 : xj_Rf) (v1 : Int32) (v2 : Int32) (v3 : Int32) (v4 : Int32) (v5 : Int32) (v6 : Int32) (A : xj_H) (h : fB_zone v0 v1 v2 v3 v4 v5 v6 A = some (xf_r z)) : xj_W l z 0 [(0, xj_rv v0), (1, .int v1), (2, .int v2), (3, .int v3), (4, .int v4), (5, .int v5), (6, .int v6)] [] A := by
  unfold fB_zone at h
  refine xg_iload_n (pc := 0) (i := 1) B dB_zone_0 rfl rfl ?_
  refine xg_ci (pc := 1) (av := [.int v1]) (st := []) (cy := prog_1_method_18_code) (nLy := 1) (rety := (some .boolean)) (hsy := []) B dB_zone_1 (xj_go_s B dB_zone_1 swB_49 rfl) swB_49.2.2.1 swB_49.2.2.2.1 (by decide) (by decide) (by decide) rfl (fun r9 h9 => cB_isOffset hl _ _ r9 h9) h (fun x1 A2 eA2 h => ?_)
  refine xg_if_eq (pc := 4) (tgt := 19) B dB_zone_4 (by decide) h (fun c4 h => ?_) (fun c4 h => ?_)
  · refine xg_sub (ls' := []) [] rfl ?_
    exact wB_zone_19 hl B  A2 h
  · refine xg_iload_n (pc := 7) (i := 2) B dB_zone_7 rfl rfl ?_
    refine xg_ci (pc := 8) (av := [.int v2]) (st := []) (cy := prog_1_method_18_code) (nLy := 1) (rety := (some .boolean)) (hsy := []) B dB_zone_8 (xj_go_s B dB_zone_8 swB_49 rfl) swB_49.2.2.1 swB_49.2.2.2.1 (by decide) (by decide) (by decide) rfl (fun r9 h9 => cB_isOffset hl _ _ r9 h9) h (fun x3 A4 eA4 h => ?_)
    refine xg_if_eq (pc := 11) (tgt := 19) B dB_zone_11 (by decide) h (fun c11 h => ?_) (fun c11 h => ?_)
    · refine xg_sub (ls' := []) [] rfl ?_
      exact wB_zone_19 hl B  A4 h
    · refine xg_iload_n (pc := 14) (i := 2) B dB_zone_14 rfl rfl ?_
      refine xg_iload_n (pc := 15) (i := 1) B dB_zone_15 rfl rfl ?_
      refine xg_icmp_ge (pc := 16) (tgt := 29) B dB_zone_16 (by decide) h (fun c16 h => ?_) (fun c16 h => ?_)
      · refine xg_iload_n (pc := 29) (i := 3) B dB_zone_29 rfl rfl ?_
        refine xg_ci (pc := 30) (av := [.int v3]) (st := []) (cy := prog_1_method_19_code) (nLy := 1) (rety := (some .boolean)) (hsy := []) B dB_zone_30 (xj_go_s B dB_zone_30 swB_60 rfl) swB_60.2.2.1 swB_60.2.2.2.1 (by decide) (by decide) (by decide) rfl (fun r9 h9 => cB_isMonth hl _ _ r9 h9) h (fun x5 A6 eA6 h => ?_)
        refine xg_if_eq (pc := 33) (tgt := 50) B dB_zone_33 (by decide) h (fun c33 h => ?_) (fun c33 h => ?_)
        · refine xg_sub (ls' := []) [] rfl ?_
          exact wB_zone_50 hl B  A6 h
        · refine xg_iload (pc := 36) (i := 5) B dB_zone_36 rfl ?_
          refine xg_ci (pc := 38) (av := [.int v5]) (st := []) (cy := prog_1_method_19_code) (nLy := 1) (rety := (some .boolean)) (hsy := []) B dB_zone_38 (xj_go_s B dB_zone_38 swB_60 rfl) swB_60.2.2.1 swB_60.2.2.2.1 (by decide) (by decide) (by decide) rfl (fun r9 h9 => cB_isMonth hl _ _ r9 h9) h (fun x7 A8 eA8 h => ?_)
          refine xg_if_eq (pc := 41) (tgt := 50) B dB_zone_41 (by decide) h (fun c41 h => ?_) (fun c41 h => ?_)
          · refine xg_sub (ls' := []) [] rfl ?_
            exact wB_zone_50 hl B  A8 h
          · refine xg_iload_n (pc := 44) (i := 3) B dB_zone_44 rfl rfl ?_
            refine xg_iload (pc := 45) (i := 5) B dB_zone_45 rfl ?_
            refine xg_icmp_lt (pc := 47) (tgt := 60) B dB_zone_47 (by decide) h (fun c47 h => ?_) (fun c47 h => ?_)
            · refine xg_iload (pc := 60) (i := 4) B dB_zone_60 rfl ?_
              refine xg_iconst (pc := 62) (v := 1) B dB_zone_62 (by decide) ?_
              refine xg_icmp_lt (pc := 63) (tgt := 84) B dB_zone_63 (by decide) h (fun c63 h => ?_) (fun c63 h => ?_)
              · refine xg_sub (ls' := []) [] rfl ?_
                exact wB_zone_84 hl B  A8 h
              · refine xg_iload (pc := 66) (i := 4) B dB_zone_66 rfl ?_
                refine xg_iconst (pc := 68) (v := 5) B dB_zone_68 (by decide) ?_
                refine xg_icmp_gt (pc := 69) (tgt := 84) B dB_zone_69 (by decide) h (fun c69 h => ?_) (fun c69 h => ?_)
                · refine xg_sub (ls' := []) [] rfl ?_
                  exact wB_zone_84 hl B  A8 h
                · refine xg_iload (pc := 72) (i := 6) B dB_zone_72 rfl ?_
                  refine xg_iconst (pc := 74) (v := 1) B dB_zone_74 (by decide) ?_
                  refine xg_icmp_lt (pc := 75) (tgt := 84) B dB_zone_75 (by decide) h (fun c75 h => ?_) (fun c75 h => ?_)
                  · refine xg_sub (ls' := []) [] rfl ?_
                    exact wB_zone_84 hl B  A8 h
                  · refine xg_iload (pc := 78) (i := 6) B dB_zone_78 rfl ?_
                    refine xg_iconst (pc := 80) (v := 5) B dB_zone_80 (by decide) ?_
                    refine xg_icmp_le (pc := 81) (tgt := 94) B dB_zone_81 (by decide) h (fun c81 h => ?_) (fun c81 h => ?_)
                    · refine xg_aload_n (pc := 94) (i := 0) B dB_zone_94 rfl rfl ?_
                      refine xg_getr (pc := 95) B dB_zone_95 flB_20 h (fun x9 ex9 h => ?_)
                      refine xg_iload_n (pc := 98) (i := 1) B dB_zone_98 rfl rfl ?_
                      refine xg_iload_n (pc := 99) (i := 2) B dB_zone_99 rfl rfl ?_
                      refine xg_iload_n (pc := 100) (i := 3) B dB_zone_100 rfl rfl ?_
                      refine xg_iload (pc := 101) (i := 4) B dB_zone_101 rfl ?_
                      refine xg_iload (pc := 103) (i := 5) B dB_zone_103 rfl ?_
                      refine xg_iload (pc := 105) (i := 6) B dB_zone_105 rfl ?_
                      obtain ⟨hq107, h⟩ := xj_rq_v h
                      refine xg_cv (pc := 107) (av := [xj_rv x9, .int v1, .int v2, .int v3, .int v4, .int v5, .int v6]) (st := []) (cy := prog_9_method_2_code) (nLy := 10) (rety := none) (hsy := []) B dB_zone_107 (xj_go_v B dB_zone_107 vwB_24 rfl hq107) (xj_vw_c vwB_24) (xj_vw_i vwB_24) (by decide) (by decide) (by decide) rfl (fun r9 h9 => cZ_change hl _ _ _ _ _ _ _ _ r9 h9) h (fun A10 eA10 h => ?_)
                      refine xg_iconst (pc := 110) (v := 0) B dB_zone_110 (by decide) ?_
                      refine xg_istore (pc := 111) (i := 7) (ls' := [(7, .int (0 : Int32)), (0, xj_rv v0), (1, .int v1), (2, .int v2), (3, .int v3), (4, .int v4), (5, .int v5), (6, .int v6)]) B dB_zone_111 (by decide) ⟨xj_nq (a := 0) (i := 7) (by decide), xj_nq (a := 1) (i := 7) (by decide), xj_nq (a := 2) (i := 7) (by decide), xj_nq (a := 3) (i := 7) (by decide), xj_nq (a := 4) (i := 7) (by decide), xj_nq (a := 5) (i := 7) (by decide), fun _ => rfl, trivial⟩ rfl ?_
                      refine xg_sub (ls' := [(0, xj_rv v0), (7, .int (0 : Int32))]) [1, 0] rfl ?_
                      exact wB_zone_113 hl B xj_fu v0 (0 : Int32) A10 h
                    · refine xg_sub (ls' := []) [] rfl ?_
                      exact wB_zone_84 hl B  A8 h
            · refine xg_sub (ls' := []) [] rfl ?_
              exact wB_zone_50 hl B  A8 h
      · refine xg_sub (ls' := []) [] rfl ?_
        exact wB_zone_19 hl B  A4 h
theorem cB_zone {l : Launch} (hl : l.stackTraces = false) (v0 : xj_Rf) (v1 : Int32) (v2 : Int32) (v3 : Int32) (v4 : Int32) (v5 : Int32) (v6 : Int32) (A : xj_H) (r : xj_R) (h : fB_zone v0 v1 v2 v3 v4 v5 v6 A = some r) : xj_M l yB_zone prog_1_method_3_code 8 none [] 6 [xj_rv v0, .int v1, .int v2, .int v3, .int v4, .int v5, .int v6] A r := by
  refine xj_M.of hl (by decide +kernel) (by simp [lg_sl, xj_ic, xj_lc, xj_rv_cat]) (fun z B hA hr => ?_)
  subst hr
  have hw := wB_zone hl B v0 v1 v2 v3 v4 v5 v6 A h
  simpa [lv_args, xj_ic, xj_lc, xj_rv_cat] using hw
/-! RecurrenceBook$Rule.<init>()V -/
def fR_init (v0 : xj_Rf) (A : xj_H) : Option xj_R :=
  if xj_isw v0 = true then
  (xj_pv A v0 4 0 (xj_rv none)).bind fun A1 =>
  (xj_pv A1 v0 4 4 (.int (36524 : Int32))).bind fun A2 =>
  some (.inl none, A2)
  else none
theorem wR_init {l : Launch} (hl : l.stackTraces = false) {z : xj_F} (B : xj_B l yR_init prog_5_method_1_code 1 none [] 1 z) (v0 : xj_Rf) (A : xj_H) (h : fR_init v0 A = some (xf_r z)) : xj_W l z 0 [(0, xj_rv v0)] [] A := by
  unfold fR_init at h
  refine xg_aload_n (pc := 0) (i := 0) B dR_init_0 rfl rfl ?_
  obtain ⟨a1, ha1, h⟩ := xj_isw_inv h
  refine xg_objInit (pc := 1) B ha1 dR_init_1 owR_3 ow_i ow_c (by decide) (by decide) ?_
  refine xg_aload_n (pc := 4) (i := 0) B dR_init_4 rfl rfl ?_
  refine xg_null (pc := 5) B dR_init_5 ?_
  refine xg_putr (pc := 6) B (Or.inl ⟨_, rfl⟩) dR_init_6 (fpR_9 _) h (fun A1 eA1 h => ?_)
  refine xg_aload_n (pc := 9) (i := 0) B dR_init_9 rfl rfl ?_
  refine xg_ldc (pc := 10) (v := 36524) B dR_init_10 kR_15 ?_
  refine xg_puti (pc := 12) B dR_init_12 (fpR_16 _) h (fun A2 eA2 h => ?_)
  exact xg_vret B dR_init_15 h
theorem cR_init {l : Launch} (hl : l.stackTraces = false) (v0 : xj_Rf) (A : xj_H) (r : xj_R) (h : fR_init v0 A = some r) : xj_M l yR_init prog_5_method_1_code 1 none [] 1 [xj_rv v0] A r := by
  refine xj_M.of hl (by decide +kernel) (by simp [lg_sl, xj_ic, xj_lc, xj_rv_cat]) (fun z B hA hr => ?_)
  subst hr
  have hw := wR_init hl B v0 A h
  simpa [lv_args, xj_ic, xj_lc, xj_rv_cat] using hw
/-! RecurrenceBook$RuleReader.<init>([CI)V -/
def fQ_init (v0 : xj_Rf) (v1 : xj_Rf) (v2 : Int32) (A : xj_H) : Option xj_R :=
  if xj_isw v0 = true then
  (xj_pv A v0 5 0 (xj_rv v1)).bind fun A1 =>
  (xj_pv A1 v0 5 1 (.int v2)).bind fun A2 =>
  (xj_pv A2 v0 5 2 (.int (0 : Int32))).bind fun A3 =>
  (xj_mk A3 (.inr (4, [.null, .int 0, .int 0, .int 0, .int 0, .int 0, .int 0, .int 0, .int 0, .long 0, .long 0])) 11).bind fun A4 =>
  xj_bv (fR_init (xj_o A3.1.length) A4) fun A5 =>
  (xj_pv A5 v0 5 3 (xj_rv (xj_o A3.1.length))).bind fun A6 =>
  some (.inl none, A6)
  else none
theorem wQ_init {l : Launch} (hl : l.stackTraces = false) {z : xj_F} (B : xj_B l yQ_init prog_6_method_1_code 3 none [] 2 z) (v0 : xj_Rf) (v1 : xj_Rf) (v2 : Int32) (A : xj_H) (h : fQ_init v0 v1 v2 A = some (xf_r z)) : xj_W l z 0 [(0, xj_rv v0), (1, xj_rv v1), (2, .int v2)] [] A := by
  unfold fQ_init at h
  refine xg_aload_n (pc := 0) (i := 0) B dQ_init_0 rfl rfl ?_
  obtain ⟨a1, ha1, h⟩ := xj_isw_inv h
  refine xg_objInit (pc := 1) B ha1 dQ_init_1 owQ_3 ow_i ow_c (by decide) (by decide) ?_
  refine xg_aload_n (pc := 4) (i := 0) B dQ_init_4 rfl rfl ?_
  refine xg_aload_n (pc := 5) (i := 1) B dQ_init_5 rfl rfl ?_
  refine xg_putr (pc := 6) B (Or.inr ⟨_, rfl⟩) dQ_init_6 fpQ_9 h (fun A1 eA1 h => ?_)
  refine xg_aload_n (pc := 9) (i := 0) B dQ_init_9 rfl rfl ?_
  refine xg_iload_n (pc := 10) (i := 2) B dQ_init_10 rfl rfl ?_
  refine xg_puti (pc := 11) B dQ_init_11 fpQ_15 h (fun A2 eA2 h => ?_)
  refine xg_aload_n (pc := 14) (i := 0) B dQ_init_14 rfl rfl ?_
  refine xg_iconst (pc := 15) (v := 0) B dQ_init_15 (by decide) ?_
  refine xg_puti (pc := 16) B dQ_init_16 (fpQ_19 _) h (fun A3 eA3 h => ?_)
  refine xg_aload_n (pc := 19) (i := 0) B dQ_init_19 rfl rfl ?_
  refine xg_new (pc := 20) B dQ_init_20 nkQ_22 h (fun A4 eA4 h => ?_)
  refine xg_dup (pc := 23) B dQ_init_23 (xj_rv_cat _) ?_
  refine xg_cv (pc := 24) (av := [xj_rv (xj_o A3.1.length)]) (st := [xj_rv (xj_o A3.1.length), xj_rv v0]) (cy := prog_5_method_1_code) (nLy := 1) (rety := none) (hsy := []) B dQ_init_24 (xj_go_i B dQ_init_24 iwQ_24 rfl) iwQ_24.2.2.1 iwQ_24.2.2.2.1 (by decide) (by decide) (by simp [xj_ic, xj_lc, xj_rv_cat]) rfl (fun r9 h9 => cR_init hl _ _ r9 h9) h (fun A5 eA5 h => ?_)
  refine xg_putr (pc := 27) B (Or.inl ⟨_, rfl⟩) dQ_init_27 fpQ_25 h (fun A6 eA6 h => ?_)
  exact xg_vret B dQ_init_30 h
theorem cQ_init {l : Launch} (hl : l.stackTraces = false) (v0 : xj_Rf) (v1 : xj_Rf) (v2 : Int32) (A : xj_H) (r : xj_R) (h : fQ_init v0 v1 v2 A = some r) : xj_M l yQ_init prog_6_method_1_code 3 none [] 2 [xj_rv v0, xj_rv v1, .int v2] A r := by
  refine xj_M.of hl (by decide +kernel) (by simp [lg_sl, xj_ic, xj_lc, xj_rv_cat]) (fun z B hA hr => ?_)
  subst hr
  have hw := wQ_init hl B v0 v1 v2 A h
  simpa [lv_args, xj_ic, xj_lc, xj_rv_cat] using hw
/-! RecurrenceBook.isDay(I)Z -/
def fB_isDay_15 (s0 : Int32) (A : xj_H) : Option xj_R :=
  xj_rz s0 A
def fB_isDay_14 (A : xj_H) : Option xj_R :=
  fB_isDay_15 (0 : Int32) A
def fB_isDay (v0 : Int32) (A : xj_H) : Option xj_R :=
  if v0 < 0 then
    fB_isDay_14  A
  else
    if (36524 : Int32) < v0 then
      fB_isDay_14  A
    else
      fB_isDay_15 (1 : Int32) A
theorem wB_isDay_15 {l : Launch} (hl : l.stackTraces = false) {z : xj_F} (B : xj_B l yB_isDay prog_1_method_20_code 1 (some .boolean) [] 1 z) (s0 : Int32) (A : xj_H) (h : fB_isDay_15 s0 A = some (xf_r z)) : xj_W l z 15 [] [.int s0] A := by
  unfold fB_isDay_15 at h
  exact xg_zret B dB_isDay_15 h
theorem wB_isDay_14 {l : Launch} (hl : l.stackTraces = false) {z : xj_F} (B : xj_B l yB_isDay prog_1_method_20_code 1 (some .boolean) [] 1 z) (A : xj_H) (h : fB_isDay_14  A = some (xf_r z)) : xj_W l z 14 [] [] A := by
  unfold fB_isDay_14 at h
  refine xg_iconst (pc := 14) (v := 0) B dB_isDay_14 (by decide) ?_
  exact wB_isDay_15 hl B (0 : Int32) A h
theorem wB_isDay {l : Launch} (hl : l.stackTraces = false) {z : xj_F} (B : xj_B l yB_isDay prog_1_method_20_code 1 (some .boolean) [] 1 z) (v0 : Int32) (A : xj_H) (h : fB_isDay v0 A = some (xf_r z)) : xj_W l z 0 [(0, .int v0)] [] A := by
  unfold fB_isDay at h
  refine xg_iload_n (pc := 0) (i := 0) B dB_isDay_0 rfl rfl ?_
  refine xg_if_lt (pc := 1) (tgt := 14) B dB_isDay_1 (by decide) h (fun c1 h => ?_) (fun c1 h => ?_)
  · refine xg_sub (ls' := []) [] rfl ?_
    exact wB_isDay_14 hl B  A h
  · refine xg_iload_n (pc := 4) (i := 0) B dB_isDay_4 rfl rfl ?_
    refine xg_ldc (pc := 5) (v := 36524) B dB_isDay_5 kB_187 ?_
    refine xg_icmp_gt (pc := 7) (tgt := 14) B dB_isDay_7 (by decide) h (fun c7 h => ?_) (fun c7 h => ?_)
    · refine xg_sub (ls' := []) [] rfl ?_
      exact wB_isDay_14 hl B  A h
    · refine xg_iconst (pc := 10) (v := 1) B dB_isDay_10 (by decide) ?_
      refine xg_goto (pc := 11) (tgt := 15) B dB_isDay_11 (by decide) ?_
      refine xg_sub (ls' := []) [] rfl ?_
      exact wB_isDay_15 hl B (1 : Int32) A h
theorem cB_isDay {l : Launch} (hl : l.stackTraces = false) (v0 : Int32) (A : xj_H) (r : xj_R) (h : fB_isDay v0 A = some r) : xj_M l yB_isDay prog_1_method_20_code 1 (some .boolean) [] 1 [.int v0] A r := by
  refine xj_M.of hl (by decide +kernel) (by simp [lg_sl, xj_ic, xj_lc, xj_rv_cat]) (fun z B hA hr => ?_)
  subst hr
  have hw := wB_isDay hl B v0 A h
  simpa [lv_args, xj_ic, xj_lc, xj_rv_cat] using hw
/-! java/lang/String.coder()B -/
def fK_coder_14 (s0 : Int32) (A : xj_H) : Option xj_R :=
  xj_rn .byte s0 A
def fK_coder (v0 : xj_Rf) (A : xj_H) : Option xj_R :=
  if (1 : Int32) = 0 then
    fK_coder_14 (1 : Int32) A
  else
    (xj_sk v0).bind fun x5 =>
    fK_coder_14 x5 A
theorem wK_coder_14 {l : Launch} (hl : l.stackTraces = false) {z : xj_F} (B : xj_B l yK_coder prog_18_method_152_code 1 (some .byte) [] 1 z) (s0 : Int32) (A : xj_H) (h : fK_coder_14 s0 A = some (xf_r z)) : xj_W l z 14 [] [.int s0] A := by
  unfold fK_coder_14 at h
  exact xg_bret B dK_coder_14 h
theorem wK_coder {l : Launch} (hl : l.stackTraces = false) {z : xj_F} (B : xj_B l yK_coder prog_18_method_152_code 1 (some .byte) [] 1 z) (v0 : xj_Rf) (A : xj_H) (h : fK_coder v0 A = some (xf_r z)) : xj_W l z 0 [(0, xj_rv v0)] [] A := by
  unfold fK_coder at h
  refine xg_getcs (pc := 0) B dK_coder_0 gsK_38 ?_
  refine xg_if_eq (pc := 3) (tgt := 13) B dK_coder_3 (by decide) h (fun c3 h => ?_) (fun c3 h => ?_)
  · refine xg_iconst (pc := 13) (v := 1) B dK_coder_13 (by decide) ?_
    refine xg_sub (ls' := []) [] rfl ?_
    exact wK_coder_14 hl B (1 : Int32) A h
  · refine xg_aload_n (pc := 6) (i := 0) B dK_coder_6 rfl rfl ?_
    refine xg_scod (pc := 7) B dK_coder_7 ks_coder h (fun x5 ex5 h => ?_)
    refine xg_goto (pc := 10) (tgt := 14) B dK_coder_10 (by decide) ?_
    refine xg_sub (ls' := []) [] rfl ?_
    exact wK_coder_14 hl B x5 A h
theorem cK_coder {l : Launch} (hl : l.stackTraces = false) (v0 : xj_Rf) (A : xj_H) (r : xj_R) (h : fK_coder v0 A = some r) : xj_M l yK_coder prog_18_method_152_code 1 (some .byte) [] 1 [xj_rv v0] A r := by
  refine xj_M.of hl (by decide +kernel) (by simp [lg_sl, xj_ic, xj_lc, xj_rv_cat]) (fun z B hA hr => ?_)
  subst hr
  have hw := wK_coder hl B v0 A h
  simpa [lv_args, xj_ic, xj_lc, xj_rv_cat] using hw
/-! java/lang/String.length()I -/
def fK_length (v0 : xj_Rf) (A : xj_H) : Option xj_R :=
  (xj_sv v0).bind fun x2 =>
  (xj_sn x2).bind fun x3 =>
  xj_bi (xj_zq v0 (fK_coder v0 A)) fun x6 A7 =>
  some (.inl (some (.int (x3 >>> (x6 &&& 31)))), A7)
theorem wK_length {l : Launch} (hl : l.stackTraces = false) {z : xj_F} (B : xj_B l yK_length prog_18_method_54_code 1 (some .int) [] 2 z) (v0 : xj_Rf) (A : xj_H) (h : fK_length v0 A = some (xf_r z)) : xj_W l z 0 [(0, xj_rv v0)] [] A := by
  unfold fK_length at h
  refine xg_aload_n (pc := 0) (i := 0) B dK_length_0 rfl rfl ?_
  refine xg_sval (pc := 1) B dK_length_1 ks_value h (fun x2 ex2 h => ?_)
  refine xg_sblen (pc := 4) B dK_length_4 h (fun x3 ex3 h => ?_)
  refine xg_aload_n (pc := 5) (i := 0) B dK_length_5 rfl rfl ?_
  obtain ⟨hq6, h⟩ := xj_zq_i h
  refine xg_ci (pc := 6) (av := [xj_rv v0]) (st := [.int x3]) (cy := prog_18_method_152_code) (nLy := 1) (rety := (some .byte)) (hsy := []) B dK_length_6 (xj_go_z B dK_length_6 zwK_335 rfl hq6) zwK_335.2.2.2.1 zwK_335.2.2.2.2.1 (by decide) (by decide) (by simp [xj_ic, xj_lc, xj_rv_cat]) rfl (fun r9 h9 => cK_coder hl _ _ r9 h9) h (fun x6 A7 eA7 h => ?_)
  refine xg_ishr (pc := 9) B dK_length_9 ?_
  exact xg_iret B dK_length_10 h
theorem cK_length {l : Launch} (hl : l.stackTraces = false) (v0 : xj_Rf) (A : xj_H) (r : xj_R) (h : fK_length v0 A = some r) : xj_M l yK_length prog_18_method_54_code 1 (some .int) [] 2 [xj_rv v0] A r := by
  refine xj_M.of hl (by decide +kernel) (by simp [lg_sl, xj_ic, xj_lc, xj_rv_cat]) (fun z B hA hr => ?_)
  subst hr
  have hw := wK_length hl B v0 A h
  simpa [lv_args, xj_ic, xj_lc, xj_rv_cat] using hw
/-! java/lang/String.isLatin1()Z -/
def fK_isLatin1_18 (s0 : Int32) (A : xj_H) : Option xj_R :=
  xj_rz s0 A
def fK_isLatin1_17 (A : xj_H) : Option xj_R :=
  fK_isLatin1_18 (0 : Int32) A
def fK_isLatin1 (v0 : xj_Rf) (A : xj_H) : Option xj_R :=
  if (1 : Int32) = 0 then
    fK_isLatin1_17  A
  else
    (xj_sk v0).bind fun x4 =>
    if ¬ x4 = 0 then
      fK_isLatin1_17  A
    else
      fK_isLatin1_18 (1 : Int32) A
theorem wK_isLatin1_18 {l : Launch} (hl : l.stackTraces = false) {z : xj_F} (B : xj_B l yK_isLatin1 prog_18_method_154_code 1 (some .boolean) [] 1 z) (s0 : Int32) (A : xj_H) (h : fK_isLatin1_18 s0 A = some (xf_r z)) : xj_W l z 18 [] [.int s0] A := by
  unfold fK_isLatin1_18 at h
  exact xg_zret B dK_isLatin1_18 h
theorem wK_isLatin1_17 {l : Launch} (hl : l.stackTraces = false) {z : xj_F} (B : xj_B l yK_isLatin1 prog_18_method_154_code 1 (some .boolean) [] 1 z) (A : xj_H) (h : fK_isLatin1_17  A = some (xf_r z)) : xj_W l z 17 [] [] A := by
  unfold fK_isLatin1_17 at h
  refine xg_iconst (pc := 17) (v := 0) B dK_isLatin1_17 (by decide) ?_
  exact wK_isLatin1_18 hl B (0 : Int32) A h
theorem wK_isLatin1 {l : Launch} (hl : l.stackTraces = false) {z : xj_F} (B : xj_B l yK_isLatin1 prog_18_method_154_code 1 (some .boolean) [] 1 z) (v0 : xj_Rf) (A : xj_H) (h : fK_isLatin1 v0 A = some (xf_r z)) : xj_W l z 0 [(0, xj_rv v0)] [] A := by
  unfold fK_isLatin1 at h
  refine xg_getcs (pc := 0) B dK_isLatin1_0 gsK_38 ?_
  refine xg_if_eq (pc := 3) (tgt := 17) B dK_isLatin1_3 (by decide) h (fun c3 h => ?_) (fun c3 h => ?_)
  · refine xg_sub (ls' := []) [] rfl ?_
    exact wK_isLatin1_17 hl B  A h
  · refine xg_aload_n (pc := 6) (i := 0) B dK_isLatin1_6 rfl rfl ?_
    refine xg_scod (pc := 7) B dK_isLatin1_7 ks_coder h (fun x4 ex4 h => ?_)
    refine xg_if_ne (pc := 10) (tgt := 17) B dK_isLatin1_10 (by decide) h (fun c10 h => ?_) (fun c10 h => ?_)
    · refine xg_sub (ls' := []) [] rfl ?_
      exact wK_isLatin1_17 hl B  A h
    · refine xg_iconst (pc := 13) (v := 1) B dK_isLatin1_13 (by decide) ?_
      refine xg_goto (pc := 14) (tgt := 18) B dK_isLatin1_14 (by decide) ?_
      refine xg_sub (ls' := []) [] rfl ?_
      exact wK_isLatin1_18 hl B (1 : Int32) A h
theorem cK_isLatin1 {l : Launch} (hl : l.stackTraces = false) (v0 : xj_Rf) (A : xj_H) (r : xj_R) (h : fK_isLatin1 v0 A = some r) : xj_M l yK_isLatin1 prog_18_method_154_code 1 (some .boolean) [] 1 [xj_rv v0] A r := by
  refine xj_M.of hl (by decide +kernel) (by simp [lg_sl, xj_ic, xj_lc, xj_rv_cat]) (fun z B hA hr => ?_)
  subst hr
  have hw := wK_isLatin1 hl B v0 A h
  simpa [lv_args, xj_ic, xj_lc, xj_rv_cat] using hw
/-! jdk/internal/util/Preconditions.checkIndex(IILjava/util/function/BiFunction;)I -/
def fP_checkIndex_9 (A : xj_H) : Option xj_R :=
  none
def fP_checkIndex (v0 : Int32) (v1 : Int32) (v2 : xj_Rf) (A : xj_H) : Option xj_R :=
  if v0 < 0 then
    fP_checkIndex_9  A
  else
    if v0 < v1 then
      some (.inl (some (.int v0)), A)
    else
      fP_checkIndex_9  A
theorem wP_checkIndex_9 {l : Launch} (hl : l.stackTraces = false) {z : xj_F} (B : xj_B l yP_checkIndex prog_23_method_11_code 3 (some .int) [] 1 z) (A : xj_H) (h : fP_checkIndex_9  A = some (xf_r z)) : xj_W l z 9 [] [] A := by
  unfold fP_checkIndex_9 at h
  cases h
theorem wP_checkIndex {l : Launch} (hl : l.stackTraces = false) {z : xj_F} (B : xj_B l yP_checkIndex prog_23_method_11_code 3 (some .int) [] 1 z) (v0 : Int32) (v1 : Int32) (v2 : xj_Rf) (A : xj_H) (h : fP_checkIndex v0 v1 v2 A = some (xf_r z)) : xj_W l z 0 [(0, .int v0), (1, .int v1), (2, xj_rv v2)] [] A := by
  unfold fP_checkIndex at h
  refine xg_iload_n (pc := 0) (i := 0) B dP_checkIndex_0 rfl rfl ?_
  refine xg_if_lt (pc := 1) (tgt := 9) B dP_checkIndex_1 (by decide) h (fun c1 h => ?_) (fun c1 h => ?_)
  · refine xg_sub (ls' := []) [] rfl ?_
    exact wP_checkIndex_9 hl B  A h
  · refine xg_iload_n (pc := 4) (i := 0) B dP_checkIndex_4 rfl rfl ?_
    refine xg_iload_n (pc := 5) (i := 1) B dP_checkIndex_5 rfl rfl ?_
    refine xg_icmp_lt (pc := 6) (tgt := 16) B dP_checkIndex_6 (by decide) h (fun c6 h => ?_) (fun c6 h => ?_)
    · refine xg_iload_n (pc := 16) (i := 0) B dP_checkIndex_16 rfl rfl ?_
      exact xg_iret B dP_checkIndex_17 h
    · refine xg_sub (ls' := []) [] rfl ?_
      exact wP_checkIndex_9 hl B  A h
theorem cP_checkIndex {l : Launch} (hl : l.stackTraces = false) (v0 : Int32) (v1 : Int32) (v2 : xj_Rf) (A : xj_H) (r : xj_R) (h : fP_checkIndex v0 v1 v2 A = some r) : xj_M l yP_checkIndex prog_23_method_11_code 3 (some .int) [] 1 [.int v0, .int v1, xj_rv v2] A r := by
  refine xj_M.of hl (by decide +kernel) (by simp [lg_sl, xj_ic, xj_lc, xj_rv_cat]) (fun z B hA hr => ?_)
  subst hr
  have hw := wP_checkIndex hl B v0 v1 v2 A h
  simpa [lv_args, xj_ic, xj_lc, xj_rv_cat] using hw
/-! java/lang/String.checkIndex -/
def fK_checkIndex (v0 : Int32) (v1 : Int32) (A : xj_H) : Option xj_R :=
  xj_bi (fP_checkIndex v0 v1 none A) fun _ A2 =>
  some (.inl none, A2)
theorem wK_checkIndex {l : Launch} (hl : l.stackTraces = false) {z : xj_F} (B : xj_B l yK_checkIndex prog_18_method_155_code 2 none [] 2 z) (v0 : Int32) (v1 : Int32) (A : xj_H) (h : fK_checkIndex v0 v1 A = some (xf_r z)) : xj_W l z 0 [(0, .int v0), (1, .int v1)] [] A := by
  unfold fK_checkIndex at h
  refine xg_iload_n (pc := 0) (i := 0) B dK_checkIndex_0 rfl rfl ?_
  refine xg_iload_n (pc := 1) (i := 1) B dK_checkIndex_1 rfl rfl ?_
  refine xg_getsf (pc := 2) B dK_checkIndex_2 gsK_1053 (fun r8 => ?_)
  refine xg_ci (pc := 5) (av := [.int v0, .int v1, xj_rv r8]) (st := []) B dK_checkIndex_5 (xj_go_s B dK_checkIndex_5 swK_1059 rfl) swK_1059.2.2.1 swK_1059.2.2.2.1 (by decide) (by decide) (by decide) rfl (fun r9 h9 => cP_checkIndex hl v0 v1 r8 A r9 h9) h (fun x1 A2 eA2 h => ?_)
  refine xg_pop (pc := 8) B dK_checkIndex_8 rfl ?_
  exact xg_vret B dK_checkIndex_9 h
theorem cK_checkIndex {l : Launch} (hl : l.stackTraces = false) (v0 : Int32) (v1 : Int32) (A : xj_H) (r : xj_R) (h : fK_checkIndex v0 v1 A = some r) : xj_M l yK_checkIndex prog_18_method_155_code 2 none [] 2 [.int v0, .int v1] A r := by
  refine xj_M.of hl (by decide +kernel) (by simp [lg_sl, xj_ic]) (fun z B hA hr => ?_)
  subst hr
  have hw := wK_checkIndex hl B v0 v1 A h
  simpa [lv_args, xj_ic] using hw

/-! java/lang/StringLatin1.charAt([BI)C -/
def fT_charAt (v0 : xj_Rf) (v1 : Int32) (A : xj_H) : Option xj_R :=
  (xj_sn v0).bind fun x3 =>
  xj_bv (fK_checkIndex v1 x3 A) fun A5 =>
  (xj_sx v0 v1).bind fun x8 =>
  xj_rn .char ((Int32.toUInt32 (x8 &&& (255 : Int32)) % 65536).toInt32) A5
theorem wT_charAt {l : Launch} (hl : l.stackTraces = false) {z : xj_F} (B : xj_B l yT_charAt prog_19_method_2_code 2 (some .char) [] 3 z) (v0 : xj_Rf) (v1 : Int32) (A : xj_H) (h : fT_charAt v0 v1 A = some (xf_r z)) : xj_W l z 0 [(0, xj_rv v0), (1, .int v1)] [] A := by
  unfold fT_charAt at h
  refine xg_iload_n (pc := 0) (i := 1) B dT_charAt_0 rfl rfl ?_
  refine xg_aload_n (pc := 1) (i := 0) B dT_charAt_1 rfl rfl ?_
  refine xg_sblen (pc := 2) B dT_charAt_2 h (fun x3 ex3 h => ?_)
  refine xg_cv (pc := 3) (av := [.int v1, .int x3]) (st := []) (cy := prog_18_method_155_code) (nLy := 2) (rety := none) (hsy := []) B dT_charAt_3 (xj_go_s B dT_charAt_3 swT_9 rfl) swT_9.2.2.1 swT_9.2.2.2.1 (by decide) (by decide) (by decide) rfl (fun r9 h9 => cK_checkIndex hl _ _ _ r9 h9) h (fun A5 eA5 h => ?_)
  refine xg_aload_n (pc := 6) (i := 0) B dT_charAt_6 rfl rfl ?_
  refine xg_iload_n (pc := 7) (i := 1) B dT_charAt_7 rfl rfl ?_
  refine xg_sbload (pc := 8) B dT_charAt_8 h (fun x8 ex8 h => ?_)
  refine xg_sipush (pc := 9) (v := 255) B dT_charAt_9 (by decide) ?_
  refine xg_iand (pc := 12) B dT_charAt_12 ?_
  refine xg_i2c (pc := 13) B dT_charAt_13 ?_
  exact xg_cret B dT_charAt_14 h
theorem cT_charAt {l : Launch} (hl : l.stackTraces = false) (v0 : xj_Rf) (v1 : Int32) (A : xj_H) (r : xj_R) (h : fT_charAt v0 v1 A = some r) : xj_M l yT_charAt prog_19_method_2_code 2 (some .char) [] 3 [xj_rv v0, .int v1] A r := by
  refine xj_M.of hl (by decide +kernel) (by simp [lg_sl, xj_ic, xj_lc, xj_rv_cat]) (fun z B hA hr => ?_)
  subst hr
  have hw := wT_charAt hl B v0 v1 A h
  simpa [lv_args, xj_ic, xj_lc, xj_rv_cat] using hw
/-! java/lang/String.charAt(I)C -/
def fK_charAt (v0 : xj_Rf) (v1 : Int32) (A : xj_H) : Option xj_R :=
  xj_bi (xj_zq v0 (fK_isLatin1 v0 A)) fun x3 A4 =>
  if x3 = 0 then
    none
  else
    (xj_sv v0).bind fun x7 =>
    xj_bi (fT_charAt x7 v1 A4) fun x10 A11 =>
    xj_rn .char x10 A11
theorem wK_charAt {l : Launch} (hl : l.stackTraces = false) {z : xj_F} (B : xj_B l yK_charAt prog_18_method_56_code 2 (some .char) [] 4 z) (v0 : xj_Rf) (v1 : Int32) (A : xj_H) (h : fK_charAt v0 v1 A = some (xf_r z)) : xj_W l z 0 [(0, xj_rv v0), (1, .int v1)] [] A := by
  unfold fK_charAt at h
  refine xg_aload_n (pc := 0) (i := 0) B dK_charAt_0 rfl rfl ?_
  obtain ⟨hq1, h⟩ := xj_zq_i h
  refine xg_ci (pc := 1) (av := [xj_rv v0]) (st := []) (cy := prog_18_method_154_code) (nLy := 1) (rety := (some .boolean)) (hsy := []) B dK_charAt_1 (xj_go_z B dK_charAt_1 zwK_492 rfl hq1) zwK_492.2.2.2.1 zwK_492.2.2.2.2.1 (by decide) (by decide) (by decide) rfl (fun r9 h9 => cK_isLatin1 hl _ _ r9 h9) h (fun x3 A4 eA4 h => ?_)
  refine xg_if_eq (pc := 4) (tgt := 16) B dK_charAt_4 (by decide) h (fun c4 h => ?_) (fun c4 h => ?_)
  · cases h
  · refine xg_aload_n (pc := 7) (i := 0) B dK_charAt_7 rfl rfl ?_
    refine xg_sval (pc := 8) B dK_charAt_8 ks_value h (fun x7 ex7 h => ?_)
    refine xg_iload_n (pc := 11) (i := 1) B dK_charAt_11 rfl rfl ?_
    refine xg_ci (pc := 12) (av := [xj_rv x7, .int v1]) (st := []) (cy := prog_19_method_2_code) (nLy := 2) (rety := (some .char)) (hsy := []) B dK_charAt_12 (xj_go_s B dK_charAt_12 swK_495 rfl) swK_495.2.2.1 swK_495.2.2.2.1 (by decide) (by decide) (by decide) rfl (fun r9 h9 => cT_charAt hl _ _ _ r9 h9) h (fun x10 A11 eA11 h => ?_)
    exact xg_cret B dK_charAt_15 h
theorem cK_charAt {l : Launch} (hl : l.stackTraces = false) (v0 : xj_Rf) (v1 : Int32) (A : xj_H) (r : xj_R) (h : fK_charAt v0 v1 A = some r) : xj_M l yK_charAt prog_18_method_56_code 2 (some .char) [] 4 [xj_rv v0, .int v1] A r := by
  refine xj_M.of hl (by decide +kernel) (by simp [lg_sl, xj_ic, xj_lc, xj_rv_cat]) (fun z B hA hr => ?_)
  subst hr
  have hw := wK_charAt hl B v0 v1 A h
  simpa [lv_args, xj_ic, xj_lc, xj_rv_cat] using hw
/-! RecurrenceBook$RuleReader.takeWord(Ljava/lang/String;)Z -/
def fQ_takeWord_20 : Nat → xj_Rf → xj_Rf → Int32 → xj_H → Option xj_R
  | 0, _, _, _, _ => none
  | n + 1, v0, v1, v2, A =>
    xj_bi (xj_zq v1 (fK_length v1 A)) fun x1 A2 =>
    if x1 ≤ v2 then
      (xj_gi A2 v0 5 2).bind fun x3 =>
      xj_bi (xj_zq v1 (fK_length v1 A2)) fun x4 A5 =>
      (xj_pv A5 v0 5 2 (.int (x3 + x4))).bind fun A6 =>
      xj_rz (1 : Int32) A6
    else
      (xj_gr A2 v0 5 0).bind fun x7 =>
      (xj_gi A2 v0 5 2).bind fun x8 =>
      (xj_ai A2 x7 1 (x8 + v2)).bind fun x9 =>
      xj_bi (xj_zq v1 (fK_charAt v1 v2 A2)) fun x10 A11 =>
      if x9 = x10 then
        (fQ_takeWord_20 n) v0 v1 (v2 + 1) A11
      else
        xj_rz (0 : Int32) A11
def fQ_takeWord (v0 : xj_Rf) (v1 : xj_Rf) (A : xj_H) : Option xj_R :=
  xj_bi (xj_zq v1 (fK_length v1 A)) fun x1 A2 =>
  (xj_gi A2 v0 5 1).bind fun x3 =>
  (xj_gi A2 v0 5 2).bind fun x4 =>
  if x1 ≤ (x3 - x4) then
    fQ_takeWord_20 xj_fu v0 v1 (0 : Int32) A2
  else
    xj_rz (0 : Int32) A2
theorem wQ_takeWord_20 {l : Launch} (hl : l.stackTraces = false) {z : xj_F} (B : xj_B l yQ_takeWord prog_6_method_16_code 3 (some .boolean) [] 5 z) : ∀ (n : Nat) (v0 : xj_Rf) (v1 : xj_Rf) (v2 : Int32) (A : xj_H), fQ_takeWord_20 n v0 v1 v2 A = some (xf_r z) → xj_W l z 20 [(0, xj_rv v0), (1, xj_rv v1), (2, .int v2)] [] A
  | 0, _, _, _, _, h => by simp [fQ_takeWord_20] at h
  | n + 1, v0, v1, v2, A, h => by
    rw [fQ_takeWord_20] at h
    refine xg_iload_n (pc := 20) (i := 2) B dQ_takeWord_20 rfl rfl ?_
    refine xg_aload_n (pc := 21) (i := 1) B dQ_takeWord_21 rfl rfl ?_
    obtain ⟨hq22, h⟩ := xj_zq_i h
    refine xg_ci (pc := 22) (av := [xj_rv v1]) (st := [.int v2]) (cy := prog_18_method_54_code) (nLy := 1) (rety := (some .int)) (hsy := []) B dQ_takeWord_22 (xj_go_z B dQ_takeWord_22 zwQ_160 rfl hq22) zwQ_160.2.2.2.1 zwQ_160.2.2.2.2.1 (by decide) (by decide) (by simp [xj_ic, xj_lc, xj_rv_cat]) rfl (fun r9 h9 => cK_length hl _ _ r9 h9) h (fun x1 A2 eA2 h => ?_)
    refine xg_icmp_ge (pc := 25) (tgt := 55) B dQ_takeWord_25 (by decide) h (fun c25 h => ?_) (fun c25 h => ?_)
    · refine xg_aload_n (pc := 55) (i := 0) B dQ_takeWord_55 rfl rfl ?_
      refine xg_dup (pc := 56) B dQ_takeWord_56 (xj_rv_cat _) ?_
      refine xg_geti (pc := 57) B dQ_takeWord_57 flQ_19 h (fun x3 ex3 h => ?_)
      refine xg_aload_n (pc := 60) (i := 1) B dQ_takeWord_60 rfl rfl ?_
      obtain ⟨hq61, h⟩ := xj_zq_i h
      refine xg_ci (pc := 61) (av := [xj_rv v1]) (st := [.int x3, xj_rv v0]) (cy := prog_18_method_54_code) (nLy := 1) (rety := (some .int)) (hsy := []) B dQ_takeWord_61 (xj_go_z B dQ_takeWord_61 zwQ_160 rfl hq61) zwQ_160.2.2.2.1 zwQ_160.2.2.2.2.1 (by decide) (by decide) (by simp [xj_ic, xj_lc, xj_rv_cat]) rfl (fun r9 h9 => cK_length hl _ _ r9 h9) h (fun x4 A5 eA5 h => ?_)
      refine xg_iadd (pc := 64) B dQ_takeWord_64 ?_
      refine xg_puti (pc := 65) B dQ_takeWord_65 (fpQ_19 _) h (fun A6 eA6 h => ?_)
      refine xg_iconst (pc := 68) (v := 1) B dQ_takeWord_68 (by decide) ?_
      exact xg_zret B dQ_takeWord_69 h
    · refine xg_aload_n (pc := 28) (i := 0) B dQ_takeWord_28 rfl rfl ?_
      refine xg_getr (pc := 29) B dQ_takeWord_29 flQ_9 h (fun x7 ex7 h => ?_)
      refine xg_aload_n (pc := 32) (i := 0) B dQ_takeWord_32 rfl rfl ?_
      refine xg_geti (pc := 33) B dQ_takeWord_33 flQ_19 h (fun x8 ex8 h => ?_)
      refine xg_iload_n (pc := 36) (i := 2) B dQ_takeWord_36 rfl rfl ?_
      refine xg_iadd (pc := 37) B dQ_takeWord_37 ?_
      refine xg_caload (pc := 38) B dQ_takeWord_38 h (fun x9 ex9 h => ?_)
      refine xg_aload_n (pc := 39) (i := 1) B dQ_takeWord_39 rfl rfl ?_
      refine xg_iload_n (pc := 40) (i := 2) B dQ_takeWord_40 rfl rfl ?_
      obtain ⟨hq41, h⟩ := xj_zq_i h
      refine xg_ci (pc := 41) (av := [xj_rv v1, .int v2]) (st := [.int x9]) (cy := prog_18_method_56_code) (nLy := 2) (rety := (some .char)) (hsy := []) B dQ_takeWord_41 (xj_go_z B dQ_takeWord_41 zwQ_154 rfl hq41) zwQ_154.2.2.2.1 zwQ_154.2.2.2.2.1 (by decide) (by decide) (by simp [xj_ic, xj_lc, xj_rv_cat]) rfl (fun r9 h9 => cK_charAt hl _ _ _ r9 h9) h (fun x10 A11 eA11 h => ?_)
      refine xg_icmp_eq (pc := 44) (tgt := 49) B dQ_takeWord_44 (by decide) h (fun c44 h => ?_) (fun c44 h => ?_)
      · refine xg_iinc (pc := 49) (i := 2) (v := (v2 + 1)) (ls' := [(2, .int (v2 + 1)), (0, xj_rv v0), (1, xj_rv v1)]) B dQ_takeWord_49 rfl (xj_inc_1 _) (by decide) ⟨xj_nq (a := 0) (i := 2) (by decide), fun _ => xj_rv_cat _, xj_nq (a := 2) (i := 2) (by decide), trivial⟩ rfl ?_
        refine xg_goto (pc := 52) (tgt := 20) B dQ_takeWord_52 (by decide) ?_
        refine xg_sub (ls' := [(0, xj_rv v0), (1, xj_rv v1), (2, .int (v2 + 1))]) [1, 2, 0] rfl ?_
        exact (wQ_takeWord_20 hl B n) v0 v1 (v2 + 1) A11 h
      · refine xg_iconst (pc := 47) (v := 0) B dQ_takeWord_47 (by decide) ?_
        exact xg_zret B dQ_takeWord_48 h
theorem wQ_takeWord {l : Launch} (hl : l.stackTraces = false) {z : xj_F} (B : xj_B l yQ_takeWord prog_6_method_16_code 3 (some .boolean) [] 5 z) (v0 : xj_Rf) (v1 : xj_Rf) (A : xj_H) (h : fQ_takeWord v0 v1 A = some (xf_r z)) : xj_W l z 0 [(0, xj_rv v0), (1, xj_rv v1)] [] A := by
  unfold fQ_takeWord at h
  refine xg_aload_n (pc := 0) (i := 1) B dQ_takeWord_0 rfl rfl ?_
  obtain ⟨hq1, h⟩ := xj_zq_i h
  refine xg_ci (pc := 1) (av := [xj_rv v1]) (st := []) (cy := prog_18_method_54_code) (nLy := 1) (rety := (some .int)) (hsy := []) B dQ_takeWord_1 (xj_go_z B dQ_takeWord_1 zwQ_160 rfl hq1) zwQ_160.2.2.2.1 zwQ_160.2.2.2.2.1 (by decide) (by decide) (by decide) rfl (fun r9 h9 => cK_length hl _ _ r9 h9) h (fun x1 A2 eA2 h => ?_)
  refine xg_aload_n (pc := 4) (i := 0) B dQ_takeWord_4 rfl rfl ?_
  refine xg_geti (pc := 5) B dQ_takeWord_5 flQ_15 h (fun x3 ex3 h => ?_)
  refine xg_aload_n (pc := 8) (i := 0) B dQ_takeWord_8 rfl rfl ?_
  refine xg_geti (pc := 9) B dQ_takeWord_9 flQ_19 h (fun x4 ex4 h => ?_)
  refine xg_isub (pc := 12) B dQ_takeWord_12 ?_
  refine xg_icmp_le (pc := 13) (tgt := 18) B dQ_takeWord_13 (by decide) h (fun c13 h => ?_) (fun c13 h => ?_)
  · refine xg_iconst (pc := 18) (v := 0) B dQ_takeWord_18 (by decide) ?_
    refine xg_istore_n (pc := 19) (i := 2) (ls' := [(2, .int (0 : Int32)), (0, xj_rv v0), (1, xj_rv v1)]) B dQ_takeWord_19 rfl (by decide) ⟨xj_nq (a := 0) (i := 2) (by decide), fun _ => xj_rv_cat _, trivial⟩ rfl ?_
    refine xg_sub (ls' := [(0, xj_rv v0), (1, xj_rv v1), (2, .int (0 : Int32))]) [1, 2, 0] rfl ?_
    exact wQ_takeWord_20 hl B xj_fu v0 v1 (0 : Int32) A2 h
  · refine xg_iconst (pc := 16) (v := 0) B dQ_takeWord_16 (by decide) ?_
    exact xg_zret B dQ_takeWord_17 h
theorem cQ_takeWord {l : Launch} (hl : l.stackTraces = false) (v0 : xj_Rf) (v1 : xj_Rf) (A : xj_H) (r : xj_R) (h : fQ_takeWord v0 v1 A = some r) : xj_M l yQ_takeWord prog_6_method_16_code 3 (some .boolean) [] 5 [xj_rv v0, xj_rv v1] A r := by
  refine xj_M.of hl (by decide +kernel) (by simp [lg_sl, xj_ic, xj_lc, xj_rv_cat]) (fun z B hA hr => ?_)
  subst hr
  have hw := wQ_takeWord hl B v0 v1 A h
  simpa [lv_args, xj_ic, xj_lc, xj_rv_cat] using hw
/-! RecurrenceBook$RuleReader.readFrequency()Z -/
def fQ_readFrequency_100 (s0 : Int32) (A : xj_H) : Option xj_R :=
  xj_rz s0 A
def fQ_readFrequency_85 (v0 : xj_Rf) (A : xj_H) : Option xj_R :=
  (xj_gr A v0 5 3).bind fun x1 =>
  (xj_gr A x1 4 0).bind fun x2 =>
  if x2 = none then
    fQ_readFrequency_100 (0 : Int32) A
  else
    fQ_readFrequency_100 (1 : Int32) A
def fQ_readFrequency (v0 : xj_Rf) (A : xj_H) : Option xj_R :=
  xj_bi (xj_rq A v0 5 (fQ_takeWord v0 (some (.inr 106)) A)) fun x1 A2 =>
  if x1 = 0 then
    xj_bi (xj_rq A2 v0 5 (fQ_takeWord v0 (some (.inr 107)) A2)) fun x3 A4 =>
    if x3 = 0 then
      xj_bi (xj_rq A4 v0 5 (fQ_takeWord v0 (some (.inr 108)) A4)) fun x5 A6 =>
      if x5 = 0 then
        xj_bi (xj_rq A6 v0 5 (fQ_takeWord v0 (some (.inr 109)) A6)) fun x7 A8 =>
        if x7 = 0 then
          fQ_readFrequency_85 v0 A8
        else
          (xj_gr A8 v0 5 3).bind fun x9 =>
          (xj_pv A8 x9 4 0 (xj_rv (some (.inr 3)))).bind fun A10 =>
          fQ_readFrequency_85 v0 A10
      else
        (xj_gr A6 v0 5 3).bind fun x11 =>
        (xj_pv A6 x11 4 0 (xj_rv (some (.inr 2)))).bind fun A12 =>
        fQ_readFrequency_85 v0 A12
    else
      (xj_gr A4 v0 5 3).bind fun x13 =>
      (xj_pv A4 x13 4 0 (xj_rv (some (.inr 1)))).bind fun A14 =>
      fQ_readFrequency_85 v0 A14
  else
    (xj_gr A2 v0 5 3).bind fun x15 =>
    (xj_pv A2 x15 4 0 (xj_rv (some (.inr 0)))).bind fun A16 =>
    fQ_readFrequency_85 v0 A16
theorem wQ_readFrequency_100 {l : Launch} (hl : l.stackTraces = false) {z : xj_F} (B : xj_B l yQ_readFrequency prog_6_method_4_code 1 (some .boolean) [] 6 z) (s0 : Int32) (A : xj_H) (h : fQ_readFrequency_100 s0 A = some (xf_r z)) : xj_W l z 100 [] [.int s0] A := by
  unfold fQ_readFrequency_100 at h
  exact xg_zret B dQ_readFrequency_100 h
theorem wQ_readFrequency_85 {l : Launch} (hl : l.stackTraces = false) {z : xj_F} (B : xj_B l yQ_readFrequency prog_6_method_4_code 1 (some .boolean) [] 6 z) (v0 : xj_Rf) (A : xj_H) (h : fQ_readFrequency_85 v0 A = some (xf_r z)) : xj_W l z 85 [(0, xj_rv v0)] [] A := by
  unfold fQ_readFrequency_85 at h
  refine xg_aload_n (pc := 85) (i := 0) B dQ_readFrequency_85 rfl rfl ?_
  refine xg_getr (pc := 86) B dQ_readFrequency_86 flQ_25 h (fun x1 ex1 h => ?_)
  refine xg_getr (pc := 89) B dQ_readFrequency_89 flQ_35 h (fun x2 ex2 h => ?_)
  refine xg_ifnull (pc := 92) (tgt := 99) B dQ_readFrequency_92 (by decide) h (fun c92 h => ?_) (fun c92 h => ?_)
  · refine xg_iconst (pc := 99) (v := 0) B dQ_readFrequency_99 (by decide) ?_
    refine xg_sub (ls' := []) [] rfl ?_
    exact wQ_readFrequency_100 hl B (0 : Int32) A h
  · refine xg_iconst (pc := 95) (v := 1) B dQ_readFrequency_95 (by decide) ?_
    refine xg_goto (pc := 96) (tgt := 100) B dQ_readFrequency_96 (by decide) ?_
    refine xg_sub (ls' := []) [] rfl ?_
    exact wQ_readFrequency_100 hl B (1 : Int32) A h
theorem wQ_readFrequency {l : Launch} (hl : l.stackTraces = false) {z : xj_F} (B : xj_B l yQ_readFrequency prog_6_method_4_code 1 (some .boolean) [] 6 z) (v0 : xj_Rf) (A : xj_H) (h : fQ_readFrequency v0 A = some (xf_r z)) : xj_W l z 0 [(0, xj_rv v0)] [] A := by
  unfold fQ_readFrequency at h
  refine xg_aload_n (pc := 0) (i := 0) B dQ_readFrequency_0 rfl rfl ?_
  refine xg_ldcS (pc := 1) (i := 6) B dQ_readFrequency_1 ⟨_, List.mem_of_getElem? (i := 6) rfl⟩ ?_
  obtain ⟨hq3, h⟩ := xj_rq_i h
  refine xg_ci (pc := 3) (av := [xj_rv v0, xj_rv (some (.inr 106))]) (st := []) (cy := prog_6_method_16_code) (nLy := 3) (rety := (some .boolean)) (hsy := []) B dQ_readFrequency_3 (xj_go_v B dQ_readFrequency_3 vwQ_54 rfl hq3) (xj_vw_c vwQ_54) (xj_vw_i vwQ_54) (by decide) (by decide) (by decide) rfl (fun r9 h9 => cQ_takeWord hl _ _ _ r9 h9) h (fun x1 A2 eA2 h => ?_)
  refine xg_if_eq (pc := 6) (tgt := 22) B dQ_readFrequency_6 (by decide) h (fun c6 h => ?_) (fun c6 h => ?_)
  · refine xg_aload_n (pc := 22) (i := 0) B dQ_readFrequency_22 rfl rfl ?_
    refine xg_ldcS (pc := 23) (i := 7) B dQ_readFrequency_23 ⟨_, List.mem_of_getElem? (i := 7) rfl⟩ ?_
    obtain ⟨hq25, h⟩ := xj_rq_i h
    refine xg_ci (pc := 25) (av := [xj_rv v0, xj_rv (some (.inr 107))]) (st := []) (cy := prog_6_method_16_code) (nLy := 3) (rety := (some .boolean)) (hsy := []) B dQ_readFrequency_25 (xj_go_v B dQ_readFrequency_25 vwQ_54 rfl hq25) (xj_vw_c vwQ_54) (xj_vw_i vwQ_54) (by decide) (by decide) (by decide) rfl (fun r9 h9 => cQ_takeWord hl _ _ _ r9 h9) h (fun x3 A4 eA4 h => ?_)
    refine xg_if_eq (pc := 28) (tgt := 44) B dQ_readFrequency_28 (by decide) h (fun c28 h => ?_) (fun c28 h => ?_)
    · refine xg_aload_n (pc := 44) (i := 0) B dQ_readFrequency_44 rfl rfl ?_
      refine xg_ldcS (pc := 45) (i := 8) B dQ_readFrequency_45 ⟨_, List.mem_of_getElem? (i := 8) rfl⟩ ?_
      obtain ⟨hq47, h⟩ := xj_rq_i h
      refine xg_ci (pc := 47) (av := [xj_rv v0, xj_rv (some (.inr 108))]) (st := []) (cy := prog_6_method_16_code) (nLy := 3) (rety := (some .boolean)) (hsy := []) B dQ_readFrequency_47 (xj_go_v B dQ_readFrequency_47 vwQ_54 rfl hq47) (xj_vw_c vwQ_54) (xj_vw_i vwQ_54) (by decide) (by decide) (by decide) rfl (fun r9 h9 => cQ_takeWord hl _ _ _ r9 h9) h (fun x5 A6 eA6 h => ?_)
      refine xg_if_eq (pc := 50) (tgt := 66) B dQ_readFrequency_50 (by decide) h (fun c50 h => ?_) (fun c50 h => ?_)
      · refine xg_aload_n (pc := 66) (i := 0) B dQ_readFrequency_66 rfl rfl ?_
        refine xg_ldcS (pc := 67) (i := 9) B dQ_readFrequency_67 ⟨_, List.mem_of_getElem? (i := 9) rfl⟩ ?_
        obtain ⟨hq69, h⟩ := xj_rq_i h
        refine xg_ci (pc := 69) (av := [xj_rv v0, xj_rv (some (.inr 109))]) (st := []) (cy := prog_6_method_16_code) (nLy := 3) (rety := (some .boolean)) (hsy := []) B dQ_readFrequency_69 (xj_go_v B dQ_readFrequency_69 vwQ_54 rfl hq69) (xj_vw_c vwQ_54) (xj_vw_i vwQ_54) (by decide) (by decide) (by decide) rfl (fun r9 h9 => cQ_takeWord hl _ _ _ r9 h9) h (fun x7 A8 eA8 h => ?_)
        refine xg_if_eq (pc := 72) (tgt := 85) B dQ_readFrequency_72 (by decide) h (fun c72 h => ?_) (fun c72 h => ?_)
        · exact wQ_readFrequency_85 hl B v0 A8 h
        · refine xg_aload_n (pc := 75) (i := 0) B dQ_readFrequency_75 rfl rfl ?_
          refine xg_getr (pc := 76) B dQ_readFrequency_76 flQ_25 h (fun x9 ex9 h => ?_)
          refine xg_gete (pc := 79) (i := 3) B dQ_readFrequency_79 (by decide) gsQ_118 ?_
          refine xg_putr (pc := 82) B (Or.inl ⟨_, rfl⟩) dQ_readFrequency_82 (fpQ_35 _) h (fun A10 eA10 h => ?_)
          exact wQ_readFrequency_85 hl B v0 A10 h
      · refine xg_aload_n (pc := 53) (i := 0) B dQ_readFrequency_53 rfl rfl ?_
        refine xg_getr (pc := 54) B dQ_readFrequency_54 flQ_25 h (fun x11 ex11 h => ?_)
        refine xg_gete (pc := 57) (i := 2) B dQ_readFrequency_57 (by decide) gsQ_114 ?_
        refine xg_putr (pc := 60) B (Or.inl ⟨_, rfl⟩) dQ_readFrequency_60 (fpQ_35 _) h (fun A12 eA12 h => ?_)
        refine xg_goto (pc := 63) (tgt := 85) B dQ_readFrequency_63 (by decide) ?_
        exact wQ_readFrequency_85 hl B v0 A12 h
    · refine xg_aload_n (pc := 31) (i := 0) B dQ_readFrequency_31 rfl rfl ?_
      refine xg_getr (pc := 32) B dQ_readFrequency_32 flQ_25 h (fun x13 ex13 h => ?_)
      refine xg_gete (pc := 35) (i := 1) B dQ_readFrequency_35 (by decide) gsQ_110 ?_
      refine xg_putr (pc := 38) B (Or.inl ⟨_, rfl⟩) dQ_readFrequency_38 (fpQ_35 _) h (fun A14 eA14 h => ?_)
      refine xg_goto (pc := 41) (tgt := 85) B dQ_readFrequency_41 (by decide) ?_
      exact wQ_readFrequency_85 hl B v0 A14 h
  · refine xg_aload_n (pc := 9) (i := 0) B dQ_readFrequency_9 rfl rfl ?_
    refine xg_getr (pc := 10) B dQ_readFrequency_10 flQ_25 h (fun x15 ex15 h => ?_)
    refine xg_gete (pc := 13) (i := 0) B dQ_readFrequency_13 (by decide) gsQ_29 ?_
    refine xg_putr (pc := 16) B (Or.inl ⟨_, rfl⟩) dQ_readFrequency_16 (fpQ_35 _) h (fun A16 eA16 h => ?_)
    refine xg_goto (pc := 19) (tgt := 85) B dQ_readFrequency_19 (by decide) ?_
    exact wQ_readFrequency_85 hl B v0 A16 h
theorem cQ_readFrequency {l : Launch} (hl : l.stackTraces = false) (v0 : xj_Rf) (A : xj_H) (r : xj_R) (h : fQ_readFrequency v0 A = some r) : xj_M l yQ_readFrequency prog_6_method_4_code 1 (some .boolean) [] 6 [xj_rv v0] A r := by
  refine xj_M.of hl (by decide +kernel) (by simp [lg_sl, xj_ic, xj_lc, xj_rv_cat]) (fun z B hA hr => ?_)
  subst hr
  have hw := wQ_readFrequency hl B v0 A h
  simpa [lv_args, xj_ic, xj_lc, xj_rv_cat] using hw
/-! RecurrenceBook$RuleReader.isDigitNext()Z -/
def fQ_isDigitNext_44 (s0 : Int32) (A : xj_H) : Option xj_R :=
  xj_rz s0 A
def fQ_isDigitNext_43 (A : xj_H) : Option xj_R :=
  fQ_isDigitNext_44 (0 : Int32) A
def fQ_isDigitNext (v0 : xj_Rf) (A : xj_H) : Option xj_R :=
  (xj_gi A v0 5 2).bind fun x1 =>
  (xj_gi A v0 5 1).bind fun x2 =>
  if x2 ≤ x1 then
    fQ_isDigitNext_43  A
  else
    (xj_gr A v0 5 0).bind fun x3 =>
    (xj_gi A v0 5 2).bind fun x4 =>
    (xj_ai A x3 1 x4).bind fun x5 =>
    if x5 < (48 : Int32) then
      fQ_isDigitNext_43  A
    else
      (xj_gr A v0 5 0).bind fun x6 =>
      (xj_gi A v0 5 2).bind fun x7 =>
      (xj_ai A x6 1 x7).bind fun x8 =>
      if (57 : Int32) < x8 then
        fQ_isDigitNext_43  A
      else
        fQ_isDigitNext_44 (1 : Int32) A
theorem wQ_isDigitNext_44 {l : Launch} (hl : l.stackTraces = false) {z : xj_F} (B : xj_B l yQ_isDigitNext prog_6_method_14_code 1 (some .boolean) [] 1 z) (s0 : Int32) (A : xj_H) (h : fQ_isDigitNext_44 s0 A = some (xf_r z)) : xj_W l z 44 [] [.int s0] A := by
  unfold fQ_isDigitNext_44 at h
  exact xg_zret B dQ_isDigitNext_44 h
theorem wQ_isDigitNext_43 {l : Launch} (hl : l.stackTraces = false) {z : xj_F} (B : xj_B l yQ_isDigitNext prog_6_method_14_code 1 (some .boolean) [] 1 z) (A : xj_H) (h : fQ_isDigitNext_43  A = some (xf_r z)) : xj_W l z 43 [] [] A := by
  unfold fQ_isDigitNext_43 at h
  refine xg_iconst (pc := 43) (v := 0) B dQ_isDigitNext_43 (by decide) ?_
  exact wQ_isDigitNext_44 hl B (0 : Int32) A h
theorem wQ_isDigitNext {l : Launch} (hl : l.stackTraces = false) {z : xj_F} (B : xj_B l yQ_isDigitNext prog_6_method_14_code 1 (some .boolean) [] 1 z) (v0 : xj_Rf) (A : xj_H) (h : fQ_isDigitNext v0 A = some (xf_r z)) : xj_W l z 0 [(0, xj_rv v0)] [] A := by
  unfold fQ_isDigitNext at h
  refine xg_aload_n (pc := 0) (i := 0) B dQ_isDigitNext_0 rfl rfl ?_
  refine xg_geti (pc := 1) B dQ_isDigitNext_1 flQ_19 h (fun x1 ex1 h => ?_)
  refine xg_aload_n (pc := 4) (i := 0) B dQ_isDigitNext_4 rfl rfl ?_
  refine xg_geti (pc := 5) B dQ_isDigitNext_5 flQ_15 h (fun x2 ex2 h => ?_)
  refine xg_icmp_ge (pc := 8) (tgt := 43) B dQ_isDigitNext_8 (by decide) h (fun c8 h => ?_) (fun c8 h => ?_)
  · refine xg_sub (ls' := []) [] rfl ?_
    exact wQ_isDigitNext_43 hl B  A h
  · refine xg_aload_n (pc := 11) (i := 0) B dQ_isDigitNext_11 rfl rfl ?_
    refine xg_getr (pc := 12) B dQ_isDigitNext_12 flQ_9 h (fun x3 ex3 h => ?_)
    refine xg_aload_n (pc := 15) (i := 0) B dQ_isDigitNext_15 rfl rfl ?_
    refine xg_geti (pc := 16) B dQ_isDigitNext_16 flQ_19 h (fun x4 ex4 h => ?_)
    refine xg_caload (pc := 19) B dQ_isDigitNext_19 h (fun x5 ex5 h => ?_)
    refine xg_bipush (pc := 20) (v := 48) B dQ_isDigitNext_20 (by decide) ?_
    refine xg_icmp_lt (pc := 22) (tgt := 43) B dQ_isDigitNext_22 (by decide) h (fun c22 h => ?_) (fun c22 h => ?_)
    · refine xg_sub (ls' := []) [] rfl ?_
      exact wQ_isDigitNext_43 hl B  A h
    · refine xg_aload_n (pc := 25) (i := 0) B dQ_isDigitNext_25 rfl rfl ?_
      refine xg_getr (pc := 26) B dQ_isDigitNext_26 flQ_9 h (fun x6 ex6 h => ?_)
      refine xg_aload_n (pc := 29) (i := 0) B dQ_isDigitNext_29 rfl rfl ?_
      refine xg_geti (pc := 30) B dQ_isDigitNext_30 flQ_19 h (fun x7 ex7 h => ?_)
      refine xg_caload (pc := 33) B dQ_isDigitNext_33 h (fun x8 ex8 h => ?_)
      refine xg_bipush (pc := 34) (v := 57) B dQ_isDigitNext_34 (by decide) ?_
      refine xg_icmp_gt (pc := 36) (tgt := 43) B dQ_isDigitNext_36 (by decide) h (fun c36 h => ?_) (fun c36 h => ?_)
      · refine xg_sub (ls' := []) [] rfl ?_
        exact wQ_isDigitNext_43 hl B  A h
      · refine xg_iconst (pc := 39) (v := 1) B dQ_isDigitNext_39 (by decide) ?_
        refine xg_goto (pc := 40) (tgt := 44) B dQ_isDigitNext_40 (by decide) ?_
        refine xg_sub (ls' := []) [] rfl ?_
        exact wQ_isDigitNext_44 hl B (1 : Int32) A h
theorem cQ_isDigitNext {l : Launch} (hl : l.stackTraces = false) (v0 : xj_Rf) (A : xj_H) (r : xj_R) (h : fQ_isDigitNext v0 A = some r) : xj_M l yQ_isDigitNext prog_6_method_14_code 1 (some .boolean) [] 1 [xj_rv v0] A r := by
  refine xj_M.of hl (by decide +kernel) (by simp [lg_sl, xj_ic, xj_lc, xj_rv_cat]) (fun z B hA hr => ?_)
  subst hr
  have hw := wQ_isDigitNext hl B v0 A h
  simpa [lv_args, xj_ic, xj_lc, xj_rv_cat] using hw
/-! RecurrenceBook$RuleReader.takeNumber(II)I -/
def fQ_takeNumber_62 (s0 : Int32) (A : xj_H) : Option xj_R :=
  some (.inl (some (.int s0)), A)
def fQ_takeNumber_52 (v2 : Int32) (v3 : Int32) (A : xj_H) : Option xj_R :=
  if v2 < v3 then
    fQ_takeNumber_62 (0 : Int32) A
  else
    fQ_takeNumber_62 v3 A
def fQ_takeNumber_5 : Nat → xj_Rf → Int32 → Int32 → Int32 → Int32 → xj_H → Option xj_R
  | 0, _, _, _, _, _, _ => none
  | n + 1, v0, v1, v2, v3, v4, A =>
    if v1 ≤ v4 then
      fQ_takeNumber_52 v2 v3 A
    else
      xj_bi (xj_rq A v0 5 (fQ_isDigitNext v0 A)) fun x1 A2 =>
      if x1 = 0 then
        fQ_takeNumber_52 v2 v3 A2
      else
        (xj_gr A2 v0 5 0).bind fun x3 =>
        (xj_gi A2 v0 5 2).bind fun x4 =>
        (xj_ai A2 x3 1 x4).bind fun x5 =>
        (xj_gi A2 v0 5 2).bind fun x6 =>
        (xj_pv A2 v0 5 2 (.int (x6 + (1 : Int32)))).bind fun A7 =>
        (fQ_takeNumber_5 n) v0 v1 v2 ((((10 : Int32) * v3) + x5) - (48 : Int32)) (v4 + 1) A7
def fQ_takeNumber (v0 : xj_Rf) (v1 : Int32) (v2 : Int32) (A : xj_H) : Option xj_R :=
  fQ_takeNumber_5 xj_fu v0 v1 v2 (0 : Int32) (0 : Int32) A
theorem wQ_takeNumber_62 {l : Launch} (hl : l.stackTraces = false) {z : xj_F} (B : xj_B l yQ_takeNumber prog_6_method_13_code 5 (some .int) [] 2 z) (s0 : Int32) (A : xj_H) (h : fQ_takeNumber_62 s0 A = some (xf_r z)) : xj_W l z 62 [] [.int s0] A := by
  unfold fQ_takeNumber_62 at h
  exact xg_iret B dQ_takeNumber_62 h
theorem wQ_takeNumber_52 {l : Launch} (hl : l.stackTraces = false) {z : xj_F} (B : xj_B l yQ_takeNumber prog_6_method_13_code 5 (some .int) [] 2 z) (v2 : Int32) (v3 : Int32) (A : xj_H) (h : fQ_takeNumber_52 v2 v3 A = some (xf_r z)) : xj_W l z 52 [(2, .int v2), (3, .int v3)] [] A := by
  unfold fQ_takeNumber_52 at h
  refine xg_iload_n (pc := 52) (i := 3) B dQ_takeNumber_52 rfl rfl ?_
  refine xg_iload_n (pc := 53) (i := 2) B dQ_takeNumber_53 rfl rfl ?_
  refine xg_icmp_gt (pc := 54) (tgt := 61) B dQ_takeNumber_54 (by decide) h (fun c54 h => ?_) (fun c54 h => ?_)
  · refine xg_iconst (pc := 61) (v := 0) B dQ_takeNumber_61 (by decide) ?_
    refine xg_sub (ls' := []) [] rfl ?_
    exact wQ_takeNumber_62 hl B (0 : Int32) A h
  · refine xg_iload_n (pc := 57) (i := 3) B dQ_takeNumber_57 rfl rfl ?_
    refine xg_goto (pc := 58) (tgt := 62) B dQ_takeNumber_58 (by decide) ?_
    refine xg_sub (ls' := []) [] rfl ?_
    exact wQ_takeNumber_62 hl B v3 A h
theorem wQ_takeNumber_5 {l : Launch} (hl : l.stackTraces = false) {z : xj_F} (B : xj_B l yQ_takeNumber prog_6_method_13_code 5 (some .int) [] 2 z) : ∀ (n : Nat) (v0 : xj_Rf) (v1 : Int32) (v2 : Int32) (v3 : Int32) (v4 : Int32) (A : xj_H), fQ_takeNumber_5 n v0 v1 v2 v3 v4 A = some (xf_r z) → xj_W l z 5 [(0, xj_rv v0), (1, .int v1), (2, .int v2), (3, .int v3), (4, .int v4)] [] A
  | 0, _, _, _, _, _, _, h => by simp [fQ_takeNumber_5] at h
  | n + 1, v0, v1, v2, v3, v4, A, h => by
    rw [fQ_takeNumber_5] at h
    refine xg_iload (pc := 5) (i := 4) B dQ_takeNumber_5 rfl ?_
    refine xg_iload_n (pc := 7) (i := 1) B dQ_takeNumber_7 rfl rfl ?_
    refine xg_icmp_ge (pc := 8) (tgt := 52) B dQ_takeNumber_8 (by decide) h (fun c8 h => ?_) (fun c8 h => ?_)
    · refine xg_sub (ls' := [(2, .int v2), (3, .int v3)]) [2, 3] rfl ?_
      exact wQ_takeNumber_52 hl B v2 v3 A h
    · refine xg_aload_n (pc := 11) (i := 0) B dQ_takeNumber_11 rfl rfl ?_
      obtain ⟨hq12, h⟩ := xj_rq_i h
      refine xg_ci (pc := 12) (av := [xj_rv v0]) (st := []) (cy := prog_6_method_14_code) (nLy := 1) (rety := (some .boolean)) (hsy := []) B dQ_takeNumber_12 (xj_go_v B dQ_takeNumber_12 vwQ_137 rfl hq12) (xj_vw_c vwQ_137) (xj_vw_i vwQ_137) (by decide) (by decide) (by decide) rfl (fun r9 h9 => cQ_isDigitNext hl _ _ r9 h9) h (fun x1 A2 eA2 h => ?_)
      refine xg_if_eq (pc := 15) (tgt := 52) B dQ_takeNumber_15 (by decide) h (fun c15 h => ?_) (fun c15 h => ?_)
      · refine xg_sub (ls' := [(2, .int v2), (3, .int v3)]) [2, 3] rfl ?_
        exact wQ_takeNumber_52 hl B v2 v3 A2 h
      · refine xg_bipush (pc := 18) (v := 10) B dQ_takeNumber_18 (by decide) ?_
        refine xg_iload_n (pc := 20) (i := 3) B dQ_takeNumber_20 rfl rfl ?_
        refine xg_imul (pc := 21) B dQ_takeNumber_21 ?_
        refine xg_aload_n (pc := 22) (i := 0) B dQ_takeNumber_22 rfl rfl ?_
        refine xg_getr (pc := 23) B dQ_takeNumber_23 flQ_9 h (fun x3 ex3 h => ?_)
        refine xg_aload_n (pc := 26) (i := 0) B dQ_takeNumber_26 rfl rfl ?_
        refine xg_geti (pc := 27) B dQ_takeNumber_27 flQ_19 h (fun x4 ex4 h => ?_)
        refine xg_caload (pc := 30) B dQ_takeNumber_30 h (fun x5 ex5 h => ?_)
        refine xg_iadd (pc := 31) B dQ_takeNumber_31 ?_
        refine xg_bipush (pc := 32) (v := 48) B dQ_takeNumber_32 (by decide) ?_
        refine xg_isub (pc := 34) B dQ_takeNumber_34 ?_
        refine xg_istore_n (pc := 35) (i := 3) (ls' := [(3, .int ((((10 : Int32) * v3) + x5) - (48 : Int32))), (0, xj_rv v0), (1, .int v1), (2, .int v2), (4, .int v4)]) B dQ_takeNumber_35 rfl (by decide) ⟨xj_nq (a := 0) (i := 3) (by decide), xj_nq (a := 1) (i := 3) (by decide), fun _ => rfl, xj_nq (a := 3) (i := 3) (by decide), xj_nq (a := 4) (i := 3) (by decide), trivial⟩ rfl ?_
        refine xg_aload_n (pc := 36) (i := 0) B dQ_takeNumber_36 rfl rfl ?_
        refine xg_dup (pc := 37) B dQ_takeNumber_37 (xj_rv_cat _) ?_
        refine xg_geti (pc := 38) B dQ_takeNumber_38 flQ_19 h (fun x6 ex6 h => ?_)
        refine xg_iconst (pc := 41) (v := 1) B dQ_takeNumber_41 (by decide) ?_
        refine xg_iadd (pc := 42) B dQ_takeNumber_42 ?_
        refine xg_puti (pc := 43) B dQ_takeNumber_43 (fpQ_19 _) h (fun A7 eA7 h => ?_)
        refine xg_iinc (pc := 46) (i := 4) (v := (v4 + 1)) (ls' := [(4, .int (v4 + 1)), (3, .int ((((10 : Int32) * v3) + x5) - (48 : Int32))), (0, xj_rv v0), (1, .int v1), (2, .int v2)]) B dQ_takeNumber_46 rfl (xj_inc_1 _) (by decide) ⟨fun _ => rfl, xj_nq (a := 0) (i := 4) (by decide), xj_nq (a := 1) (i := 4) (by decide), xj_nq (a := 2) (i := 4) (by decide), xj_nq (a := 4) (i := 4) (by decide), trivial⟩ rfl ?_
        refine xg_goto (pc := 49) (tgt := 5) B dQ_takeNumber_49 (by decide) ?_
        refine xg_sub (ls' := [(0, xj_rv v0), (1, .int v1), (2, .int v2), (3, .int ((((10 : Int32) * v3) + x5) - (48 : Int32))), (4, .int (v4 + 1))]) [2, 3, 4, 1, 0] rfl ?_
        exact (wQ_takeNumber_5 hl B n) v0 v1 v2 ((((10 : Int32) * v3) + x5) - (48 : Int32)) (v4 + 1) A7 h
theorem wQ_takeNumber {l : Launch} (hl : l.stackTraces = false) {z : xj_F} (B : xj_B l yQ_takeNumber prog_6_method_13_code 5 (some .int) [] 2 z) (v0 : xj_Rf) (v1 : Int32) (v2 : Int32) (A : xj_H) (h : fQ_takeNumber v0 v1 v2 A = some (xf_r z)) : xj_W l z 0 [(0, xj_rv v0), (1, .int v1), (2, .int v2)] [] A := by
  unfold fQ_takeNumber at h
  refine xg_iconst (pc := 0) (v := 0) B dQ_takeNumber_0 (by decide) ?_
  refine xg_istore_n (pc := 1) (i := 3) (ls' := [(3, .int (0 : Int32)), (0, xj_rv v0), (1, .int v1), (2, .int v2)]) B dQ_takeNumber_1 rfl (by decide) ⟨xj_nq (a := 0) (i := 3) (by decide), xj_nq (a := 1) (i := 3) (by decide), fun _ => rfl, trivial⟩ rfl ?_
  refine xg_iconst (pc := 2) (v := 0) B dQ_takeNumber_2 (by decide) ?_
  refine xg_istore (pc := 3) (i := 4) (ls' := [(4, .int (0 : Int32)), (3, .int (0 : Int32)), (0, xj_rv v0), (1, .int v1), (2, .int v2)]) B dQ_takeNumber_3 (by decide) ⟨fun _ => rfl, xj_nq (a := 0) (i := 4) (by decide), xj_nq (a := 1) (i := 4) (by decide), xj_nq (a := 2) (i := 4) (by decide), trivial⟩ rfl ?_
  refine xg_sub (ls' := [(0, xj_rv v0), (1, .int v1), (2, .int v2), (3, .int (0 : Int32)), (4, .int (0 : Int32))]) [2, 3, 4, 1, 0] rfl ?_
  exact wQ_takeNumber_5 hl B xj_fu v0 v1 v2 (0 : Int32) (0 : Int32) A h
theorem cQ_takeNumber {l : Launch} (hl : l.stackTraces = false) (v0 : xj_Rf) (v1 : Int32) (v2 : Int32) (A : xj_H) (r : xj_R) (h : fQ_takeNumber v0 v1 v2 A = some r) : xj_M l yQ_takeNumber prog_6_method_13_code 5 (some .int) [] 2 [xj_rv v0, .int v1, .int v2] A r := by
  refine xj_M.of hl (by decide +kernel) (by simp [lg_sl, xj_ic, xj_lc, xj_rv_cat]) (fun z B hA hr => ?_)
  subst hr
  have hw := wQ_takeNumber hl B v0 v1 v2 A h
  simpa [lv_args, xj_ic, xj_lc, xj_rv_cat] using hw
/-! RecurrenceBook$RuleReader.readInterval()Z -/
def fQ_readInterval_29 (s0 : Int32) (A : xj_H) : Option xj_R :=
  xj_rz s0 A
def fQ_readInterval (v0 : xj_Rf) (A : xj_H) : Option xj_R :=
  (xj_gr A v0 5 3).bind fun x1 =>
  xj_bi (xj_rq A v0 5 (fQ_takeNumber v0 (2 : Int32) (99 : Int32) A)) fun x2 A3 =>
  (xj_pv A3 x1 4 1 (.int x2)).bind fun A4 =>
  (xj_gr A4 v0 5 3).bind fun x5 =>
  (xj_gi A4 x5 4 1).bind fun x6 =>
  if x6 = 0 then
    fQ_readInterval_29 (0 : Int32) A4
  else
    fQ_readInterval_29 (1 : Int32) A4
theorem wQ_readInterval_29 {l : Launch} (hl : l.stackTraces = false) {z : xj_F} (B : xj_B l yQ_readInterval prog_6_method_5_code 1 (some .boolean) [] 3 z) (s0 : Int32) (A : xj_H) (h : fQ_readInterval_29 s0 A = some (xf_r z)) : xj_W l z 29 [] [.int s0] A := by
  unfold fQ_readInterval_29 at h
  exact xg_zret B dQ_readInterval_29 h
theorem wQ_readInterval {l : Launch} (hl : l.stackTraces = false) {z : xj_F} (B : xj_B l yQ_readInterval prog_6_method_5_code 1 (some .boolean) [] 3 z) (v0 : xj_Rf) (A : xj_H) (h : fQ_readInterval v0 A = some (xf_r z)) : xj_W l z 0 [(0, xj_rv v0)] [] A := by
  unfold fQ_readInterval at h
  refine xg_aload_n (pc := 0) (i := 0) B dQ_readInterval_0 rfl rfl ?_
  refine xg_getr (pc := 1) B dQ_readInterval_1 flQ_25 h (fun x1 ex1 h => ?_)
  refine xg_aload_n (pc := 4) (i := 0) B dQ_readInterval_4 rfl rfl ?_
  refine xg_iconst (pc := 5) (v := 2) B dQ_readInterval_5 (by decide) ?_
  refine xg_bipush (pc := 6) (v := 99) B dQ_readInterval_6 (by decide) ?_
  obtain ⟨hq8, h⟩ := xj_rq_i h
  refine xg_ci (pc := 8) (av := [xj_rv v0, .int (2 : Int32), .int (99 : Int32)]) (st := [xj_rv x1]) (cy := prog_6_method_13_code) (nLy := 5) (rety := (some .int)) (hsy := []) B dQ_readInterval_8 (xj_go_v B dQ_readInterval_8 vwQ_120 rfl hq8) (xj_vw_c vwQ_120) (xj_vw_i vwQ_120) (by decide) (by decide) (by simp [xj_ic, xj_lc, xj_rv_cat]) rfl (fun r9 h9 => cQ_takeNumber hl _ _ _ _ r9 h9) h (fun x2 A3 eA3 h => ?_)
  refine xg_puti (pc := 11) B dQ_readInterval_11 (fpQ_63 _) h (fun A4 eA4 h => ?_)
  refine xg_aload_n (pc := 14) (i := 0) B dQ_readInterval_14 rfl rfl ?_
  refine xg_getr (pc := 15) B dQ_readInterval_15 flQ_25 h (fun x5 ex5 h => ?_)
  refine xg_geti (pc := 18) B dQ_readInterval_18 flQ_63 h (fun x6 ex6 h => ?_)
  refine xg_if_eq (pc := 21) (tgt := 28) B dQ_readInterval_21 (by decide) h (fun c21 h => ?_) (fun c21 h => ?_)
  · refine xg_iconst (pc := 28) (v := 0) B dQ_readInterval_28 (by decide) ?_
    refine xg_sub (ls' := []) [] rfl ?_
    exact wQ_readInterval_29 hl B (0 : Int32) A4 h
  · refine xg_iconst (pc := 24) (v := 1) B dQ_readInterval_24 (by decide) ?_
    refine xg_goto (pc := 25) (tgt := 29) B dQ_readInterval_25 (by decide) ?_
    refine xg_sub (ls' := []) [] rfl ?_
    exact wQ_readInterval_29 hl B (1 : Int32) A4 h
theorem cQ_readInterval {l : Launch} (hl : l.stackTraces = false) (v0 : xj_Rf) (A : xj_H) (r : xj_R) (h : fQ_readInterval v0 A = some r) : xj_M l yQ_readInterval prog_6_method_5_code 1 (some .boolean) [] 3 [xj_rv v0] A r := by
  refine xj_M.of hl (by decide +kernel) (by simp [lg_sl, xj_ic, xj_lc, xj_rv_cat]) (fun z B hA hr => ?_)
  subst hr
  have hw := wQ_readInterval hl B v0 A h
  simpa [lv_args, xj_ic, xj_lc, xj_rv_cat] using hw
/-! RecurrenceBook$RuleReader.readCount()Z -/
def fQ_readCount_30 (s0 : Int32) (A : xj_H) : Option xj_R :=
  xj_rz s0 A
def fQ_readCount (v0 : xj_Rf) (A : xj_H) : Option xj_R :=
  (xj_gr A v0 5 3).bind fun x1 =>
  xj_bi (xj_rq A v0 5 (fQ_takeNumber v0 (3 : Int32) (200 : Int32) A)) fun x2 A3 =>
  (xj_pv A3 x1 4 2 (.int x2)).bind fun A4 =>
  (xj_gr A4 v0 5 3).bind fun x5 =>
  (xj_gi A4 x5 4 2).bind fun x6 =>
  if x6 = 0 then
    fQ_readCount_30 (0 : Int32) A4
  else
    fQ_readCount_30 (1 : Int32) A4
theorem wQ_readCount_30 {l : Launch} (hl : l.stackTraces = false) {z : xj_F} (B : xj_B l yQ_readCount prog_6_method_6_code 1 (some .boolean) [] 3 z) (s0 : Int32) (A : xj_H) (h : fQ_readCount_30 s0 A = some (xf_r z)) : xj_W l z 30 [] [.int s0] A := by
  unfold fQ_readCount_30 at h
  exact xg_zret B dQ_readCount_30 h
theorem wQ_readCount {l : Launch} (hl : l.stackTraces = false) {z : xj_F} (B : xj_B l yQ_readCount prog_6_method_6_code 1 (some .boolean) [] 3 z) (v0 : xj_Rf) (A : xj_H) (h : fQ_readCount v0 A = some (xf_r z)) : xj_W l z 0 [(0, xj_rv v0)] [] A := by
  unfold fQ_readCount at h
  refine xg_aload_n (pc := 0) (i := 0) B dQ_readCount_0 rfl rfl ?_
  refine xg_getr (pc := 1) B dQ_readCount_1 flQ_25 h (fun x1 ex1 h => ?_)
  refine xg_aload_n (pc := 4) (i := 0) B dQ_readCount_4 rfl rfl ?_
  refine xg_iconst (pc := 5) (v := 3) B dQ_readCount_5 (by decide) ?_
  refine xg_sipush (pc := 6) (v := 200) B dQ_readCount_6 (by decide) ?_
  obtain ⟨hq9, h⟩ := xj_rq_i h
  refine xg_ci (pc := 9) (av := [xj_rv v0, .int (3 : Int32), .int (200 : Int32)]) (st := [xj_rv x1]) (cy := prog_6_method_13_code) (nLy := 5) (rety := (some .int)) (hsy := []) B dQ_readCount_9 (xj_go_v B dQ_readCount_9 vwQ_120 rfl hq9) (xj_vw_c vwQ_120) (xj_vw_i vwQ_120) (by decide) (by decide) (by simp [xj_ic, xj_lc, xj_rv_cat]) rfl (fun r9 h9 => cQ_takeNumber hl _ _ _ _ r9 h9) h (fun x2 A3 eA3 h => ?_)
  refine xg_puti (pc := 12) B dQ_readCount_12 (fpQ_38 _) h (fun A4 eA4 h => ?_)
  refine xg_aload_n (pc := 15) (i := 0) B dQ_readCount_15 rfl rfl ?_
  refine xg_getr (pc := 16) B dQ_readCount_16 flQ_25 h (fun x5 ex5 h => ?_)
  refine xg_geti (pc := 19) B dQ_readCount_19 flQ_38 h (fun x6 ex6 h => ?_)
  refine xg_if_eq (pc := 22) (tgt := 29) B dQ_readCount_22 (by decide) h (fun c22 h => ?_) (fun c22 h => ?_)
  · refine xg_iconst (pc := 29) (v := 0) B dQ_readCount_29 (by decide) ?_
    refine xg_sub (ls' := []) [] rfl ?_
    exact wQ_readCount_30 hl B (0 : Int32) A4 h
  · refine xg_iconst (pc := 25) (v := 1) B dQ_readCount_25 (by decide) ?_
    refine xg_goto (pc := 26) (tgt := 30) B dQ_readCount_26 (by decide) ?_
    refine xg_sub (ls' := []) [] rfl ?_
    exact wQ_readCount_30 hl B (1 : Int32) A4 h
theorem cQ_readCount {l : Launch} (hl : l.stackTraces = false) (v0 : xj_Rf) (A : xj_H) (r : xj_R) (h : fQ_readCount v0 A = some r) : xj_M l yQ_readCount prog_6_method_6_code 1 (some .boolean) [] 3 [xj_rv v0] A r := by
  refine xj_M.of hl (by decide +kernel) (by simp [lg_sl, xj_ic, xj_lc, xj_rv_cat]) (fun z B hA hr => ?_)
  subst hr
  have hw := wQ_readCount hl B v0 A h
  simpa [lv_args, xj_ic, xj_lc, xj_rv_cat] using hw
/-! RecurrenceBook$Dates.dayOf(III)I -/
def fD_dayOf_60 (A : xj_H) : Option xj_R :=
  some (.inl (some (.int (-1 : Int32))), A)
def fD_dayOf_21 (A : xj_H) : Option xj_R :=
  some (.inl (some (.int (-1 : Int32))), A)
def fD_dayOf (v0 : Int32) (v1 : Int32) (v2 : Int32) (A : xj_H) : Option xj_R :=
  if v0 < (2000 : Int32) then
    fD_dayOf_21  A
  else
    if (2100 : Int32) ≤ v0 then
      fD_dayOf_21  A
    else
      xj_bi (fB_isMonth v1 A) fun x1 A2 =>
      if ¬ x1 = 0 then
        xj_bi (fD_monthStart ((((12 : Int32) * (v0 - (2000 : Int32))) + v1) - (1 : Int32)) A2) fun x3 A4 =>
        if v2 < (1 : Int32) then
          fD_dayOf_60  A4
        else
          xj_bi (fD_monthStart (((((12 : Int32) * (v0 - (2000 : Int32))) + v1) - (1 : Int32)) + (1 : Int32)) A4) fun x5 A6 =>
          if v2 ≤ (x5 - x3) then
            some (.inl (some (.int ((x3 + v2) - (1 : Int32)))), A6)
          else
            fD_dayOf_60  A6
      else
        fD_dayOf_21  A2
theorem wD_dayOf_60 {l : Launch} (hl : l.stackTraces = false) {z : xj_F} (B : xj_B l yD_dayOf prog_2_method_6_code 5 (some .int) [] 3 z) (A : xj_H) (h : fD_dayOf_60  A = some (xf_r z)) : xj_W l z 60 [] [] A := by
  unfold fD_dayOf_60 at h
  refine xg_iconst (pc := 60) (v := -1) B dD_dayOf_60 (by decide) ?_
  exact xg_iret B dD_dayOf_61 h
theorem wD_dayOf_21 {l : Launch} (hl : l.stackTraces = false) {z : xj_F} (B : xj_B l yD_dayOf prog_2_method_6_code 5 (some .int) [] 3 z) (A : xj_H) (h : fD_dayOf_21  A = some (xf_r z)) : xj_W l z 21 [] [] A := by
  unfold fD_dayOf_21 at h
  refine xg_iconst (pc := 21) (v := -1) B dD_dayOf_21 (by decide) ?_
  exact xg_iret B dD_dayOf_22 h
theorem wD_dayOf {l : Launch} (hl : l.stackTraces = false) {z : xj_F} (B : xj_B l yD_dayOf prog_2_method_6_code 5 (some .int) [] 3 z) (v0 : Int32) (v1 : Int32) (v2 : Int32) (A : xj_H) (h : fD_dayOf v0 v1 v2 A = some (xf_r z)) : xj_W l z 0 [(0, .int v0), (1, .int v1), (2, .int v2)] [] A := by
  unfold fD_dayOf at h
  refine xg_iload_n (pc := 0) (i := 0) B dD_dayOf_0 rfl rfl ?_
  refine xg_sipush (pc := 1) (v := 2000) B dD_dayOf_1 (by decide) ?_
  refine xg_icmp_lt (pc := 4) (tgt := 21) B dD_dayOf_4 (by decide) h (fun c4 h => ?_) (fun c4 h => ?_)
  · refine xg_sub (ls' := []) [] rfl ?_
    exact wD_dayOf_21 hl B  A h
  · refine xg_iload_n (pc := 7) (i := 0) B dD_dayOf_7 rfl rfl ?_
    refine xg_sipush (pc := 8) (v := 2100) B dD_dayOf_8 (by decide) ?_
    refine xg_icmp_ge (pc := 11) (tgt := 21) B dD_dayOf_11 (by decide) h (fun c11 h => ?_) (fun c11 h => ?_)
    · refine xg_sub (ls' := []) [] rfl ?_
      exact wD_dayOf_21 hl B  A h
    · refine xg_iload_n (pc := 14) (i := 1) B dD_dayOf_14 rfl rfl ?_
      refine xg_ci (pc := 15) (av := [.int v1]) (st := []) (cy := prog_1_method_19_code) (nLy := 1) (rety := (some .boolean)) (hsy := []) B dD_dayOf_15 (xj_go_s B dD_dayOf_15 swD_28 rfl) swD_28.2.2.1 swD_28.2.2.2.1 (by decide) (by decide) (by decide) rfl (fun r9 h9 => cB_isMonth hl _ _ r9 h9) h (fun x1 A2 eA2 h => ?_)
      refine xg_if_ne (pc := 18) (tgt := 23) B dD_dayOf_18 (by decide) h (fun c18 h => ?_) (fun c18 h => ?_)
      · refine xg_bipush (pc := 23) (v := 12) B dD_dayOf_23 (by decide) ?_
        refine xg_iload_n (pc := 25) (i := 0) B dD_dayOf_25 rfl rfl ?_
        refine xg_sipush (pc := 26) (v := 2000) B dD_dayOf_26 (by decide) ?_
        refine xg_isub (pc := 29) B dD_dayOf_29 ?_
        refine xg_imul (pc := 30) B dD_dayOf_30 ?_
        refine xg_iload_n (pc := 31) (i := 1) B dD_dayOf_31 rfl rfl ?_
        refine xg_iadd (pc := 32) B dD_dayOf_32 ?_
        refine xg_iconst (pc := 33) (v := 1) B dD_dayOf_33 (by decide) ?_
        refine xg_isub (pc := 34) B dD_dayOf_34 ?_
        refine xg_istore_n (pc := 35) (i := 3) (ls' := [(3, .int ((((12 : Int32) * (v0 - (2000 : Int32))) + v1) - (1 : Int32))), (0, .int v0), (1, .int v1), (2, .int v2)]) B dD_dayOf_35 rfl (by decide) ⟨xj_nq (a := 0) (i := 3) (by decide), xj_nq (a := 1) (i := 3) (by decide), fun _ => rfl, trivial⟩ rfl ?_
        refine xg_iload_n (pc := 36) (i := 3) B dD_dayOf_36 rfl rfl ?_
        refine xg_ci (pc := 37) (av := [.int ((((12 : Int32) * (v0 - (2000 : Int32))) + v1) - (1 : Int32))]) (st := []) (cy := prog_2_method_4_code) (nLy := 4) (rety := (some .int)) (hsy := []) B dD_dayOf_37 (xj_go_s B dD_dayOf_37 swD_25 rfl) swD_25.2.2.1 swD_25.2.2.2.1 (by decide) (by decide) (by decide) rfl (fun r9 h9 => cD_monthStart hl _ _ r9 h9) h (fun x3 A4 eA4 h => ?_)
        refine xg_istore (pc := 40) (i := 4) (ls' := [(4, .int x3), (3, .int ((((12 : Int32) * (v0 - (2000 : Int32))) + v1) - (1 : Int32))), (0, .int v0), (1, .int v1), (2, .int v2)]) B dD_dayOf_40 (by decide) ⟨fun _ => rfl, xj_nq (a := 0) (i := 4) (by decide), xj_nq (a := 1) (i := 4) (by decide), xj_nq (a := 2) (i := 4) (by decide), trivial⟩ rfl ?_
        refine xg_iload_n (pc := 42) (i := 2) B dD_dayOf_42 rfl rfl ?_
        refine xg_iconst (pc := 43) (v := 1) B dD_dayOf_43 (by decide) ?_
        refine xg_icmp_lt (pc := 44) (tgt := 60) B dD_dayOf_44 (by decide) h (fun c44 h => ?_) (fun c44 h => ?_)
        · refine xg_sub (ls' := []) [] rfl ?_
          exact wD_dayOf_60 hl B  A4 h
        · refine xg_iload_n (pc := 47) (i := 2) B dD_dayOf_47 rfl rfl ?_
          refine xg_iload_n (pc := 48) (i := 3) B dD_dayOf_48 rfl rfl ?_
          refine xg_iconst (pc := 49) (v := 1) B dD_dayOf_49 (by decide) ?_
          refine xg_iadd (pc := 50) B dD_dayOf_50 ?_
          refine xg_ci (pc := 51) (av := [.int (((((12 : Int32) * (v0 - (2000 : Int32))) + v1) - (1 : Int32)) + (1 : Int32))]) (st := [.int v2]) (cy := prog_2_method_4_code) (nLy := 4) (rety := (some .int)) (hsy := []) B dD_dayOf_51 (xj_go_s B dD_dayOf_51 swD_25 rfl) swD_25.2.2.1 swD_25.2.2.2.1 (by decide) (by decide) (by simp [xj_ic, xj_lc, xj_rv_cat]) rfl (fun r9 h9 => cD_monthStart hl _ _ r9 h9) h (fun x5 A6 eA6 h => ?_)
          refine xg_iload (pc := 54) (i := 4) B dD_dayOf_54 rfl ?_
          refine xg_isub (pc := 56) B dD_dayOf_56 ?_
          refine xg_icmp_le (pc := 57) (tgt := 62) B dD_dayOf_57 (by decide) h (fun c57 h => ?_) (fun c57 h => ?_)
          · refine xg_iload (pc := 62) (i := 4) B dD_dayOf_62 rfl ?_
            refine xg_iload_n (pc := 64) (i := 2) B dD_dayOf_64 rfl rfl ?_
            refine xg_iadd (pc := 65) B dD_dayOf_65 ?_
            refine xg_iconst (pc := 66) (v := 1) B dD_dayOf_66 (by decide) ?_
            refine xg_isub (pc := 67) B dD_dayOf_67 ?_
            exact xg_iret B dD_dayOf_68 h
          · refine xg_sub (ls' := []) [] rfl ?_
            exact wD_dayOf_60 hl B  A6 h
      · refine xg_sub (ls' := []) [] rfl ?_
        exact wD_dayOf_21 hl B  A2 h
theorem cD_dayOf {l : Launch} (hl : l.stackTraces = false) (v0 : Int32) (v1 : Int32) (v2 : Int32) (A : xj_H) (r : xj_R) (h : fD_dayOf v0 v1 v2 A = some r) : xj_M l yD_dayOf prog_2_method_6_code 5 (some .int) [] 3 [.int v0, .int v1, .int v2] A r := by
  refine xj_M.of hl (by decide +kernel) (by simp [lg_sl, xj_ic, xj_lc, xj_rv_cat]) (fun z B hA hr => ?_)
  subst hr
  have hw := wD_dayOf hl B v0 v1 v2 A h
  simpa [lv_args, xj_ic, xj_lc, xj_rv_cat] using hw
/-! RecurrenceBook$RuleReader.readUntil()Z -/
def fQ_readUntil_72 (s0 : Int32) (A : xj_H) : Option xj_R :=
  xj_rz s0 A
def fQ_readUntil (v0 : xj_Rf) (A : xj_H) : Option xj_R :=
  (xj_gi A v0 5 2).bind fun x1 =>
  xj_bi (xj_rq A v0 5 (fQ_takeNumber v0 (8 : Int32) (99999999 : Int32) A)) fun x2 A3 =>
  (xj_gi A3 v0 5 2).bind fun x4 =>
  if (x4 - x1) = (8 : Int32) then
    xj_bi (fD_dayOf (x2 / (10000 : Int32)) ((x2 / (100 : Int32)) % (100 : Int32)) (x2 % (100 : Int32)) A3) fun x5 A6 =>
    (xj_gr A6 v0 5 3).bind fun x7 =>
    (xj_pz A6 x7 4 3 (1 : Int32)).bind fun A8 =>
    (xj_gr A8 v0 5 3).bind fun x9 =>
    (xj_pv A8 x9 4 4 (.int x5)).bind fun A10 =>
    if x5 < 0 then
      fQ_readUntil_72 (0 : Int32) A10
    else
      fQ_readUntil_72 (1 : Int32) A10
  else
    xj_rz (0 : Int32) A3
theorem wQ_readUntil_72 {l : Launch} (hl : l.stackTraces = false) {z : xj_F} (B : xj_B l yQ_readUntil prog_6_method_7_code 4 (some .boolean) [] 4 z) (s0 : Int32) (A : xj_H) (h : fQ_readUntil_72 s0 A = some (xf_r z)) : xj_W l z 72 [] [.int s0] A := by
  unfold fQ_readUntil_72 at h
  exact xg_zret B dQ_readUntil_72 h
theorem wQ_readUntil {l : Launch} (hl : l.stackTraces = false) {z : xj_F} (B : xj_B l yQ_readUntil prog_6_method_7_code 4 (some .boolean) [] 4 z) (v0 : xj_Rf) (A : xj_H) (h : fQ_readUntil v0 A = some (xf_r z)) : xj_W l z 0 [(0, xj_rv v0)] [] A := by
  unfold fQ_readUntil at h
  refine xg_aload_n (pc := 0) (i := 0) B dQ_readUntil_0 rfl rfl ?_
  refine xg_geti (pc := 1) B dQ_readUntil_1 flQ_19 h (fun x1 ex1 h => ?_)
  refine xg_istore_n (pc := 4) (i := 1) (ls' := [(1, .int x1), (0, xj_rv v0)]) B dQ_readUntil_4 rfl (by decide) ⟨fun _ => xj_rv_cat _, trivial⟩ rfl ?_
  refine xg_aload_n (pc := 5) (i := 0) B dQ_readUntil_5 rfl rfl ?_
  refine xg_bipush (pc := 6) (v := 8) B dQ_readUntil_6 (by decide) ?_
  refine xg_ldc (pc := 8) (v := 99999999) B dQ_readUntil_8 kQ_124 ?_
  obtain ⟨hq10, h⟩ := xj_rq_i h
  refine xg_ci (pc := 10) (av := [xj_rv v0, .int (8 : Int32), .int (99999999 : Int32)]) (st := []) (cy := prog_6_method_13_code) (nLy := 5) (rety := (some .int)) (hsy := []) B dQ_readUntil_10 (xj_go_v B dQ_readUntil_10 vwQ_120 rfl hq10) (xj_vw_c vwQ_120) (xj_vw_i vwQ_120) (by decide) (by decide) (by decide) rfl (fun r9 h9 => cQ_takeNumber hl _ _ _ _ r9 h9) h (fun x2 A3 eA3 h => ?_)
  refine xg_istore_n (pc := 13) (i := 2) (ls' := [(2, .int x2), (1, .int x1), (0, xj_rv v0)]) B dQ_readUntil_13 rfl (by decide) ⟨fun _ => rfl, xj_nq (a := 0) (i := 2) (by decide), trivial⟩ rfl ?_
  refine xg_aload_n (pc := 14) (i := 0) B dQ_readUntil_14 rfl rfl ?_
  refine xg_geti (pc := 15) B dQ_readUntil_15 flQ_19 h (fun x4 ex4 h => ?_)
  refine xg_iload_n (pc := 18) (i := 1) B dQ_readUntil_18 rfl rfl ?_
  refine xg_isub (pc := 19) B dQ_readUntil_19 ?_
  refine xg_bipush (pc := 20) (v := 8) B dQ_readUntil_20 (by decide) ?_
  refine xg_icmp_eq (pc := 22) (tgt := 27) B dQ_readUntil_22 (by decide) h (fun c22 h => ?_) (fun c22 h => ?_)
  · refine xg_iload_n (pc := 27) (i := 2) B dQ_readUntil_27 rfl rfl ?_
    refine xg_sipush (pc := 28) (v := 10000) B dQ_readUntil_28 (by decide) ?_
    refine xg_idiv (pc := 31) B dQ_readUntil_31 (by decide) ?_
    refine xg_iload_n (pc := 32) (i := 2) B dQ_readUntil_32 rfl rfl ?_
    refine xg_bipush (pc := 33) (v := 100) B dQ_readUntil_33 (by decide) ?_
    refine xg_idiv (pc := 35) B dQ_readUntil_35 (by decide) ?_
    refine xg_bipush (pc := 36) (v := 100) B dQ_readUntil_36 (by decide) ?_
    refine xg_irem (pc := 38) B dQ_readUntil_38 (by decide) ?_
    refine xg_iload_n (pc := 39) (i := 2) B dQ_readUntil_39 rfl rfl ?_
    refine xg_bipush (pc := 40) (v := 100) B dQ_readUntil_40 (by decide) ?_
    refine xg_irem (pc := 42) B dQ_readUntil_42 (by decide) ?_
    refine xg_ci (pc := 43) (av := [.int (x2 / (10000 : Int32)), .int ((x2 / (100 : Int32)) % (100 : Int32)), .int (x2 % (100 : Int32))]) (st := []) (cy := prog_2_method_6_code) (nLy := 5) (rety := (some .int)) (hsy := []) B dQ_readUntil_43 (xj_go_s B dQ_readUntil_43 swQ_125 rfl) swQ_125.2.2.1 swQ_125.2.2.2.1 (by decide) (by decide) (by decide) rfl (fun r9 h9 => cD_dayOf hl _ _ _ _ r9 h9) h (fun x5 A6 eA6 h => ?_)
    refine xg_istore_n (pc := 46) (i := 3) (ls' := [(3, .int x5), (2, .int x2), (1, .int x1), (0, xj_rv v0)]) B dQ_readUntil_46 rfl (by decide) ⟨fun _ => rfl, xj_nq (a := 1) (i := 3) (by decide), xj_nq (a := 0) (i := 3) (by decide), trivial⟩ rfl ?_
    refine xg_aload_n (pc := 47) (i := 0) B dQ_readUntil_47 rfl rfl ?_
    refine xg_getr (pc := 48) B dQ_readUntil_48 flQ_25 h (fun x7 ex7 h => ?_)
    refine xg_iconst (pc := 51) (v := 1) B dQ_readUntil_51 (by decide) ?_
    refine xg_putz (pc := 52) B dQ_readUntil_52 (fpQ_76 _) h (fun A8 eA8 h => ?_)
    refine xg_aload_n (pc := 55) (i := 0) B dQ_readUntil_55 rfl rfl ?_
    refine xg_getr (pc := 56) B dQ_readUntil_56 flQ_25 h (fun x9 ex9 h => ?_)
    refine xg_iload_n (pc := 59) (i := 3) B dQ_readUntil_59 rfl rfl ?_
    refine xg_puti (pc := 60) B dQ_readUntil_60 (fpQ_131 _) h (fun A10 eA10 h => ?_)
    refine xg_iload_n (pc := 63) (i := 3) B dQ_readUntil_63 rfl rfl ?_
    refine xg_if_lt (pc := 64) (tgt := 71) B dQ_readUntil_64 (by decide) h (fun c64 h => ?_) (fun c64 h => ?_)
    · refine xg_iconst (pc := 71) (v := 0) B dQ_readUntil_71 (by decide) ?_
      refine xg_sub (ls' := []) [] rfl ?_
      exact wQ_readUntil_72 hl B (0 : Int32) A10 h
    · refine xg_iconst (pc := 67) (v := 1) B dQ_readUntil_67 (by decide) ?_
      refine xg_goto (pc := 68) (tgt := 72) B dQ_readUntil_68 (by decide) ?_
      refine xg_sub (ls' := []) [] rfl ?_
      exact wQ_readUntil_72 hl B (1 : Int32) A10 h
  · refine xg_iconst (pc := 25) (v := 0) B dQ_readUntil_25 (by decide) ?_
    exact xg_zret B dQ_readUntil_26 h
theorem cQ_readUntil {l : Launch} (hl : l.stackTraces = false) (v0 : xj_Rf) (A : xj_H) (r : xj_R) (h : fQ_readUntil v0 A = some r) : xj_M l yQ_readUntil prog_6_method_7_code 4 (some .boolean) [] 4 [xj_rv v0] A r := by
  refine xj_M.of hl (by decide +kernel) (by simp [lg_sl, xj_ic, xj_lc, xj_rv_cat]) (fun z B hA hr => ?_)
  subst hr
  have hw := wQ_readUntil hl B v0 A h
  simpa [lv_args, xj_ic, xj_lc, xj_rv_cat] using hw
/-! RecurrenceBook$Rule.hasWeekdays()Z -/
def fR_hasWeekdays_25 (s0 : Int32) (A : xj_H) : Option xj_R :=
  xj_rz s0 A
def fR_hasWeekdays (v0 : xj_Rf) (A : xj_H) : Option xj_R :=
  (xj_gi A v0 4 8).bind fun x1 =>
  (xj_gl A v0 4 9).bind fun x2 =>
  (xj_gl A v0 4 10).bind fun x3 =>
  if (lg_cmp (((Int32.toInt64 x1) ||| x2) ||| x3) (0 : Int64)) = 0 then
    fR_hasWeekdays_25 (0 : Int32) A
  else
    fR_hasWeekdays_25 (1 : Int32) A
theorem wR_hasWeekdays_25 {l : Launch} (hl : l.stackTraces = false) {z : xj_F} (B : xj_B l yR_hasWeekdays prog_5_method_6_code 1 (some .boolean) [] 1 z) (s0 : Int32) (A : xj_H) (h : fR_hasWeekdays_25 s0 A = some (xf_r z)) : xj_W l z 25 [] [.int s0] A := by
  unfold fR_hasWeekdays_25 at h
  exact xg_zret B dR_hasWeekdays_25 h
theorem wR_hasWeekdays {l : Launch} (hl : l.stackTraces = false) {z : xj_F} (B : xj_B l yR_hasWeekdays prog_5_method_6_code 1 (some .boolean) [] 1 z) (v0 : xj_Rf) (A : xj_H) (h : fR_hasWeekdays v0 A = some (xf_r z)) : xj_W l z 0 [(0, xj_rv v0)] [] A := by
  unfold fR_hasWeekdays at h
  refine xg_aload_n (pc := 0) (i := 0) B dR_hasWeekdays_0 rfl rfl ?_
  refine xg_geti (pc := 1) B dR_hasWeekdays_1 flR_26 h (fun x1 ex1 h => ?_)
  refine xg_i2l (pc := 4) B dR_hasWeekdays_4 ?_
  refine xg_aload_n (pc := 5) (i := 0) B dR_hasWeekdays_5 rfl rfl ?_
  refine xg_getl (pc := 6) B dR_hasWeekdays_6 flR_37 h (fun x2 ex2 h => ?_)
  refine xg_lor (pc := 9) B dR_hasWeekdays_9 ?_
  refine xg_aload_n (pc := 10) (i := 0) B dR_hasWeekdays_10 rfl rfl ?_
  refine xg_getl (pc := 11) B dR_hasWeekdays_11 flR_29 h (fun x3 ex3 h => ?_)
  refine xg_lor (pc := 14) B dR_hasWeekdays_14 ?_
  refine xg_lconst (pc := 15) (v := 0) B dR_hasWeekdays_15 (by decide) ?_
  refine xg_lcmp (pc := 16) B dR_hasWeekdays_16 ?_
  refine xg_if_eq (pc := 17) (tgt := 24) B dR_hasWeekdays_17 (by decide) h (fun c17 h => ?_) (fun c17 h => ?_)
  · refine xg_iconst (pc := 24) (v := 0) B dR_hasWeekdays_24 (by decide) ?_
    refine xg_sub (ls' := []) [] rfl ?_
    exact wR_hasWeekdays_25 hl B (0 : Int32) A h
  · refine xg_iconst (pc := 20) (v := 1) B dR_hasWeekdays_20 (by decide) ?_
    refine xg_goto (pc := 21) (tgt := 25) B dR_hasWeekdays_21 (by decide) ?_
    refine xg_sub (ls' := []) [] rfl ?_
    exact wR_hasWeekdays_25 hl B (1 : Int32) A h
theorem cR_hasWeekdays {l : Launch} (hl : l.stackTraces = false) (v0 : xj_Rf) (A : xj_H) (r : xj_R) (h : fR_hasWeekdays v0 A = some r) : xj_M l yR_hasWeekdays prog_5_method_6_code 1 (some .boolean) [] 1 [xj_rv v0] A r := by
  refine xj_M.of hl (by decide +kernel) (by simp [lg_sl, xj_ic, xj_lc, xj_rv_cat]) (fun z B hA hr => ?_)
  subst hr
  have hw := wR_hasWeekdays hl B v0 A h
  simpa [lv_args, xj_ic, xj_lc, xj_rv_cat] using hw
end
