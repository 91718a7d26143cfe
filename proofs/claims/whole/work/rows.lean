section
-- ===== PART A: goes FIRST, ahead of the names: the tables' words, and 'selects' of the private methods out of them =====
/-- a private method of a class that the tables say can be made, by its rows of tables_1 -/
def lw_okq (q : MethodName × Nat) : Prop := (q.1.cls ≠ "java/lang/invoke/MethodHandle" ∧ q.1.cls ≠ "java/lang/invoke/VarHandle") ∧ Cond.instantiable q.1.cls q.2 ∈ tables_1 ∧ Cond.privateMethod q.1 ∈ tables_1 ∧ Cond.instanceMethod q.1 ∈ tables_1
theorem lw_p0 : lw_okq (⟨"java/lang/Throwable", "fillInStackTrace", "(I)Ljava/lang/Throwable;"⟩, 6) := ⟨⟨by decide +kernel, by decide +kernel⟩, List.mem_of_getElem? (i := 233) (by decide +kernel), List.mem_of_getElem? (i := 231) (by decide +kernel), List.mem_of_getElem? (i := 232) (by decide +kernel)⟩
theorem lw_p1 : lw_okq (⟨"RecurrenceBook$RuleReader", "readPart", "()Z"⟩, 4) := ⟨⟨by decide +kernel, by decide +kernel⟩, List.mem_of_getElem? (i := 298) (by decide +kernel), List.mem_of_getElem? (i := 381) (by decide +kernel), List.mem_of_getElem? (i := 382) (by decide +kernel)⟩
theorem lw_p2 : lw_okq (⟨"RecurrenceBook$RuleReader", "takeWord", "(Ljava/lang/String;)Z"⟩, 4) := ⟨⟨by decide +kernel, by decide +kernel⟩, List.mem_of_getElem? (i := 298) (by decide +kernel), List.mem_of_getElem? (i := 386) (by decide +kernel), List.mem_of_getElem? (i := 387) (by decide +kernel)⟩
theorem lw_p3 : lw_okq (⟨"RecurrenceBook$RuleReader", "readFrequency", "()Z"⟩, 4) := ⟨⟨by decide +kernel, by decide +kernel⟩, List.mem_of_getElem? (i := 298) (by decide +kernel), List.mem_of_getElem? (i := 438) (by decide +kernel), List.mem_of_getElem? (i := 439) (by decide +kernel)⟩
theorem lw_p4 : lw_okq (⟨"RecurrenceBook$RuleReader", "readInterval", "()Z"⟩, 4) := ⟨⟨by decide +kernel, by decide +kernel⟩, List.mem_of_getElem? (i := 298) (by decide +kernel), List.mem_of_getElem? (i := 453) (by decide +kernel), List.mem_of_getElem? (i := 454) (by decide +kernel)⟩
theorem lw_p5 : lw_okq (⟨"RecurrenceBook$RuleReader", "takeNumber", "(II)I"⟩, 4) := ⟨⟨by decide +kernel, by decide +kernel⟩, List.mem_of_getElem? (i := 298) (by decide +kernel), List.mem_of_getElem? (i := 457) (by decide +kernel), List.mem_of_getElem? (i := 458) (by decide +kernel)⟩
theorem lw_p6 : lw_okq (⟨"RecurrenceBook$RuleReader", "isDigitNext", "()Z"⟩, 4) := ⟨⟨by decide +kernel, by decide +kernel⟩, List.mem_of_getElem? (i := 298) (by decide +kernel), List.mem_of_getElem? (i := 461) (by decide +kernel), List.mem_of_getElem? (i := 462) (by decide +kernel)⟩
theorem lw_p7 : lw_okq (⟨"RecurrenceBook$RuleReader", "readCount", "()Z"⟩, 4) := ⟨⟨by decide +kernel, by decide +kernel⟩, List.mem_of_getElem? (i := 298) (by decide +kernel), List.mem_of_getElem? (i := 466) (by decide +kernel), List.mem_of_getElem? (i := 467) (by decide +kernel)⟩
theorem lw_p8 : lw_okq (⟨"RecurrenceBook$RuleReader", "readUntil", "()Z"⟩, 4) := ⟨⟨by decide +kernel, by decide +kernel⟩, List.mem_of_getElem? (i := 298) (by decide +kernel), List.mem_of_getElem? (i := 471) (by decide +kernel), List.mem_of_getElem? (i := 472) (by decide +kernel)⟩
theorem lw_p9 : lw_okq (⟨"RecurrenceBook$RuleReader", "readWeekdays", "()Z"⟩, 4) := ⟨⟨by decide +kernel, by decide +kernel⟩, List.mem_of_getElem? (i := 298) (by decide +kernel), List.mem_of_getElem? (i := 482) (by decide +kernel), List.mem_of_getElem? (i := 483) (by decide +kernel)⟩
theorem lw_p10 : lw_okq (⟨"RecurrenceBook$RuleReader", "readWeekday", "()Z"⟩, 4) := ⟨⟨by decide +kernel, by decide +kernel⟩, List.mem_of_getElem? (i := 298) (by decide +kernel), List.mem_of_getElem? (i := 486) (by decide +kernel), List.mem_of_getElem? (i := 487) (by decide +kernel)⟩
theorem lw_p11 : lw_okq (⟨"RecurrenceBook$RuleReader", "take", "(C)Z"⟩, 4) := ⟨⟨by decide +kernel, by decide +kernel⟩, List.mem_of_getElem? (i := 298) (by decide +kernel), List.mem_of_getElem? (i := 490) (by decide +kernel), List.mem_of_getElem? (i := 491) (by decide +kernel)⟩
theorem lw_p12 : lw_okq (⟨"RecurrenceBook$RuleReader", "takeWeekday", "()I"⟩, 4) := ⟨⟨by decide +kernel, by decide +kernel⟩, List.mem_of_getElem? (i := 298) (by decide +kernel), List.mem_of_getElem? (i := 494) (by decide +kernel), List.mem_of_getElem? (i := 495) (by decide +kernel)⟩
theorem lw_p13 : lw_okq (⟨"RecurrenceBook$RuleReader", "readNumbers", "()Z"⟩, 4) := ⟨⟨by decide +kernel, by decide +kernel⟩, List.mem_of_getElem? (i := 298) (by decide +kernel), List.mem_of_getElem? (i := 511) (by decide +kernel), List.mem_of_getElem? (i := 512) (by decide +kernel)⟩
theorem lw_p14 : lw_okq (⟨"RecurrenceBook$RuleReader", "readMonths", "()Z"⟩, 4) := ⟨⟨by decide +kernel, by decide +kernel⟩, List.mem_of_getElem? (i := 298) (by decide +kernel), List.mem_of_getElem? (i := 520) (by decide +kernel), List.mem_of_getElem? (i := 521) (by decide +kernel)⟩
theorem lw_p15 : lw_okq (⟨"RecurrenceBook$Unfolding", "enterMonth", "(I)V"⟩, 12) := ⟨⟨by decide +kernel, by decide +kernel⟩, List.mem_of_getElem? (i := 537) (by decide +kernel), List.mem_of_getElem? (i := 592) (by decide +kernel), List.mem_of_getElem? (i := 593) (by decide +kernel)⟩
def lw_privs_1 : List (MethodName × Nat) := [(⟨"java/lang/Throwable", "fillInStackTrace", "(I)Ljava/lang/Throwable;"⟩, 6), (⟨"RecurrenceBook$RuleReader", "readPart", "()Z"⟩, 4), (⟨"RecurrenceBook$RuleReader", "takeWord", "(Ljava/lang/String;)Z"⟩, 4), (⟨"RecurrenceBook$RuleReader", "readFrequency", "()Z"⟩, 4), (⟨"RecurrenceBook$RuleReader", "readInterval", "()Z"⟩, 4), (⟨"RecurrenceBook$RuleReader", "takeNumber", "(II)I"⟩, 4), (⟨"RecurrenceBook$RuleReader", "isDigitNext", "()Z"⟩, 4), (⟨"RecurrenceBook$RuleReader", "readCount", "()Z"⟩, 4), (⟨"RecurrenceBook$RuleReader", "readUntil", "()Z"⟩, 4), (⟨"RecurrenceBook$RuleReader", "readWeekdays", "()Z"⟩, 4), (⟨"RecurrenceBook$RuleReader", "readWeekday", "()Z"⟩, 4), (⟨"RecurrenceBook$RuleReader", "take", "(C)Z"⟩, 4), (⟨"RecurrenceBook$RuleReader", "takeWeekday", "()I"⟩, 4), (⟨"RecurrenceBook$RuleReader", "readNumbers", "()Z"⟩, 4), (⟨"RecurrenceBook$RuleReader", "readMonths", "()Z"⟩, 4), (⟨"RecurrenceBook$Unfolding", "enterMonth", "(I)V"⟩, 12)]
theorem lw_r1 : ∀ q ∈ lw_privs_1, lw_okq q := List.forall_mem_cons.mpr ⟨lw_p0, List.forall_mem_cons.mpr ⟨lw_p1, List.forall_mem_cons.mpr ⟨lw_p2, List.forall_mem_cons.mpr ⟨lw_p3, List.forall_mem_cons.mpr ⟨lw_p4, List.forall_mem_cons.mpr ⟨lw_p5, List.forall_mem_cons.mpr ⟨lw_p6, List.forall_mem_cons.mpr ⟨lw_p7, List.forall_mem_cons.mpr ⟨lw_p8, List.forall_mem_cons.mpr ⟨lw_p9, List.forall_mem_cons.mpr ⟨lw_p10, List.forall_mem_cons.mpr ⟨lw_p11, List.forall_mem_cons.mpr ⟨lw_p12, List.forall_mem_cons.mpr ⟨lw_p13, List.forall_mem_cons.mpr ⟨lw_p14, List.forall_mem_cons.mpr ⟨lw_p15, fun _ h => absurd h List.not_mem_nil⟩⟩⟩⟩⟩⟩⟩⟩⟩⟩⟩⟩⟩⟩⟩⟩
theorem lw_p16 : lw_okq (⟨"RecurrenceBook$Unfolding", "addDays", "()V"⟩, 12) := ⟨⟨by decide +kernel, by decide +kernel⟩, List.mem_of_getElem? (i := 537) (by decide +kernel), List.mem_of_getElem? (i := 601) (by decide +kernel), List.mem_of_getElem? (i := 602) (by decide +kernel)⟩
theorem lw_p17 : lw_okq (⟨"RecurrenceBook$Unfolding", "followMonth", "(I)V"⟩, 12) := ⟨⟨by decide +kernel, by decide +kernel⟩, List.mem_of_getElem? (i := 537) (by decide +kernel), List.mem_of_getElem? (i := 605) (by decide +kernel), List.mem_of_getElem? (i := 606) (by decide +kernel)⟩
theorem lw_p18 : lw_okq (⟨"RecurrenceBook$Unfolding", "isMeantInMonth", "(I)Z"⟩, 12) := ⟨⟨by decide +kernel, by decide +kernel⟩, List.mem_of_getElem? (i := 537) (by decide +kernel), List.mem_of_getElem? (i := 609) (by decide +kernel), List.mem_of_getElem? (i := 610) (by decide +kernel)⟩
theorem lw_p19 : lw_okq (⟨"RecurrenceBook$Unfolding", "add", "(I)V"⟩, 12) := ⟨⟨by decide +kernel, by decide +kernel⟩, List.mem_of_getElem? (i := 537) (by decide +kernel), List.mem_of_getElem? (i := 622) (by decide +kernel), List.mem_of_getElem? (i := 623) (by decide +kernel)⟩
theorem lw_p20 : lw_okq (⟨"RecurrenceBook$Unfolding", "addWeeks", "()V"⟩, 12) := ⟨⟨by decide +kernel, by decide +kernel⟩, List.mem_of_getElem? (i := 537) (by decide +kernel), List.mem_of_getElem? (i := 627) (by decide +kernel), List.mem_of_getElem? (i := 628) (by decide +kernel)⟩
theorem lw_p21 : lw_okq (⟨"RecurrenceBook$Unfolding", "addMonths", "()V"⟩, 12) := ⟨⟨by decide +kernel, by decide +kernel⟩, List.mem_of_getElem? (i := 537) (by decide +kernel), List.mem_of_getElem? (i := 632) (by decide +kernel), List.mem_of_getElem? (i := 633) (by decide +kernel)⟩
theorem lw_p22 : lw_okq (⟨"RecurrenceBook$Unfolding", "addMonth", "(I)V"⟩, 12) := ⟨⟨by decide +kernel, by decide +kernel⟩, List.mem_of_getElem? (i := 537) (by decide +kernel), List.mem_of_getElem? (i := 636) (by decide +kernel), List.mem_of_getElem? (i := 637) (by decide +kernel)⟩
theorem lw_p23 : lw_okq (⟨"RecurrenceBook$Unfolding", "addYears", "()V"⟩, 12) := ⟨⟨by decide +kernel, by decide +kernel⟩, List.mem_of_getElem? (i := 537) (by decide +kernel), List.mem_of_getElem? (i := 642) (by decide +kernel), List.mem_of_getElem? (i := 643) (by decide +kernel)⟩
theorem lw_p24 : lw_okq (⟨"RecurrenceBook", "findEvent", "(I)LRecurrenceBook$Event;"⟩, 7) := ⟨⟨by decide +kernel, by decide +kernel⟩, List.mem_of_getElem? (i := 24) (by decide +kernel), List.mem_of_getElem? (i := 658) (by decide +kernel), List.mem_of_getElem? (i := 659) (by decide +kernel)⟩
theorem lw_p25 : lw_okq (⟨"RecurrenceBook", "findTime", "(II)I"⟩, 7) := ⟨⟨by decide +kernel, by decide +kernel⟩, List.mem_of_getElem? (i := 24) (by decide +kernel), List.mem_of_getElem? (i := 696) (by decide +kernel), List.mem_of_getElem? (i := 697) (by decide +kernel)⟩
theorem lw_p26 : lw_okq (⟨"RecurrenceBook", "earliestHead", "()I"⟩, 7) := ⟨⟨by decide +kernel, by decide +kernel⟩, List.mem_of_getElem? (i := 24) (by decide +kernel), List.mem_of_getElem? (i := 722) (by decide +kernel), List.mem_of_getElem? (i := 723) (by decide +kernel)⟩
theorem lw_p27 : lw_okq (⟨"RecurrenceBookModel", "changes", "(IIII)V"⟩, 36) := ⟨⟨by decide +kernel, by decide +kernel⟩, List.mem_of_getElem? (i := 751) (by decide +kernel), List.mem_of_getElem? (i := 757) (by decide +kernel), List.mem_of_getElem? (i := 758) (by decide +kernel)⟩
theorem lw_p28 : lw_okq (⟨"RecurrenceBookModel", "fails", "(Z)Z"⟩, 36) := ⟨⟨by decide +kernel, by decide +kernel⟩, List.mem_of_getElem? (i := 751) (by decide +kernel), List.mem_of_getElem? (i := 904) (by decide +kernel), List.mem_of_getElem? (i := 905) (by decide +kernel)⟩
theorem lw_p29 : lw_okq (⟨"RecurrenceBookModel", "inSummer", "(I)Z"⟩, 36) := ⟨⟨by decide +kernel, by decide +kernel⟩, List.mem_of_getElem? (i := 751) (by decide +kernel), List.mem_of_getElem? (i := 912) (by decide +kernel), List.mem_of_getElem? (i := 913) (by decide +kernel)⟩
theorem lw_p30 : lw_okq (⟨"RecurrenceBookModel", "readRule", "()Z"⟩, 36) := ⟨⟨by decide +kernel, by decide +kernel⟩, List.mem_of_getElem? (i := 751) (by decide +kernel), List.mem_of_getElem? (i := 925) (by decide +kernel), List.mem_of_getElem? (i := 926) (by decide +kernel)⟩
theorem lw_p31 : lw_okq (⟨"RecurrenceBookModel", "readPart", "()I"⟩, 36) := ⟨⟨by decide +kernel, by decide +kernel⟩, List.mem_of_getElem? (i := 751) (by decide +kernel), List.mem_of_getElem? (i := 929) (by decide +kernel), List.mem_of_getElem? (i := 930) (by decide +kernel)⟩
def lw_privs_2 : List (MethodName × Nat) := [(⟨"RecurrenceBook$Unfolding", "addDays", "()V"⟩, 12), (⟨"RecurrenceBook$Unfolding", "followMonth", "(I)V"⟩, 12), (⟨"RecurrenceBook$Unfolding", "isMeantInMonth", "(I)Z"⟩, 12), (⟨"RecurrenceBook$Unfolding", "add", "(I)V"⟩, 12), (⟨"RecurrenceBook$Unfolding", "addWeeks", "()V"⟩, 12), (⟨"RecurrenceBook$Unfolding", "addMonths", "()V"⟩, 12), (⟨"RecurrenceBook$Unfolding", "addMonth", "(I)V"⟩, 12), (⟨"RecurrenceBook$Unfolding", "addYears", "()V"⟩, 12), (⟨"RecurrenceBook", "findEvent", "(I)LRecurrenceBook$Event;"⟩, 7), (⟨"RecurrenceBook", "findTime", "(II)I"⟩, 7), (⟨"RecurrenceBook", "earliestHead", "()I"⟩, 7), (⟨"RecurrenceBookModel", "changes", "(IIII)V"⟩, 36), (⟨"RecurrenceBookModel", "fails", "(Z)Z"⟩, 36), (⟨"RecurrenceBookModel", "inSummer", "(I)Z"⟩, 36), (⟨"RecurrenceBookModel", "readRule", "()Z"⟩, 36), (⟨"RecurrenceBookModel", "readPart", "()I"⟩, 36)]
theorem lw_r2 : ∀ q ∈ lw_privs_2, lw_okq q := List.forall_mem_cons.mpr ⟨lw_p16, List.forall_mem_cons.mpr ⟨lw_p17, List.forall_mem_cons.mpr ⟨lw_p18, List.forall_mem_cons.mpr ⟨lw_p19, List.forall_mem_cons.mpr ⟨lw_p20, List.forall_mem_cons.mpr ⟨lw_p21, List.forall_mem_cons.mpr ⟨lw_p22, List.forall_mem_cons.mpr ⟨lw_p23, List.forall_mem_cons.mpr ⟨lw_p24, List.forall_mem_cons.mpr ⟨lw_p25, List.forall_mem_cons.mpr ⟨lw_p26, List.forall_mem_cons.mpr ⟨lw_p27, List.forall_mem_cons.mpr ⟨lw_p28, List.forall_mem_cons.mpr ⟨lw_p29, List.forall_mem_cons.mpr ⟨lw_p30, List.forall_mem_cons.mpr ⟨lw_p31, fun _ h => absurd h List.not_mem_nil⟩⟩⟩⟩⟩⟩⟩⟩⟩⟩⟩⟩⟩⟩⟩⟩
theorem lw_p32 : lw_okq (⟨"RecurrenceBookModel", "letters", "(I)J"⟩, 36) := ⟨⟨by decide +kernel, by decide +kernel⟩, List.mem_of_getElem? (i := 751) (by decide +kernel), List.mem_of_getElem? (i := 933) (by decide +kernel), List.mem_of_getElem? (i := 934) (by decide +kernel)⟩
theorem lw_p33 : lw_okq (⟨"RecurrenceBookModel", "look", "()I"⟩, 36) := ⟨⟨by decide +kernel, by decide +kernel⟩, List.mem_of_getElem? (i := 751) (by decide +kernel), List.mem_of_getElem? (i := 937) (by decide +kernel), List.mem_of_getElem? (i := 938) (by decide +kernel)⟩
theorem lw_p34 : lw_okq (⟨"RecurrenceBookModel", "takes", "(I)Z"⟩, 36) := ⟨⟨by decide +kernel, by decide +kernel⟩, List.mem_of_getElem? (i := 751) (by decide +kernel), List.mem_of_getElem? (i := 943) (by decide +kernel), List.mem_of_getElem? (i := 944) (by decide +kernel)⟩
theorem lw_p35 : lw_okq (⟨"RecurrenceBookModel", "readFrequency", "()Z"⟩, 36) := ⟨⟨by decide +kernel, by decide +kernel⟩, List.mem_of_getElem? (i := 751) (by decide +kernel), List.mem_of_getElem? (i := 948) (by decide +kernel), List.mem_of_getElem? (i := 949) (by decide +kernel)⟩
theorem lw_p36 : lw_okq (⟨"RecurrenceBookModel", "digits", "(I)I"⟩, 36) := ⟨⟨by decide +kernel, by decide +kernel⟩, List.mem_of_getElem? (i := 751) (by decide +kernel), List.mem_of_getElem? (i := 957) (by decide +kernel), List.mem_of_getElem? (i := 958) (by decide +kernel)⟩
theorem lw_p37 : lw_okq (⟨"RecurrenceBookModel", "readUntil", "()Z"⟩, 36) := ⟨⟨by decide +kernel, by decide +kernel⟩, List.mem_of_getElem? (i := 751) (by decide +kernel), List.mem_of_getElem? (i := 963) (by decide +kernel), List.mem_of_getElem? (i := 964) (by decide +kernel)⟩
theorem lw_p38 : lw_okq (⟨"RecurrenceBookModel", "readList", "(I)Z"⟩, 36) := ⟨⟨by decide +kernel, by decide +kernel⟩, List.mem_of_getElem? (i := 751) (by decide +kernel), List.mem_of_getElem? (i := 968) (by decide +kernel), List.mem_of_getElem? (i := 969) (by decide +kernel)⟩
theorem lw_p39 : lw_okq (⟨"RecurrenceBookModel", "readWeekday", "()Z"⟩, 36) := ⟨⟨by decide +kernel, by decide +kernel⟩, List.mem_of_getElem? (i := 751) (by decide +kernel), List.mem_of_getElem? (i := 972) (by decide +kernel), List.mem_of_getElem? (i := 973) (by decide +kernel)⟩
theorem lw_p40 : lw_okq (⟨"RecurrenceBookModel", "readMonthDay", "()Z"⟩, 36) := ⟨⟨by decide +kernel, by decide +kernel⟩, List.mem_of_getElem? (i := 751) (by decide +kernel), List.mem_of_getElem? (i := 986) (by decide +kernel), List.mem_of_getElem? (i := 987) (by decide +kernel)⟩
theorem lw_p41 : lw_okq (⟨"RecurrenceBookModel", "split", "(I)V"⟩, 36) := ⟨⟨by decide +kernel, by decide +kernel⟩, List.mem_of_getElem? (i := 751) (by decide +kernel), List.mem_of_getElem? (i := 992) (by decide +kernel), List.mem_of_getElem? (i := 993) (by decide +kernel)⟩
theorem lw_p42 : lw_okq (⟨"RecurrenceBookModel", "fill", "(I)V"⟩, 36) := ⟨⟨by decide +kernel, by decide +kernel⟩, List.mem_of_getElem? (i := 751) (by decide +kernel), List.mem_of_getElem? (i := 996) (by decide +kernel), List.mem_of_getElem? (i := 997) (by decide +kernel)⟩
theorem lw_p43 : lw_okq (⟨"RecurrenceBookModel", "inPeriod", "(I)Z"⟩, 36) := ⟨⟨by decide +kernel, by decide +kernel⟩, List.mem_of_getElem? (i := 751) (by decide +kernel), List.mem_of_getElem? (i := 1000) (by decide +kernel), List.mem_of_getElem? (i := 1001) (by decide +kernel)⟩
theorem lw_p44 : lw_okq (⟨"RecurrenceBookModel", "means", "(I)Z"⟩, 36) := ⟨⟨by decide +kernel, by decide +kernel⟩, List.mem_of_getElem? (i := 751) (by decide +kernel), List.mem_of_getElem? (i := 1004) (by decide +kernel), List.mem_of_getElem? (i := 1005) (by decide +kernel)⟩
theorem lw_p45 : lw_okq (⟨"RecurrenceBookModel", "byWeekday", "(I)Z"⟩, 36) := ⟨⟨by decide +kernel, by decide +kernel⟩, List.mem_of_getElem? (i := 751) (by decide +kernel), List.mem_of_getElem? (i := 1008) (by decide +kernel), List.mem_of_getElem? (i := 1009) (by decide +kernel)⟩
theorem lw_p46 : lw_okq (⟨"RecurrenceBookModel", "byMonthDay", "()Z"⟩, 36) := ⟨⟨by decide +kernel, by decide +kernel⟩, List.mem_of_getElem? (i := 751) (by decide +kernel), List.mem_of_getElem? (i := 1012) (by decide +kernel), List.mem_of_getElem? (i := 1013) (by decide +kernel)⟩
theorem lw_p47 : lw_okq (⟨"RecurrenceBookModel", "behindPeriod", "(I)I"⟩, 36) := ⟨⟨by decide +kernel, by decide +kernel⟩, List.mem_of_getElem? (i := 751) (by decide +kernel), List.mem_of_getElem? (i := 1016) (by decide +kernel), List.mem_of_getElem? (i := 1017) (by decide +kernel)⟩
def lw_privs_3 : List (MethodName × Nat) := [(⟨"RecurrenceBookModel", "letters", "(I)J"⟩, 36), (⟨"RecurrenceBookModel", "look", "()I"⟩, 36), (⟨"RecurrenceBookModel", "takes", "(I)Z"⟩, 36), (⟨"RecurrenceBookModel", "readFrequency", "()Z"⟩, 36), (⟨"RecurrenceBookModel", "digits", "(I)I"⟩, 36), (⟨"RecurrenceBookModel", "readUntil", "()Z"⟩, 36), (⟨"RecurrenceBookModel", "readList", "(I)Z"⟩, 36), (⟨"RecurrenceBookModel", "readWeekday", "()Z"⟩, 36), (⟨"RecurrenceBookModel", "readMonthDay", "()Z"⟩, 36), (⟨"RecurrenceBookModel", "split", "(I)V"⟩, 36), (⟨"RecurrenceBookModel", "fill", "(I)V"⟩, 36), (⟨"RecurrenceBookModel", "inPeriod", "(I)Z"⟩, 36), (⟨"RecurrenceBookModel", "means", "(I)Z"⟩, 36), (⟨"RecurrenceBookModel", "byWeekday", "(I)Z"⟩, 36), (⟨"RecurrenceBookModel", "byMonthDay", "()Z"⟩, 36), (⟨"RecurrenceBookModel", "behindPeriod", "(I)I"⟩, 36)]
theorem lw_r3 : ∀ q ∈ lw_privs_3, lw_okq q := List.forall_mem_cons.mpr ⟨lw_p32, List.forall_mem_cons.mpr ⟨lw_p33, List.forall_mem_cons.mpr ⟨lw_p34, List.forall_mem_cons.mpr ⟨lw_p35, List.forall_mem_cons.mpr ⟨lw_p36, List.forall_mem_cons.mpr ⟨lw_p37, List.forall_mem_cons.mpr ⟨lw_p38, List.forall_mem_cons.mpr ⟨lw_p39, List.forall_mem_cons.mpr ⟨lw_p40, List.forall_mem_cons.mpr ⟨lw_p41, List.forall_mem_cons.mpr ⟨lw_p42, List.forall_mem_cons.mpr ⟨lw_p43, List.forall_mem_cons.mpr ⟨lw_p44, List.forall_mem_cons.mpr ⟨lw_p45, List.forall_mem_cons.mpr ⟨lw_p46, List.forall_mem_cons.mpr ⟨lw_p47, fun _ h => absurd h List.not_mem_nil⟩⟩⟩⟩⟩⟩⟩⟩⟩⟩⟩⟩⟩⟩⟩⟩
theorem lw_p48 : lw_okq (⟨"RecurrenceBookModel", "isExcluded", "(II)Z"⟩, 36) := ⟨⟨by decide +kernel, by decide +kernel⟩, List.mem_of_getElem? (i := 751) (by decide +kernel), List.mem_of_getElem? (i := 1024) (by decide +kernel), List.mem_of_getElem? (i := 1025) (by decide +kernel)⟩
theorem lw_p49 : lw_okq (⟨"RecurrenceBookModel", "timeDay", "(II)I"⟩, 36) := ⟨⟨by decide +kernel, by decide +kernel⟩, List.mem_of_getElem? (i := 751) (by decide +kernel), List.mem_of_getElem? (i := 1036) (by decide +kernel), List.mem_of_getElem? (i := 1037) (by decide +kernel)⟩
theorem lw_p50 : lw_okq (⟨"RecurrenceBookModel", "momentOf", "(I)I"⟩, 36) := ⟨⟨by decide +kernel, by decide +kernel⟩, List.mem_of_getElem? (i := 751) (by decide +kernel), List.mem_of_getElem? (i := 1044) (by decide +kernel), List.mem_of_getElem? (i := 1045) (by decide +kernel)⟩
theorem lw_p51 : lw_okq (⟨"RecurrenceBookModel", "join", "(II)V"⟩, 36) := ⟨⟨by decide +kernel, by decide +kernel⟩, List.mem_of_getElem? (i := 751) (by decide +kernel), List.mem_of_getElem? (i := 1059) (by decide +kernel), List.mem_of_getElem? (i := 1060) (by decide +kernel)⟩
def lw_privs_4 : List (MethodName × Nat) := [(⟨"RecurrenceBookModel", "isExcluded", "(II)Z"⟩, 36), (⟨"RecurrenceBookModel", "timeDay", "(II)I"⟩, 36), (⟨"RecurrenceBookModel", "momentOf", "(I)I"⟩, 36), (⟨"RecurrenceBookModel", "join", "(II)V"⟩, 36)]
theorem lw_r4 : ∀ q ∈ lw_privs_4, lw_okq q := List.forall_mem_cons.mpr ⟨lw_p48, List.forall_mem_cons.mpr ⟨lw_p49, List.forall_mem_cons.mpr ⟨lw_p50, List.forall_mem_cons.mpr ⟨lw_p51, fun _ h => absurd h List.not_mem_nil⟩⟩⟩⟩
def lw_privs : List (MethodName × Nat) := lw_privs_1 ++ (lw_privs_2 ++ (lw_privs_3 ++ (lw_privs_4)))
def lw_tbl : List Cond := k2_sels lw_privs ++ tables_1
theorem lw_privs_ok : ∀ q ∈ lw_privs, lw_okq q := by
  show ∀ q ∈ lw_privs_1 ++ (lw_privs_2 ++ (lw_privs_3 ++ (lw_privs_4))), lw_okq q
  exact List.forall_mem_append.mpr ⟨lw_r1, List.forall_mem_append.mpr ⟨lw_r2, List.forall_mem_append.mpr ⟨lw_r3, lw_r4⟩⟩⟩
end
section
/-! The tables' words that hold at every state of the run, by their places in the Statement's list. -/
def xj_gd : Cond → Bool
  | .castable .. => true
  | .declares _ => true
  | w => goodWord w
def xj_ws : List Cond := lw_tbl.filter xj_gd
theorem xj_gd_or {w : Cond} (h : xj_gd w = true) : goodWord w = true ∨ (∃ a b, w = .castable a b) ∨ ∃ x, w = .declares x := by
  cases w <;> first | exact Or.inr (Or.inl ⟨_, _, rfl⟩) | exact Or.inr (Or.inr ⟨_, rfl⟩) | exact Or.inl h
theorem xj_ws_good : ∀ w ∈ xj_ws, goodWord w = true ∨ (∃ a b, w = .castable a b) ∨ ∃ x, w = .declares x := fun _ hw => xj_gd_or (List.mem_filter.mp hw).2
theorem xj_cast {a b : String} {args a' : Array Value} {s U : State} (hal : s.vm.Alike U.vm) (h : (Cond.castable a b).before args s = true) : (Cond.castable a b).before a' U = true := by
  obtain ⟨c, t, h1, h2, h3⟩ := Cond.castable_spec h
  have e1 : U.vm.findClass a = some c := by rw [hal.findClass]; exact h1
  have e2 : U.vm.findClass b = some t := by rw [hal.findClass]; exact h2
  have e3 : U.vm.assignable c t = true := by rw [hal.assignable]; exact h3
  simp [Cond.before, Cond.holds, Cond.value, e1, e2, e3]
def xj_ne : Cond → Bool
  | .fieldLinkNest .. => true
  | .methodLinkNest .. => true
  | _ => false
def xj_nw : List Cond := tables_1.filter xj_ne
theorem xj_nw_nest : ∀ w ∈ xj_nw, (∃ a i b n d h, w = .fieldLinkNest a i b n d h) ∨ ∃ a i x h, w = .methodLinkNest a i x h := by
  intro w hw
  have h := (List.mem_filter.mp hw).2
  cases w <;> simp [xj_ne] at h
  · exact Or.inr ⟨_, _, _, _, rfl⟩
  · exact Or.inl ⟨_, _, _, _, _, _, rfl⟩
theorem xm_t {w : Cond} (i : Nat) (h : tables_1[i]? = some w) (hg : xj_gd w = true) : w ∈ xj_ws := List.mem_filter.mpr ⟨List.mem_append_right _ (List.mem_of_getElem? h), hg⟩
theorem xm_p {q : MethodName × Nat} (i : Nat) (h : lw_privs[i]? = some q) : Cond.selects q.1.cls q.1 q.1 ∈ xj_ws := List.mem_filter.mpr ⟨List.mem_append_left _ (List.mem_map.mpr ⟨q, List.mem_of_getElem? h, rfl⟩), rfl⟩
theorem xm_n {w : Cond} (i : Nat) (h : tables_1[i]? = some w) (hg : xj_ne w = true) : w ∈ xj_nw := List.mem_filter.mpr ⟨List.mem_of_getElem? h, hg⟩
end
section
/-! The abstract words: cells by their places, references by places, results. -/
abbrev xj_C : Type := (Nat × vp_A) ⊕ (Nat × List Value)
abbrev xj_H : Type := List xj_C × Nat × Nat
abbrev xj_R : Type := (Option Value ⊕ String) × xj_H
abbrev xj_G : Type := va_G × (Nat → ClassId) × (Nat → Nat) × (Nat → Int32) × Nat
abbrev xj_Rf : Type := Option (Nat ⊕ Nat)
def xj_rv (r : xj_Rf) : Value := match r with
  | none => .null
  | some (.inl k) => .ref k
  | some (.inr i) => .retAddr i
def xj_v (g : xj_G) (ad : Nat → Nat) (v : Value) : Value := match v with
  | .ref k => .ref (ad k)
  | .retAddr i => .ref (g.2.2.1 i)
  | .int x => .int x
  | .long x => .long x
  | .float x => .float x
  | .double x => .double x
  | .null => .null
def xj_c (g : xj_G) (ad : Nat → Nat) (x : xj_C) : va_E := match x with
  | .inl (t, n, .inl f) => .inl (g.2.1 t, n, .inl f)
  | .inl (t, n, .inr (.inl f)) => .inl (g.2.1 t, n, .inr (.inl f))
  | .inl (t, n, .inr (.inr (.inl f))) => .inl (g.2.1 t, n, .inr (.inr (.inl f)))
  | .inl (t, n, .inr (.inr (.inr (.inl f)))) => .inl (g.2.1 t, n, .inr (.inr (.inr (.inl f))))
  | .inl (t, n, .inr (.inr (.inr (.inr f)))) => .inl (g.2.1 t, n, .inr (.inr (.inr (.inr (fun i => (f i).map ad)))))
  | .inr (ci, fs) => .inr (ci, fs.map (xj_v g ad))
def xj_w (g : xj_G) (ad : Nat → Nat) (A : List xj_C) : va_W := A.mapIdx (fun k x => (ad k, xj_c g ad x))
def xj_wv (n : Nat) (v : Value) : Prop := match v with
  | .ref k => k < n
  | _ => True
def xj_wst (n : Nat) : List Value → Prop
  | [] => True
  | v :: r => xj_wv n v ∧ xj_wst n r
def xj_wls (n : Nat) (ls : List (Nat × Value)) : Prop := ∀ q ∈ ls, xj_wv n q.2
def xj_wc (n : Nat) (x : xj_C) : Prop := match x with
  | .inl (_, _, .inr (.inr (.inr (.inr f)))) => ∀ i k, f i = some k → k < n
  | .inl _ => True
  | .inr (_, fs) => ∀ v ∈ fs, xj_wv n v
theorem xj_v_cat (g : xj_G) (ad : Nat → Nat) (v : Value) : (xj_v g ad v).category = v.category := by cases v <;> rfl
theorem xj_v_same {g : xj_G} {ad ad' : Nat → Nat} {n : Nat} (ha : ∀ k, k < n → ad' k = ad k) {v : Value} (h : xj_wv n v) : xj_v g ad' v = xj_v g ad v := by
  cases v with
  | ref k => simp only [xj_v]; rw [ha k h]
  | _ => rfl
theorem xj_st_same {g : xj_G} {ad ad' : Nat → Nat} {n : Nat} (ha : ∀ k, k < n → ad' k = ad k) : ∀ {st : List Value}, xj_wst n st → st.map (xj_v g ad') = st.map (xj_v g ad)
  | [], _ => rfl
  | v :: r, h => by rw [List.map_cons, List.map_cons, xj_v_same ha h.1, xj_st_same ha h.2]
theorem xj_ls_same {g : xj_G} {ad ad' : Nat → Nat} {n : Nat} (ha : ∀ k, k < n → ad' k = ad k) {ls : List (Nat × Value)} (h : xj_wls n ls) : ls.map (fun q => (q.1, xj_v g ad' q.2)) = ls.map (fun q => (q.1, xj_v g ad q.2)) :=
  List.map_congr_left fun q hq => by rw [xj_v_same ha (h q hq)]
theorem xj_c_same {g : xj_G} {ad ad' : Nat → Nat} {n : Nat} (ha : ∀ k, k < n → ad' k = ad k) {x : xj_C} (h : xj_wc n x) : xj_c g ad' x = xj_c g ad x := by
  match x, h with
  | .inl (t, m, .inl f), _ => rfl
  | .inl (t, m, .inr (.inl f)), _ => rfl
  | .inl (t, m, .inr (.inr (.inl f))), _ => rfl
  | .inl (t, m, .inr (.inr (.inr (.inl f)))), _ => rfl
  | .inl (t, m, .inr (.inr (.inr (.inr f)))), h =>
    have hf : (fun i => (f i).map ad') = fun i => (f i).map ad := by
      funext i
      cases hi : f i with
      | none => rfl
      | some k => simp only [Option.map_some]; rw [ha k (h i k hi)]
    simp only [xj_c, hf]
  | .inr (ci, fs), h =>
    have hf : fs.map (xj_v g ad') = fs.map (xj_v g ad) := List.map_congr_left fun v hv => xj_v_same ha (h v hv)
    simp only [xj_c, hf]
theorem xj_w_get (g : xj_G) (ad : Nat → Nat) (A : List xj_C) (k : Nat) : (xj_w g ad A)[k]? = (A[k]?).map (fun x => (ad k, xj_c g ad x)) := by
  simp [xj_w, List.getElem?_mapIdx]
theorem xj_w_at {g : xj_G} {ad : Nat → Nat} {A : List xj_C} {k : Nat} {x : xj_C} (h : A[k]? = some x) : (xj_w g ad A)[k]? = some (ad k, xj_c g ad x) := by
  rw [xj_w_get, h]; rfl
theorem xj_w_len (g : xj_G) (ad : Nat → Nat) (A : List xj_C) : (xj_w g ad A).length = A.length := by simp [xj_w]
theorem xj_w_set (g : xj_G) (ad : Nat → Nat) (A : List xj_C) (k : Nat) (x : xj_C) : (xj_w g ad A).set k (ad k, xj_c g ad x) = xj_w g ad (A.set k x) := by
  apply List.ext_getElem?
  intro j
  rw [xj_w_get, List.getElem?_set, List.getElem?_set, xj_w_len]
  by_cases h : k = j
  · subst h
    by_cases h2 : k < A.length <;> simp [h2]
  · simp [h, xj_w_get]
theorem xj_w_push (g : xj_G) (ad : Nat → Nat) (A : List xj_C) (x : xj_C) : xj_w g ad (A ++ [x]) = xj_w g ad A ++ [(ad A.length, xj_c g ad x)] := by
  simp [xj_w, List.mapIdx_append]
theorem xj_w_same {g : xj_G} {ad ad' : Nat → Nat} {A : List xj_C} (ha : ∀ k, k < A.length → ad' k = ad k) (h : ∀ x ∈ A, xj_wc A.length x) : xj_w g ad' A = xj_w g ad A := by
  apply List.ext_getElem?
  intro j
  rw [xj_w_get, xj_w_get]
  cases hj : A[j]? with
  | none => rfl
  | some x =>
    have hl : j < A.length := (List.getElem?_eq_some_iff.mp hj).1
    simp only [Option.map_some]
    rw [ha j hl, xj_c_same ha (h x (List.mem_of_getElem? hj))]
theorem xj_wv_mono {n n' : Nat} (h : n ≤ n') {v : Value} (hv : xj_wv n v) : xj_wv n' v := by
  cases v with
  | ref k => exact Nat.lt_of_lt_of_le hv h
  | _ => trivial
theorem xj_wst_mono {n n' : Nat} (h : n ≤ n') : ∀ {st : List Value}, xj_wst n st → xj_wst n' st
  | [], _ => trivial
  | _ :: _, hs => ⟨xj_wv_mono h hs.1, xj_wst_mono h hs.2⟩
theorem xj_wls_mono {n n' : Nat} (h : n ≤ n') {ls : List (Nat × Value)} (hl : xj_wls n ls) : xj_wls n' ls := fun q hq => xj_wv_mono h (hl q hq)
theorem xj_wc_mono {n n' : Nat} (h : n ≤ n') {x : xj_C} (hx : xj_wc n x) : xj_wc n' x := by
  match x, hx with
  | .inl (t, m, .inl f), _ => trivial
  | .inl (t, m, .inr (.inl f)), _ => trivial
  | .inl (t, m, .inr (.inr (.inl f))), _ => trivial
  | .inl (t, m, .inr (.inr (.inr (.inl f)))), _ => trivial
  | .inl (t, m, .inr (.inr (.inr (.inr f)))), hx => exact fun i k hk => Nat.lt_of_lt_of_le (hx i k hk) h
  | .inr (ci, fs), hx => exact fun v hv => xj_wv_mono h (hx v hv)
theorem xj_wst_mem {n : Nat} : ∀ {st : List Value}, (∀ v ∈ st, xj_wv n v) → xj_wst n st
  | [], _ => trivial
  | v :: r, h => ⟨h v List.mem_cons_self, xj_wst_mem fun w hw => h w (List.mem_cons_of_mem _ hw)⟩
theorem xj_wst_app {n : Nat} : ∀ {a b : List Value}, xj_wst n (a ++ b) → xj_wst n a ∧ xj_wst n b
  | [], _, h => ⟨trivial, h⟩
  | _ :: _, _, h => ⟨⟨h.1, (xj_wst_app h.2).1⟩, (xj_wst_app h.2).2⟩
theorem xj_wst_of {n : Nat} : ∀ {st : List Value}, xj_wst n st → ∀ v ∈ st, xj_wv n v
  | _ :: _, h, v, hv => by
    rcases List.mem_cons.mp hv with rfl | hv
    · exact h.1
    · exact xj_wst_of h.2 v hv
/-! Reading and writing the cells. -/
def xj_o (a : Nat) : xj_Rf := some (.inl a)
def xj_gv (A : xj_H) (o : xj_Rf) (ci k : Nat) : Option Value := match o with
  | some (.inl a) => match A.1[a]? with
    | some (.inr q) => if q.1 = ci then q.2[k]? else none
    | _ => none
  | _ => none
def xj_gi (A : xj_H) (o : xj_Rf) (ci k : Nat) : Option Int32 := match xj_gv A o ci k with
  | some (.int x) => some x
  | _ => none
def xj_gl (A : xj_H) (o : xj_Rf) (ci k : Nat) : Option Int64 := match xj_gv A o ci k with
  | some (.long x) => some x
  | _ => none
def xj_vr (v : Value) : Option xj_Rf := match v with
  | .ref k => some (some (.inl k))
  | .retAddr i => some (some (.inr i))
  | .null => some none
  | _ => none
def xj_gr (A : xj_H) (o : xj_Rf) (ci k : Nat) : Option xj_Rf := (xj_gv A o ci k).bind xj_vr
def xj_pv (A : xj_H) (o : xj_Rf) (ci k : Nat) (v : Value) : Option xj_H := match o with
  | some (.inl a) => match A.1[a]? with
    | some (.inr q) => if q.1 = ci ∧ k < q.2.length then some (A.1.set a (.inr (ci, q.2.set k v)), A.2) else none
    | _ => none
  | _ => none
def xj_pz (A : xj_H) (o : xj_Rf) (ci k : Nat) (v : Int32) : Option xj_H := if v = 0 ∨ v = 1 then xj_pv A o ci k (.int v) else none
def xj_ar (A : xj_H) (o : xj_Rf) (t : Nat) : Option (Nat × (Nat → Int32)) := match o with
  | some (.inl a) => match A.1[a]? with
    | some (.inl (t', n, .inl f)) => if t' = t then some (n, f) else none
    | _ => none
  | _ => none
def xj_ai (A : xj_H) (o : xj_Rf) (t : Nat) (i : Int32) : Option Int32 := (xj_ar A o t).bind fun q => if i < 0 ∨ q.1 ≤ i.toNatClampNeg then none else some (q.2 i.toNatClampNeg)
def xj_as (A : xj_H) (o : xj_Rf) (t : Nat) (i x : Int32) : Option xj_H := match o with
  | some (.inl a) => match A.1[a]? with
    | some (.inl (t', n, .inl f)) => if t' = t ∧ ¬ (i < 0 ∨ n ≤ i.toNatClampNeg) then some (A.1.set a (.inl (t, n, .inl (upd f i.toNatClampNeg x))), A.2) else none
    | _ => none
  | _ => none
def xj_lai (A : xj_H) (o : xj_Rf) (i : Int32) : Option Int64 := match o with
  | some (.inl a) => match A.1[a]? with
    | some (.inl (t', n, .inr (.inl f))) => if t' = 3 ∧ ¬ (i < 0 ∨ n ≤ i.toNatClampNeg) then some (f i.toNatClampNeg) else none
    | _ => none
  | _ => none
def xj_las (A : xj_H) (o : xj_Rf) (i : Int32) (x : Int64) : Option xj_H := match o with
  | some (.inl a) => match A.1[a]? with
    | some (.inl (t', n, .inr (.inl f))) => if t' = 3 ∧ ¬ (i < 0 ∨ n ≤ i.toNatClampNeg) then some (A.1.set a (.inl (3, n, .inr (.inl (vp_updL f i.toNatClampNeg x)))), A.2) else none
    | _ => none
  | _ => none
def xj_ral (A : xj_H) (o : xj_Rf) (i : Int32) : Option xj_Rf := match o with
  | some (.inl a) => match A.1[a]? with
    | some (.inl (t', n, .inr (.inr (.inr (.inr f))))) => if t' = 4 ∧ ¬ (i < 0 ∨ n ≤ i.toNatClampNeg) then some ((f i.toNatClampNeg).map .inl) else none
    | _ => none
  | _ => none
def xj_ras (A : xj_H) (o : xj_Rf) (i : Int32) (ci : Nat) (v : xj_Rf) : Option xj_H := match o, v with
  | some (.inl a), some (.inl b) => match A.1[a]?, A.1[b]? with
    | some (.inl (t', n, .inr (.inr (.inr (.inr f))))), some (.inr q) => if t' = 4 ∧ q.1 = ci ∧ ¬ (i < 0 ∨ n ≤ i.toNatClampNeg) then some (A.1.set a (.inl (4, n, .inr (.inr (.inr (.inr (va_up f i.toNatClampNeg (some b))))))), A.2) else none
    | _, _ => none
  | _, _ => none
def xj_len (A : xj_H) (o : xj_Rf) (t : Nat) : Option Int32 := match o with
  | some (.inl a) => match A.1[a]? with
    | some (.inl (t', n, _)) => if t' = t then some (Int32.ofNat n) else none
    | _ => none
  | _ => none
def xj_mk (A : xj_H) (x : xj_C) (n : Nat) : Option xj_H := if 1 ≤ A.2.1 ∧ n ≤ A.2.2 then some (A.1 ++ [x], A.2.1 - 1, A.2.2 - n) else none
def xj_th (A : xj_H) (x : String) : Option xj_R := if 1 ≤ A.2.1 ∧ 6 ≤ A.2.2 then some (.inr x, (A.1, A.2.1 - 1, A.2.2 - 6)) else none
def xj_rz (v : Int32) (A : xj_H) : Option xj_R := if v = 0 ∨ v = 1 then some (.inl (some (.int v)), A) else none
/-! What a call's result goes on with. -/
def xj_bi (F : Option xj_R) (K : Int32 → xj_H → Option xj_R) : Option xj_R := match F with
  | some (.inl (some (.int v)), A) => K v A
  | some (.inr x, A) => some (.inr x, A)
  | _ => none
def xj_bl (F : Option xj_R) (K : Int64 → xj_H → Option xj_R) : Option xj_R := match F with
  | some (.inl (some (.long v)), A) => K v A
  | some (.inr x, A) => some (.inr x, A)
  | _ => none
def xj_br (F : Option xj_R) (K : xj_Rf → xj_H → Option xj_R) : Option xj_R := match F with
  | some (.inl (some v), A) => (xj_vr v).bind fun r => K r A
  | some (.inr x, A) => some (.inr x, A)
  | _ => none
def xj_bv (F : Option xj_R) (K : xj_H → Option xj_R) : Option xj_R := match F with
  | some (.inl none, A) => K A
  | some (.inr x, A) => some (.inr x, A)
  | _ => none
def xj_lk : List (Nat × Value) → Nat → Option Value
  | [], _ => none
  | q :: r, i => if q.1 = i then some q.2 else xj_lk r i
theorem xj_lk_mem : ∀ {ls : List (Nat × Value)} {i : Nat} {v : Value}, xj_lk ls i = some v → (i, v) ∈ ls
  | q :: r, i, v, h => by
    unfold xj_lk at h
    by_cases hq : q.1 = i
    · rw [if_pos hq] at h
      cases h
      subst hq
      exact List.mem_cons_self
    · rw [if_neg hq] at h
      exact List.mem_cons_of_mem _ (xj_lk_mem h)
end
section
/-! The classes whose objects the run makes, the array types, and what lies outside the run's own cells. -/
def xk0_R : String := "RecurrenceBook"
def xk0_T : u_T := fun k => match k with
  | 0 => ("RecurrenceBook", "typed", "[C", true)
  | 1 => ("RecurrenceBook", "typedCount", "I", false)
  | 2 => ("RecurrenceBook", "present", "LRecurrenceBook$Zone;", true)
  | 3 => ("RecurrenceBook", "events", "[LRecurrenceBook$Event;", true)
  | 4 => ("RecurrenceBook", "eventCount", "I", false)
  | 5 => ("RecurrenceBook", "heads", "[I", true)
  | _ => ("RecurrenceBook", "latest", "LRecurrenceBook$Spans;", true)
def xk0_t : Nat → FieldType := fun k => match k with
  | 0 => (.array (.char))
  | 1 => .int
  | 2 => .object "RecurrenceBook$Zone"
  | 3 => (.array (.object "RecurrenceBook$Event"))
  | 4 => .int
  | 5 => (.array (.int))
  | _ => .object "RecurrenceBook$Spans"
theorem xk0_ty : ∀ j, j < 7 → parseFieldDescriptor (xk0_T j).2.2.1 = some (xk0_t j) := by decide +kernel
theorem xk0_nm : ∀ a, a < 7 → ∀ b, b < 7 → a ≠ b → (xk0_T a).2.1 ≠ (xk0_T b).2.1 := by decide +kernel
theorem xk0_in : ∀ w ∈ u_ws xk0_R xk0_T 7, w ∈ xj_ws := by
  have h : (u_ws xk0_R xk0_T 7) = [133, 135, 137, 139, 141, 143, 145].filterMap (fun i => tables_1[i]?) := by decide +kernel
  have hg : (u_ws xk0_R xk0_T 7).all xj_gd = true := by decide +kernel
  intro w hw
  have h1 := List.all_eq_true.mp hg w hw
  rw [h] at hw
  obtain ⟨i, -, hi⟩ := List.mem_filterMap.mp hw
  exact xm_t i hi h1
def xk1_R : String := "RecurrenceBook$Zone"
def xk1_T : u_T := fun k => match k with
  | 0 => ("RecurrenceBook$Zone", "standard", "I", false)
  | 1 => ("RecurrenceBook$Zone", "summer", "I", false)
  | 2 => ("RecurrenceBook$Zone", "begins", "[I", true)
  | _ => ("RecurrenceBook$Zone", "ends", "[I", true)
def xk1_t : Nat → FieldType := fun k => match k with
  | 0 => .int
  | 1 => .int
  | 2 => (.array (.int))
  | _ => (.array (.int))
theorem xk1_ty : ∀ j, j < 4 → parseFieldDescriptor (xk1_T j).2.2.1 = some (xk1_t j) := by decide +kernel
theorem xk1_nm : ∀ a, a < 4 → ∀ b, b < 4 → a ≠ b → (xk1_T a).2.1 ≠ (xk1_T b).2.1 := by decide +kernel
theorem xk1_in : ∀ w ∈ u_ws xk1_R xk1_T 4, w ∈ xj_ws := by
  have h : (u_ws xk1_R xk1_T 4) = [41, 43, 45, 47].filterMap (fun i => tables_1[i]?) := by decide +kernel
  have hg : (u_ws xk1_R xk1_T 4).all xj_gd = true := by decide +kernel
  intro w hw
  have h1 := List.all_eq_true.mp hg w hw
  rw [h] at hw
  obtain ⟨i, -, hi⟩ := List.mem_filterMap.mp hw
  exact xm_t i hi h1
def xk2_R : String := "RecurrenceBook$Event"
def xk2_T : u_T := fun k => match k with
  | 0 => ("RecurrenceBook$Event", "days", "[I", true)
  | 1 => ("RecurrenceBook$Event", "starts", "[I", true)
  | 2 => ("RecurrenceBook$Event", "count", "I", false)
  | 3 => ("RecurrenceBook$Event", "excluded", "I", false)
  | 4 => ("RecurrenceBook$Event", "minute", "I", false)
  | _ => ("RecurrenceBook$Event", "length", "I", false)
def xk2_t : Nat → FieldType := fun k => match k with
  | 0 => (.array (.int))
  | 1 => (.array (.int))
  | 2 => .int
  | 3 => .int
  | 4 => .int
  | _ => .int
theorem xk2_ty : ∀ j, j < 6 → parseFieldDescriptor (xk2_T j).2.2.1 = some (xk2_t j) := by decide +kernel
theorem xk2_nm : ∀ a, a < 6 → ∀ b, b < 6 → a ≠ b → (xk2_T a).2.1 ≠ (xk2_T b).2.1 := by decide +kernel
theorem xk2_in : ∀ w ∈ u_ws xk2_R xk2_T 6, w ∈ xj_ws := by
  have h : (u_ws xk2_R xk2_T 6) = [88, 90, 92, 94, 96, 98].filterMap (fun i => tables_1[i]?) := by decide +kernel
  have hg : (u_ws xk2_R xk2_T 6).all xj_gd = true := by decide +kernel
  intro w hw
  have h1 := List.all_eq_true.mp hg w hw
  rw [h] at hw
  obtain ⟨i, -, hi⟩ := List.mem_filterMap.mp hw
  exact xm_t i hi h1
def xk3_R : String := "RecurrenceBook$Spans"
def xk3_T : u_T := fun k => match k with
  | 0 => ("RecurrenceBook$Spans", "begins", "[I", true)
  | 1 => ("RecurrenceBook$Spans", "ends", "[I", true)
  | 2 => ("RecurrenceBook$Spans", "count", "I", false)
  | 3 => ("RecurrenceBook$Spans", "from", "I", false)
  | _ => ("RecurrenceBook$Spans", "to", "I", false)
def xk3_t : Nat → FieldType := fun k => match k with
  | 0 => (.array (.int))
  | 1 => (.array (.int))
  | 2 => .int
  | 3 => .int
  | _ => .int
theorem xk3_ty : ∀ j, j < 5 → parseFieldDescriptor (xk3_T j).2.2.1 = some (xk3_t j) := by decide +kernel
theorem xk3_nm : ∀ a, a < 5 → ∀ b, b < 5 → a ≠ b → (xk3_T a).2.1 ≠ (xk3_T b).2.1 := by decide +kernel
theorem xk3_in : ∀ w ∈ u_ws xk3_R xk3_T 5, w ∈ xj_ws := by
  have h : (u_ws xk3_R xk3_T 5) = [115, 117, 119, 121, 123].filterMap (fun i => tables_1[i]?) := by decide +kernel
  have hg : (u_ws xk3_R xk3_T 5).all xj_gd = true := by decide +kernel
  intro w hw
  have h1 := List.all_eq_true.mp hg w hw
  rw [h] at hw
  obtain ⟨i, -, hi⟩ := List.mem_filterMap.mp hw
  exact xm_t i hi h1
def xk4_R : String := "RecurrenceBook$Rule"
def xk4_T : u_T := fun k => match k with
  | 0 => ("RecurrenceBook$Rule", "frequency", "LRecurrenceBook$Frequency;", false)
  | 1 => ("RecurrenceBook$Rule", "interval", "I", false)
  | 2 => ("RecurrenceBook$Rule", "count", "I", false)
  | 3 => ("RecurrenceBook$Rule", "hasUntil", "Z", false)
  | 4 => ("RecurrenceBook$Rule", "until", "I", false)
  | 5 => ("RecurrenceBook$Rule", "months", "I", false)
  | 6 => ("RecurrenceBook$Rule", "numbers", "I", false)
  | 7 => ("RecurrenceBook$Rule", "numbersFromEnd", "I", false)
  | 8 => ("RecurrenceBook$Rule", "weekdays", "I", false)
  | 9 => ("RecurrenceBook$Rule", "nth", "J", false)
  | _ => ("RecurrenceBook$Rule", "nthFromEnd", "J", false)
def xk4_t : Nat → FieldType := fun k => match k with
  | 0 => .object "RecurrenceBook$Frequency"
  | 1 => .int
  | 2 => .int
  | 3 => .boolean
  | 4 => .int
  | 5 => .int
  | 6 => .int
  | 7 => .int
  | 8 => .int
  | 9 => .long
  | _ => .long
theorem xk4_ty : ∀ j, j < 11 → parseFieldDescriptor (xk4_T j).2.2.1 = some (xk4_t j) := by decide +kernel
theorem xk4_nm : ∀ a, a < 11 → ∀ b, b < 11 → a ≠ b → (xk4_T a).2.1 ≠ (xk4_T b).2.1 := by decide +kernel
theorem xk4_in : ∀ w ∈ u_ws xk4_R xk4_T 11, w ∈ xj_ws := by
  have h : (u_ws xk4_R xk4_T 11) = [332, 334, 336, 338, 340, 342, 344, 346, 348, 350, 352].filterMap (fun i => tables_1[i]?) := by decide +kernel
  have hg : (u_ws xk4_R xk4_T 11).all xj_gd = true := by decide +kernel
  intro w hw
  have h1 := List.all_eq_true.mp hg w hw
  rw [h] at hw
  obtain ⟨i, -, hi⟩ := List.mem_filterMap.mp hw
  exact xm_t i hi h1
def xk5_R : String := "RecurrenceBook$RuleReader"
def xk5_T : u_T := fun k => match k with
  | 0 => ("RecurrenceBook$RuleReader", "text", "[C", true)
  | 1 => ("RecurrenceBook$RuleReader", "length", "I", true)
  | 2 => ("RecurrenceBook$RuleReader", "at", "I", false)
  | _ => ("RecurrenceBook$RuleReader", "rule", "LRecurrenceBook$Rule;", true)
def xk5_t : Nat → FieldType := fun k => match k with
  | 0 => (.array (.char))
  | 1 => .int
  | 2 => .int
  | _ => .object "RecurrenceBook$Rule"
theorem xk5_ty : ∀ j, j < 4 → parseFieldDescriptor (xk5_T j).2.2.1 = some (xk5_t j) := by decide +kernel
theorem xk5_nm : ∀ a, a < 4 → ∀ b, b < 4 → a ≠ b → (xk5_T a).2.1 ≠ (xk5_T b).2.1 := by decide +kernel
theorem xk5_in : ∀ w ∈ u_ws xk5_R xk5_T 4, w ∈ xj_ws := by
  have h : (u_ws xk5_R xk5_T 4) = [360, 362, 364, 366].filterMap (fun i => tables_1[i]?) := by decide +kernel
  have hg : (u_ws xk5_R xk5_T 4).all xj_gd = true := by decide +kernel
  intro w hw
  have h1 := List.all_eq_true.mp hg w hw
  rw [h] at hw
  obtain ⟨i, -, hi⟩ := List.mem_filterMap.mp hw
  exact xm_t i hi h1
def xk6_R : String := "RecurrenceBook$Unfolding"
def xk6_T : u_T := fun k => match k with
  | 0 => ("RecurrenceBook$Unfolding", "rule", "LRecurrenceBook$Rule;", true)
  | 1 => ("RecurrenceBook$Unfolding", "first", "I", true)
  | 2 => ("RecurrenceBook$Unfolding", "firstMonth", "I", true)
  | 3 => ("RecurrenceBook$Unfolding", "firstNumber", "I", true)
  | 4 => ("RecurrenceBook$Unfolding", "firstWeekday", "I", true)
  | 5 => ("RecurrenceBook$Unfolding", "interval", "I", true)
  | 6 => ("RecurrenceBook$Unfolding", "limit", "I", true)
  | 7 => ("RecurrenceBook$Unfolding", "row", "[I", true)
  | 8 => ("RecurrenceBook$Unfolding", "count", "I", false)
  | 9 => ("RecurrenceBook$Unfolding", "monthStart", "I", false)
  | 10 => ("RecurrenceBook$Unfolding", "monthLength", "I", false)
  | _ => ("RecurrenceBook$Unfolding", "monthMeant", "Z", false)
def xk6_t : Nat → FieldType := fun k => match k with
  | 0 => .object "RecurrenceBook$Rule"
  | 1 => .int
  | 2 => .int
  | 3 => .int
  | 4 => .int
  | 5 => .int
  | 6 => .int
  | 7 => (.array (.int))
  | 8 => .int
  | 9 => .int
  | 10 => .int
  | _ => .boolean
theorem xk6_ty : ∀ j, j < 12 → parseFieldDescriptor (xk6_T j).2.2.1 = some (xk6_t j) := by decide +kernel
theorem xk6_nm : ∀ a, a < 12 → ∀ b, b < 12 → a ≠ b → (xk6_T a).2.1 ≠ (xk6_T b).2.1 := by decide +kernel
theorem xk6_in : ∀ w ∈ u_ws xk6_R xk6_T 12, w ∈ xj_ws := by
  have h : (u_ws xk6_R xk6_T 12) = [562, 564, 566, 568, 570, 572, 574, 576, 578, 580, 582, 584].filterMap (fun i => tables_1[i]?) := by decide +kernel
  have hg : (u_ws xk6_R xk6_T 12).all xj_gd = true := by decide +kernel
  intro w hw
  have h1 := List.all_eq_true.mp hg w hw
  rw [h] at hw
  obtain ⟨i, -, hi⟩ := List.mem_filterMap.mp hw
  exact xm_t i hi h1
def xk7_R : String := "RecurrenceBookModel"
def xk7_T : u_T := fun k => match k with
  | 0 => ("RecurrenceBookModel", "thrown", "I", false)
  | 1 => ("RecurrenceBookModel", "text", "[I", true)
  | 2 => ("RecurrenceBookModel", "typed", "I", false)
  | 3 => ("RecurrenceBookModel", "standard", "I", false)
  | 4 => ("RecurrenceBookModel", "summer", "I", false)
  | 5 => ("RecurrenceBookModel", "begins", "[I", true)
  | 6 => ("RecurrenceBookModel", "ends", "[I", true)
  | 7 => ("RecurrenceBookModel", "events", "I", false)
  | 8 => ("RecurrenceBookModel", "minutes", "[I", true)
  | 9 => ("RecurrenceBookModel", "lengths", "[I", true)
  | 10 => ("RecurrenceBookModel", "days", "[I", true)
  | 11 => ("RecurrenceBookModel", "many", "[I", true)
  | 12 => ("RecurrenceBookModel", "excluded", "[I", true)
  | 13 => ("RecurrenceBookModel", "excludes", "[I", true)
  | 14 => ("RecurrenceBookModel", "at", "I", false)
  | 15 => ("RecurrenceBookModel", "frequency", "I", false)
  | 16 => ("RecurrenceBookModel", "interval", "I", false)
  | 17 => ("RecurrenceBookModel", "count", "I", false)
  | 18 => ("RecurrenceBookModel", "until", "I", false)
  | 19 => ("RecurrenceBookModel", "byMonth", "Z", false)
  | 20 => ("RecurrenceBookModel", "months", "[Z", true)
  | 21 => ("RecurrenceBookModel", "monthDays", "[I", true)
  | 22 => ("RecurrenceBookModel", "monthDayCount", "I", false)
  | 23 => ("RecurrenceBookModel", "weekdays", "[I", true)
  | 24 => ("RecurrenceBookModel", "nths", "[I", true)
  | 25 => ("RecurrenceBookModel", "weekdayCount", "I", false)
  | 26 => ("RecurrenceBookModel", "year", "I", false)
  | 27 => ("RecurrenceBookModel", "month", "I", false)
  | 28 => ("RecurrenceBookModel", "number", "I", false)
  | 29 => ("RecurrenceBookModel", "firstDay", "I", false)
  | 30 => ("RecurrenceBookModel", "firstYear", "I", false)
  | 31 => ("RecurrenceBookModel", "firstMonth", "I", false)
  | 32 => ("RecurrenceBookModel", "firstNumber", "I", false)
  | 33 => ("RecurrenceBookModel", "spans", "I", false)
  | 34 => ("RecurrenceBookModel", "spanFrom", "[I", true)
  | _ => ("RecurrenceBookModel", "spanTo", "[I", true)
def xk7_t : Nat → FieldType := fun k => match k with
  | 0 => .int
  | 1 => (.array (.int))
  | 2 => .int
  | 3 => .int
  | 4 => .int
  | 5 => (.array (.int))
  | 6 => (.array (.int))
  | 7 => .int
  | 8 => (.array (.int))
  | 9 => (.array (.int))
  | 10 => (.array (.int))
  | 11 => (.array (.int))
  | 12 => (.array (.int))
  | 13 => (.array (.int))
  | 14 => .int
  | 15 => .int
  | 16 => .int
  | 17 => .int
  | 18 => .int
  | 19 => .boolean
  | 20 => (.array (.boolean))
  | 21 => (.array (.int))
  | 22 => .int
  | 23 => (.array (.int))
  | 24 => (.array (.int))
  | 25 => .int
  | 26 => .int
  | 27 => .int
  | 28 => .int
  | 29 => .int
  | 30 => .int
  | 31 => .int
  | 32 => .int
  | 33 => .int
  | 34 => (.array (.int))
  | _ => (.array (.int))
theorem xk7_ty : ∀ j, j < 36 → parseFieldDescriptor (xk7_T j).2.2.1 = some (xk7_t j) := by decide +kernel
theorem xk7_nm : ∀ a, a < 36 → ∀ b, b < 36 → a ≠ b → (xk7_T a).2.1 ≠ (xk7_T b).2.1 := by decide +kernel
theorem xk7_in : ∀ w ∈ u_ws xk7_R xk7_T 36, w ∈ xj_ws := by
  have h : (u_ws xk7_R xk7_T 36) = [811, 813, 815, 817, 819, 821, 823, 825, 827, 829, 831, 833, 835, 837, 839, 841, 843, 845, 847, 849, 851, 853, 855, 857, 859, 861, 863, 865, 867, 869, 871, 873, 875, 877, 879, 881].filterMap (fun i => tables_1[i]?) := by decide +kernel
  have hg : (u_ws xk7_R xk7_T 36).all xj_gd = true := by decide +kernel
  intro w hw
  have h1 := List.all_eq_true.mp hg w hw
  rw [h] at hw
  obtain ⟨i, -, hi⟩ := List.mem_filterMap.mp hw
  exact xm_t i hi h1
def xj_cl : List vw_C := [(xk0_R, xk0_T, 7), (xk1_R, xk1_T, 4), (xk2_R, xk2_T, 6), (xk3_R, xk3_T, 5), (xk4_R, xk4_T, 11), (xk5_R, xk5_T, 4), (xk6_R, xk6_T, 12), (xk7_R, xk7_T, 36)]
def xj_en : String := "RecurrenceBook$Event"
def xj_tys (g : va_G × (Nat → ClassId) × (Nat → Nat) × (Nat → Int32) × Nat) : List (ClassId × FieldType) := [(g.2.1 0, .int), (g.2.1 1, .char), (g.2.1 2, .boolean), (g.2.1 3, .long), (g.2.1 4, .object xj_en)]
def xj_sr : List (String × Nat × Nat × String) := [("RecurrenceBook", 55, 0, "offset"), ("RecurrenceBook", 63, 1, "month"), ("RecurrenceBook", 65, 2, "number of the Sunday"), ("RecurrenceBook", 73, 3, "no room for an event"), ("RecurrenceBook", 84, 4, "day, minute or length"), ("RecurrenceBook$RuleReader", 52, 5, "FREQ="), ("RecurrenceBook$RuleReader", 107, 6, "DAILY"), ("RecurrenceBook$RuleReader", 108, 7, "WEEKLY"), ("RecurrenceBook$RuleReader", 112, 8, "MONTHLY"), ("RecurrenceBook$RuleReader", 116, 9, "YEARLY"), ("RecurrenceBook$RuleReader", 61, 10, "INTERVAL="), ("RecurrenceBook$RuleReader", 69, 11, "COUNT="), ("RecurrenceBook$RuleReader", 74, 12, "UNTIL="), ("RecurrenceBook$RuleReader", 83, 13, "BYDAY="), ("RecurrenceBook$RuleReader", 152, 14, "MOTUWETHFRSASU"), ("RecurrenceBook$RuleReader", 91, 15, "BYMONTHDAY="), ("RecurrenceBook$RuleReader", 99, 16, "BYMONTH="), ("RecurrenceBook", 90, 17, "no rule"), ("RecurrenceBook", 178, 18, "no such event"), ("RecurrenceBook", 180, 19, "no such time"), ("RecurrenceBook", 144, 20, "width"), ("RecurrenceBook", 165, 21, "no such span")]
def xj_sl : List Nat := [6, 5, 20, 20, 21, 5, 5, 6, 7, 6, 9, 6, 6, 6, 14, 11, 8, 7, 13, 12, 5, 12]
def xj_sb : List (List Int32) := [[111, 102, 102, 115, 101, 116], [109, 111, 110, 116, 104], [110, 117, 109, 98, 101, 114, 32, 111, 102, 32, 116, 104, 101, 32, 83, 117, 110, 100, 97, 121], [110, 111, 32, 114, 111, 111, 109, 32, 102, 111, 114, 32, 97, 110, 32, 101, 118, 101, 110, 116], [100, 97, 121, 44, 32, 109, 105, 110, 117, 116, 101, 32, 111, 114, 32, 108, 101, 110, 103, 116, 104], [70, 82, 69, 81, 61], [68, 65, 73, 76, 89], [87, 69, 69, 75, 76, 89], [77, 79, 78, 84, 72, 76, 89], [89, 69, 65, 82, 76, 89], [73, 78, 84, 69, 82, 86, 65, 76, 61], [67, 79, 85, 78, 84, 61], [85, 78, 84, 73, 76, 61], [66, 89, 68, 65, 89, 61], [77, 79, 84, 85, 87, 69, 84, 72, 70, 82, 83, 65, 83, 85], [66, 89, 77, 79, 78, 84, 72, 68, 65, 89, 61], [66, 89, 77, 79, 78, 84, 72, 61], [110, 111, 32, 114, 117, 108, 101], [110, 111, 32, 115, 117, 99, 104, 32, 101, 118, 101, 110, 116], [110, 111, 32, 115, 117, 99, 104, 32, 116, 105, 109, 101], [119, 105, 100, 116, 104], [110, 111, 32, 115, 117, 99, 104, 32, 115, 112, 97, 110]]
def xj_dm : List Int32 := [0, 31, 59, 90, 120, 151, 181, 212, 243, 273, 304, 334]
def xj_fq : String := "RecurrenceBook$Frequency"
def xj_fn : List String := ["DAILY", "WEEKLY", "MONTHLY", "YEARLY"]
def xj_jp : String := "jdk/internal/util/Preconditions"
def xj_jf : String := "Ljava/util/function/BiFunction;"
/-- a static field of a class, where it lies: null or some reference -/
def xj_L (C n d : String) (A : Nat → Prop) (U : State) (H : Heap) : Prop := ∃ (c : ClassId) (k : Class) (i : Nat) (f : Field) (a : Nat) (cell : Cell) (v : Value), U.vm.findClass C = some c ∧ U.fieldFound? C n d = some (c, k, i, f) ∧ f.isStatic = true ∧ k.statics = some a ∧ H[a]? = some cell ∧ cell.vm.isStatics = true ∧ cell.cls = c ∧ f.slot < cell.slots.size ∧ k.staticTypes[f.slot]? = some f.type ∧ cell.slots[f.slot]? = some v ∧ (v = .null ∨ ∃ b, v = .ref b) ∧ ¬ A a
theorem xj_L.moved {C n d : String} {A : Nat → Prop} {u U : State} {H : Heap} (hvm : u.vm.Alike U.vm) (h : xj_L C n d A u H) : xj_L C n d A U H := by
  obtain ⟨c, k, i, f, a, cell, v, h1, h2, h3, h4, h5, h6, h7, h8, h9, h10⟩ := h
  obtain ⟨k', hi', he⟩ := State.fieldFound?_setVm hvm h2
  exact ⟨c, k', i, f, a, cell, v, by rw [hvm.findClass]; exact h1, hi', h3, by rw [he]; exact h4, h5, h6, h7, h8, by rw [he]; exact h9, h10⟩
theorem xj_L.kept {C n d : String} {A : Nat → Prop} {U : State} {H H1 : Heap} (h : xj_L C n d A U H) (hq : ∀ a : Nat, a < H.size → ¬ A a → H1[a]? = H[a]?) : xj_L C n d A U H1 := by
  obtain ⟨c, k, i, f, a, cell, v, h1, h2, h3, h4, h5, h6, h7, h8, h9, h10, h11, h12⟩ := h
  exact ⟨c, k, i, f, a, cell, v, h1, h2, h3, h4, by rw [hq a (Array.getElem?_eq_some_iff.mp h5).1 h12]; exact h5, h6, h7, h8, h9, h10, h11, h12⟩
theorem xj_L.narrow {C n d : String} {A B : Nat → Prop} {U : State} {H : Heap} (h : xj_L C n d A U H) (hAB : ∀ q, B q → A q) : xj_L C n d B U H := by
  obtain ⟨c, k, i, f, a, cell, v, h1, h2, h3, h4, h5, h6, h7, h8, h9, h10, h11, h12⟩ := h
  exact ⟨c, k, i, f, a, cell, v, h1, h2, h3, h4, h5, h6, h7, h8, h9, h10, h11, fun q => h12 (hAB _ q)⟩
theorem xj_L.lays {C n d : String} {A : Nat → Prop} {s : State} {args : Array Value} (h : xj_L C n d A s s.heap) : (Cond.laysStatic C n d).before args s = true := by
  obtain ⟨c, k, i, f, a, cell, v, h1, h2, h3, h4, h5, h6, h7, h8, h9, -⟩ := h
  show (Cond.laysStatic C n d).holds args s none s [] = true
  exact Cond.laysStatic_of h1 h2 h3 h4 h5 h6 h7 h8 h9
theorem xj_L.isRef {C n d : String} {A : Nat → Prop} {s : State} {args : Array Value} (h : xj_L C n d A s s.heap) : (Cond.isRef (.static C n d)).before args s = true := by
  obtain ⟨c, k, i, f, a, cell, v, h1, h2, h3, h4, h5, h6, h7, h8, h9, h10, h11, h12⟩ := h
  have he : (Term.static C n d).eval args s none [] s = some v := by
    simp [Term.eval, State.fieldNamed?, h2, h3, h4, h5, h6, h10]
  rcases h11 with rfl | ⟨b, rfl⟩ <;> simp [Cond.before, Cond.holds, Cond.value, he]
theorem xj_L.of {C n d : String} {A : Nat → Prop} {s : State} {args : Array Value} (hl : (Cond.laysStatic C n d).before args s = true) (h : (Cond.isRef (.static C n d)).before args s = true) (hA : ∀ a : Nat, a < s.heap.size → ¬ A a) : xj_L C n d A s s.heap := by
  obtain ⟨c, k, i, f, a, cell, h1, h2, h3, h4, h5, h6, h7, h8, h9⟩ := Cond.laysStatic_spec hl
  have hv : cell.slots[f.slot]? = some (cell.slots[f.slot]'h8) := Array.getElem?_eq_getElem h8
  generalize cell.slots[f.slot]'h8 = v at hv
  have he : (Term.static C n d).eval args s none [] s = some v := by
    simp [Term.eval, State.fieldNamed?, h2, h3, h4, h5, h6, hv]
  refine ⟨c, k, i, f, a, cell, v, h1, h2, h3, h4, h5, h6, h7, h8, h9, hv, ?_, hA a (Array.getElem?_eq_some_iff.mp h5).1⟩
  simp only [Cond.before, Cond.holds, Cond.value, he] at h
  cases v with
  | null => exact Or.inl rfl
  | ref b => exact Or.inr ⟨b, rfl⟩
  | _ => simp at h
/-- what the run reads outside its own cells: strings, enum constants, a static table, the script -/
def xj_S (g : va_G × (Nat → ClassId) × (Nat → Nat) × (Nat → Int32) × Nat) (A : Nat → Prop) (U : State) (H : Heap) : Prop :=
  vk_S 22 xj_sl xj_sb (fun i => g.2.2.1 (100 + i)) (fun i => g.2.2.1 (300 + i)) A U H ∧ va_AO xj_en U ∧
  xj_L Bundle.tN "UNASSIGNED_STACK" Bundle.steD A U H ∧ xj_L Bundle.tN "SUPPRESSED_SENTINEL" Bundle.listD A U H ∧
  va_En xj_fq "LRecurrenceBook$Frequency;" xj_fn [] (fun i => g.2.2.1 i) A U H ∧
  va_Z "RecurrenceBook$Dates" "DAYS_BEFORE_MONTH" "[I" (.ref (g.2.2.1 50)) A U H ∧ va_T .int (g.2.2.1 50) 12 (fun j => .int (xj_dm.getD j 0)) A U H ∧
  (∀ q ∈ xj_sr, vk_R q.1 q.2.1 q.2.2.2 (g.2.2.1 (100 + q.2.2.1)) U) ∧
  va_Z "java/lang/String" "COMPACT_STRINGS" "Z" (.int 1) A U H ∧
  (va_Z xj_jp "SIOOBE_FORMATTER" xj_jf .null A U H ∨ va_Z xj_jp "SIOOBE_FORMATTER" xj_jf (.ref (g.2.2.1 60)) A U H) ∧
  (va_X (g.2.2.1 200) g.2.2.2.2 g.2.2.2.1 U H ∧ ¬ A (g.2.2.1 200)) ∧
  va_Nc "java/lang/IllegalArgumentException" "java/lang/IllegalStateException" U
theorem xj_S.warm {g : va_G × (Nat → ClassId) × (Nat → Nat) × (Nat → Int32) × Nat} {A : Nat → Prop} {s U : State} {H : Heap} (hW : s.WarmedH U.vm) (h : xj_S g A s H) : xj_S g A U H := by
  obtain ⟨h1, h2, h3, h4, h5, h6, h7, h8, h9, h10, h11, h12⟩ := h
  have ha := hW.alike
  exact ⟨vk_S.moved ha h1, va_AO.moved ha h2, xj_L.moved ha h3, xj_L.moved ha h4, va_En.moved ha h5, va_Z.moved ha h6, va_T.moved ha h7, fun q hq => vk_R.warm hW (h8 q hq), va_Z.moved ha h9, h10.elim (fun h => Or.inl (va_Z.moved ha h)) (fun h => Or.inr (va_Z.moved ha h)), ⟨va_X.moved ha h11.1, h11.2⟩, va_Nc.moved ha h12⟩
theorem xj_S.kept {g : va_G × (Nat → ClassId) × (Nat → Nat) × (Nat → Int32) × Nat} {A : Nat → Prop} {U : State} {H H1 : Heap} (h : xj_S g A U H) (hq : ∀ a : Nat, a < H.size → ¬ A a → H1[a]? = H[a]?) : xj_S g A U H1 := by
  obtain ⟨h1, h2, h3, h4, h5, h6, h7, h8, h9, h10, h11, h12⟩ := h
  have hb : g.2.2.1 200 < H.size := by
    obtain ⟨scr, hs, -⟩ := h11.1
    exact (Array.getElem?_eq_some_iff.mp hs).1
  exact ⟨vk_S.kept h1 hq, h2, xj_L.kept h3 hq, xj_L.kept h4 hq, va_En.kept h5 hq, va_Z.kept h6 hq, va_T.kept h7 hq, h8, va_Z.kept h9 hq, h10.elim (fun h => Or.inl (va_Z.kept h hq)) (fun h => Or.inr (va_Z.kept h hq)), ⟨va_X.kept h11.1 (hq _ hb h11.2), h11.2⟩, h12⟩
theorem xj_S.narrow {g : va_G × (Nat → ClassId) × (Nat → Nat) × (Nat → Int32) × Nat} {A B : Nat → Prop} {U : State} {H : Heap} (h : xj_S g A U H) (hAB : ∀ q, B q → A q) : xj_S g B U H := by
  obtain ⟨h1, h2, h3, h4, h5, h6, h7, h8, h9, h10, h11, h12⟩ := h
  exact ⟨vk_S.narrow h1 hAB, h2, xj_L.narrow h3 hAB, xj_L.narrow h4 hAB, va_En.narrow h5 hAB, va_Z.narrow h6 hAB, va_T.narrow h7 hAB, h8, va_Z.narrow h9 hAB, h10.elim (fun h => Or.inl (va_Z.narrow h hAB)) (fun h => Or.inr (va_Z.narrow h hAB)), ⟨h11.1, fun q => h11.2 (hAB _ q)⟩, h12⟩
theorem xj_S.str {g : va_G × (Nat → ClassId) × (Nat → Nat) × (Nat → Int32) × Nat} {A : Nat → Prop} {U : State} {H : Heap} (h : xj_S g A U H) {own tx : String} {k i : Nat} (hq : (own, k, i, tx) ∈ xj_sr) : vk_R own k tx (g.2.2.1 (100 + i)) U := h.2.2.2.2.2.2.2.1 _ hq
end
section
/-! The words of the tables, and how they ride on. -/
def xj_T (U : State) : Prop := (∀ w ∈ xj_ws, ∀ a : Array Value, w.before a U = true) ∧ ∀ w ∈ xj_nw, va_Nw w U
theorem xj_T.warm {s U : State} (hW : s.WarmedH U.vm) (h : xj_T s) : xj_T U := by
  refine ⟨fun w hw a => ?_, fun w hw => ?_⟩
  · rcases xj_ws_good w hw with hg | ⟨x, y, rfl⟩ | ⟨x, rfl⟩
    · exact word_at hW (good_of_word hg) (h.1 w hw #[])
    · exact xj_cast hW.alike (h.1 _ hw #[])
    · exact va_Nw.use rfl (va_Nw.warmD hW (va_Nw.of rfl (h.1 _ hw #[])))
  rcases xj_nw_nest w hw with ⟨a, i, b, n, d, k, rfl⟩ | ⟨a, i, x, k, rfl⟩
  · exact va_Nw.warmF hW (h.2 _ hw)
  · exact va_Nw.warmM hW (h.2 _ hw)
def xj_cw (y : MethodName) (cc : ByteArray) (nL : Nat) (ret : Option FieldType) (hs : List (Nat × Nat × Nat × Nat)) : Cond := match hs with
  | [] => .code y cc nL ret
  | q :: r => .codeWith y cc nL ret (q :: r)
theorem xj_cw_spec {y : MethodName} {cc : ByteArray} {nL : Nat} {ret : Option FieldType} {hs : List (Nat × Nat × Nat × Nat)} {s : State} {m : MethodId} {args : Array Value} (hn : s.methodNamed? y = some m) (h : (xj_cw y cc nL ret hs).before args s = true) :
    ∃ meth c, s.vm.method? m = some meth ∧ meth.code = some c ∧ c.code = cc ∧ c.maxLocals = nL ∧ meth.sig.returnType = ret ∧ meth.locks = false ∧ c.exceptionTable.toList = tableOf hs ∧ parseMethodDescriptor y.desc = some meth.sig := by
  cases hs with
  | nil =>
    obtain ⟨meth, c, h1, h2, h3, h4, h5, h6, h7, h8⟩ := Cond.code_spec hn h
    refine ⟨meth, c, h1, h2, h3, h4, h5, h6, ?_, h8⟩
    have : c.exceptionTable = #[] := by simpa [Array.isEmpty] using h7
    rw [this]; rfl
  | cons q r =>
    obtain ⟨m', meth, c, h0, h1, h2, h3, h4, h7, h5, h6, h8⟩ := Cond.codeWith_spec h
    cases hn.symm.trans h0
    exact ⟨meth, c, h1, h2, h3, h4, h5, h6, by rw [← h7, table_eq], h8⟩
theorem xj_cw_named {y : MethodName} {cc : ByteArray} {nL : Nat} {ret : Option FieldType} {hs : List (Nat × Nat × Nat × Nat)} {s : State} {args : Array Value} (h : (xj_cw y cc nL ret hs).before args s = true) : ∃ m, s.methodNamed? y = some m := by
  cases hs with
  | nil => exact Cond.code_named h
  | cons q r =>
    obtain ⟨m', meth, c, h0, -⟩ := Cond.codeWith_spec h
    exact ⟨m', h0⟩
/-! A frame: all that is fixed while a method's body runs. -/
abbrev xj_F : Type := Program × Env × Room × State × MethodId × Array Value × List Frame × Method × Code × xj_G × (Nat → Nat) × xj_H × xj_R
abbrev xf_p (z : xj_F) : Program := z.1
abbrev xf_e (z : xj_F) : Env := z.2.1
abbrev xf_R (z : xj_F) : Room := z.2.2.1
abbrev xf_s (z : xj_F) : State := z.2.2.2.1
abbrev xf_m (z : xj_F) : MethodId := z.2.2.2.2.1
abbrev xf_a (z : xj_F) : Array Value := z.2.2.2.2.2.1
abbrev xf_b (z : xj_F) : List Frame := z.2.2.2.2.2.2.1
abbrev xf_t (z : xj_F) : Method := z.2.2.2.2.2.2.2.1
abbrev xf_c (z : xj_F) : Code := z.2.2.2.2.2.2.2.2.1
abbrev xf_g (z : xj_F) : xj_G := z.2.2.2.2.2.2.2.2.2.1
abbrev xf_d (z : xj_F) : Nat → Nat := z.2.2.2.2.2.2.2.2.2.2.1
abbrev xf_H (z : xj_F) : xj_H := z.2.2.2.2.2.2.2.2.2.2.2.1
abbrev xf_r (z : xj_F) : xj_R := z.2.2.2.2.2.2.2.2.2.2.2.2
def xj_al (g : xj_G) (ad : Nat → Nat) (A : xj_H) (s : State) : Nat → Prop := va_A (xj_w g ad A.1) s.heap.size
def xj_rm (d : Nat) (A : xj_H) : Room := { frames := d, cells := A.2.1, slots := A.2.2, locals := 40 * d }
/-- how a frame ends: the outcome, and the cells behind it -/
def xj_O (g : xj_G) (ad : Nat → Nat) (r : xj_R) (s : State) (o : Outcome) (t : State) : Prop := match r.1 with
  | .inl v => o = .returned (v.map (xj_v g ad)) ∧ ∀ w, v = some w → xj_wv r.2.1.length w
  | .inr x => ∃ (a : Addr) (cell : Cell), o = .threw a ∧ t.heap[a]? = some cell ∧ cell.vm = .none ∧ s.vm.findClass x = some cell.cls
def xj_E (g : xj_G) (ad0 : Nat → Nat) (A0 : xj_H) (r : xj_R) (s : State) (o : Outcome) (t : State) : Prop :=
  ∃ (ad : Nat → Nat) (L : List Loc) (k n : Nat), (∀ j, j < A0.1.length → ad j = ad0 j) ∧ A0.1.length ≤ r.2.1.length ∧
    va_P g.1 xj_cl (xj_w g ad r.2.1) t.heap ∧ va_D (xj_al g ad0 A0 s) (xj_w g ad r.2.1) ∧ (∀ x ∈ r.2.1, xj_wc r.2.1.length x) ∧ va_F (xj_al g ad0 A0 s) s t ∧
    s.WarmedH t.vm ∧ s.sameButNew ({ t with vm := s.vm } : State) L k n ∧ (∀ q ∈ L, xj_al g ad0 A0 s q.base) ∧ k + r.2.2.1 ≤ A0.2.1 ∧ n + r.2.2.2 ≤ A0.2.2 ∧ xj_O g ad r s o t
def xj_Q (z : xj_F) (t : State) : Prop := ∃ o, t.status = .running ∧ Ended t (xf_b z) o ∧ xj_E (xf_g z) (xf_d z) (xf_H z) (xf_r z) (xf_s z) o t
/-- the cells stand in the heap -/
def xj_I (z : xj_F) (ad : Nat → Nat) (A : xj_H) (H : Heap) (locs : List Loc) (cells slots : Nat) : Prop :=
  (∀ j, j < (xf_H z).1.length → ad j = xf_d z j) ∧ (xf_H z).1.length ≤ A.1.length ∧
    va_P (xf_g z).1 xj_cl (xj_w (xf_g z) ad A.1) H ∧ va_D (xj_al (xf_g z) (xf_d z) (xf_H z) (xf_s z)) (xj_w (xf_g z) ad A.1) ∧ (∀ x ∈ A.1, xj_wc A.1.length x) ∧
    va_S (xj_al (xf_g z) (xf_d z) (xf_H z) (xf_s z)) (xf_s z).heap H locs ∧ cells + A.2.1 ≤ (xf_H z).2.1 ∧ slots + A.2.2 ≤ (xf_H z).2.2
def xj_W (l : Launch) (z : xj_F) (pc : Nat) (ls : List (Nat × Value)) (st : List Value) (A : xj_H) : Prop :=
  ∀ (ad : Nat → Nat) (H : Heap) (locs : List Loc) (cells slots : Nat) (lz : Array Slot), xj_I z ad A H locs cells slots → xj_wls A.1.length ls → xj_wst A.1.length st →
    lv_has lz (xf_c z).maxLocals (ls.map (fun q => (q.1, xj_v (xf_g z) ad q.2))) →
    W (xf_p z) l (xf_e z) (xf_R z) (xf_s z) (xf_m z) (xf_a z) (xf_b z) (xf_t z) (xf_c z) H locs cells slots (xj_Q z) (F0 (xf_m z) pc lz (st.map (xj_v (xf_g z) ad)))
/-- what holds of a frame of the method y -/
def xj_B (l : Launch) (y : MethodName) (cc : ByteArray) (nL : Nat) (ret : Option FieldType) (hs : List (Nat × Nat × Nat × Nat)) (d : Nat) (z : xj_F) : Prop :=
  (xf_p z).tables.exec = Jvm.exec ∧ (xf_c z).code = cc ∧ (xf_c z).maxLocals = nL ∧ (xf_t z).sig.returnType = ret ∧ (xf_t z).locks = false ∧ (xf_c z).exceptionTable.toList = tableOf hs ∧
    (xf_s z).vm.findClass y.cls = some (xf_m z).cls ∧ (xf_t z).name = y.name ∧ xj_T (xf_s z) ∧ va_K (xf_g z).1 xj_cl (xj_tys (xf_g z)) (xf_s z) ∧
    xj_S (xf_g z) (xj_al (xf_g z) (xf_d z) (xf_H z) (xf_s z)) (xf_s z) (xf_s z).heap ∧ va_P (xf_g z).1 xj_cl (xj_w (xf_g z) (xf_d z) (xf_H z).1) (xf_s z).heap ∧
    xf_R z = xj_rm d (xf_H z) ∧ (xf_e z).platform.stackTraces = false
def xj_pre (g : xj_G) (ad : Nat → Nat) (A : xj_H) (U : State) : Prop := xj_T U ∧ va_K g.1 xj_cl (xj_tys g) U ∧ xj_S g (xj_al g ad A U) U U.heap ∧ va_P g.1 xj_cl (xj_w g ad A.1) U.heap ∧ va_D (fun _ => True) (xj_w g ad A.1) ∧ ∀ x ∈ A.1, xj_wc A.1.length x
/-- a method's contract for arguments av and cells A: it ends with r -/
def xj_M (l : Launch) (y : MethodName) (cc : ByteArray) (nL : Nat) (ret : Option FieldType) (hs : List (Nat × Nat × Nat × Nat)) (d : Nat) (av : List Value) (A : xj_H) (r : xj_R) : Prop :=
  ∀ (g : xj_G) (ad : Nat → Nat), MetFree l y (headSpec [xj_cw y cc nL ret hs] (xj_rm d A)) (fun a U => a = (av.map (xj_v g ad)).toArray ∧ xj_wst A.1.length av ∧ xj_pre g ad A U) (fun _ _ _ _ _ => True) (fun _ U o t => xj_E g ad A r U o t)
theorem xj_lva (g : xj_G) (ad : Nat → Nat) : ∀ (i : Nat) (av : List Value), lv_args i (av.map (xj_v g ad)) = (lv_args i av).map (fun q => (q.1, xj_v g ad q.2))
  | _, [] => rfl
  | i, v :: vs => by
    simp only [List.map_cons, lv_args, xj_v_cat]
    rw [xj_lva g ad _ vs]
theorem xj_lva_mem : ∀ {i : Nat} {av : List Value} {q : Nat × Value}, q ∈ lv_args i av → q.2 ∈ av
  | i, v :: vs, q, h => by
    simp only [lv_args, List.mem_cons] at h
    rcases h with rfl | h
    · exact List.mem_cons_self
    · exact List.mem_cons_of_mem _ (xj_lva_mem h)
theorem xj_sl_len (g : xj_G) (ad : Nat → Nat) : ∀ av : List Value, (lg_sl (av.map (xj_v g ad))).length = (lg_sl av).length
  | [] => rfl
  | v :: vs => by
    have h := xj_sl_len g ad vs
    simp only [lg_sl, List.map_cons, List.flatMap_cons, List.length_append, xj_v_cat] at h ⊢
    rw [h]
    by_cases hc : v.category = 2 <;> simp [hc]
theorem xj_M.of {l : Launch} (hl : l.stackTraces = false) {y : MethodName} {cc : ByteArray} {nL : Nat} {ret : Option FieldType} {hs : List (Nat × Nat × Nat × Nat)} {d : Nat} {av : List Value} {A : xj_H} {r : xj_R} (hy : plainName y.cls = true) (hn : (lg_sl av).length ≤ nL)
    (body : ∀ z : xj_F, xj_B l y cc nL ret hs d z → xf_H z = A → xf_r z = r → xj_W l z 0 (lv_args 0 av) [] A) : xj_M l y cc nL ret hs d av A r := by
  intro g ad
  refine MetFree.of_bodyS (code := cc) (maxLocals := nL) (ret := ret) hy ?_ ?_
  · intro args s m h hn
    obtain ⟨meth, c, h1, h2, h3, h4, h5, h6, -, -⟩ := xj_cw_spec hn (atoms_spec (ws := [xj_cw y cc nL ret hs]) h _ List.mem_cons_self)
    exact ⟨meth, c, h1, h2, h3, h4, h5, h6⟩
  · intro p e s m args below meth c s₁ B hml ⟨ha, hwa, hT, hK, hS, hP, hD, hw⟩ _
    have hh0 : s₁.heap = s.heap := by rw [B.state]; rfl
    obtain ⟨meth', c', h1, h2, -, -, -, -, h7, -⟩ := xj_cw_spec B.named (atoms_spec (ws := [xj_cw y cc nL ret hs]) B.pre _ List.mem_cons_self)
    have X := Stand.of_body B
    cases B.method.symm.trans h1
    cases X.code.symm.trans h2
    have hnm := (name_of_methodNamed B.named B.method).1
    have htr : e.platform.stackTraces = false := by rw [X.admits.platform]; exact hl
    have hW := body (p, e, (headSpec [xj_cw y cc nL ret hs] (xj_rm d A)).room, s, m, args, below, meth, c, g, ad, A, r)
      ⟨B.exec, B.bytes, hml, B.returns, B.notSynchronized, h7, findClass_of_methodNamed B.named, hnm, hT, hK, hS, hP, rfl, htr⟩ rfl rfl
    have hlv := lv_entry (av.map (xj_v g ad)) (n := nL) (by rw [xj_sl_len]; exact hn)
    rw [xj_lva] at hlv
    have hk := hW ad s.heap [] 0 0 _ ⟨fun _ _ => rfl, Nat.le_refl _, hP, hD.self, hw, va_S.rf, by simp, by simp⟩ (fun q hq => xj_wst_of hwa _ (xj_lva_mem hq)) trivial (by
      show lv_has _ c.maxLocals _
      rw [hml]; exact hlv)
    obtain ⟨t, a1, o, b1, b2, b3⟩ := hk s₁ hh0 X
    refine ⟨t, o, ?_, b1, b2, b3⟩
    rw [ha, lg_entry_eq]
    exact a1
end
section
section Xrows
variable {l : Launch} {z : xj_F} {y0 : MethodName} {cc : ByteArray} {nL : Nat} {ret : Option FieldType} {hs : List (Nat × Nat × Nat × Nat)} {d pc : Nat} {ls : List (Nat × Value)} {st : List Value} {A : xj_H}
theorem xj_lk_at {lz : Array Slot} {n : Nat} {g : xj_G} {ad : Nat → Nat} {i : Nat} {v : Value} (h : lv_has lz n (ls.map (fun q => (q.1, xj_v g ad q.2)))) (hl : xj_lk ls i = some v) : lz[i]? = some (.val (xj_v g ad v)) :=
  h.2.2 (i, xj_v g ad v) (List.mem_map.mpr ⟨(i, v), xj_lk_mem hl, rfl⟩)
theorem xj_rv_cat (r : xj_Rf) : (xj_rv r).category = 1 := by
  match r with
  | none => rfl
  | some (.inl _) => rfl
  | some (.inr _) => rfl
def xj_nl (i : Nat) : List (Nat × Value) → Prop
  | [] => True
  | q :: r => (q.1 + 1 = i → q.2.category = 1) ∧ xj_nl i r
def xj_st1 (ls : List (Nat × Value)) (i : Nat) (v : Value) : List (Nat × Value) := (i, v) :: ls.filter (fun q => !(q.1 == i))
def xj_st2 (ls : List (Nat × Value)) (i : Nat) (v : Value) : List (Nat × Value) := (i, v) :: ls.filter (fun q => !(q.1 == i) && !(q.1 == i + 1))
theorem xj_f1 (g : xj_G) (ad : Nat → Nat) (i : Nat) : ∀ {ls : List (Nat × Value)}, xj_nl i ls → (ls.map (fun q => (q.1, xj_v g ad q.2))).filter (fun q => !(q.1 == i) && !(q.1 + 1 == i && q.2.category == 2)) = (ls.filter (fun q => !(q.1 == i))).map (fun q => (q.1, xj_v g ad q.2))
  | [], _ => rfl
  | q :: r, h => by
    have ih := xj_f1 g ad i h.2
    rw [List.map_cons, List.filter_cons, List.filter_cons, ih]
    have hc : ((q.1 + 1 == i) && ((xj_v g ad q.2).category == 2)) = false := by
      by_cases hq : q.1 + 1 = i
      · rw [xj_v_cat, h.1 hq]; simp
      · simp [hq]
    simp only [hc, Bool.not_false, Bool.and_true]
    by_cases hi : q.1 = i <;> simp [hi]
theorem xj_f2 (g : xj_G) (ad : Nat → Nat) (i : Nat) : ∀ {ls : List (Nat × Value)}, xj_nl i ls → (ls.map (fun q => (q.1, xj_v g ad q.2))).filter (fun q => !(q.1 == i) && (!(q.1 == i + 1) && !(q.1 + 1 == i && q.2.category == 2))) = (ls.filter (fun q => !(q.1 == i) && !(q.1 == i + 1))).map (fun q => (q.1, xj_v g ad q.2))
  | [], _ => rfl
  | q :: r, h => by
    have ih := xj_f2 g ad i h.2
    rw [List.map_cons, List.filter_cons, List.filter_cons, ih]
    have hc : ((q.1 + 1 == i) && ((xj_v g ad q.2).category == 2)) = false := by
      by_cases hq : q.1 + 1 = i
      · rw [xj_v_cat, h.1 hq]; simp
      · simp [hq]
    simp only [hc, Bool.not_false, Bool.and_true]
    by_cases hi : q.1 = i
    · simp [hi]
    · by_cases hj : q.1 = i + 1 <;> simp [hi, hj]
theorem xj_wls_st1 {n i : Nat} {v : Value} {ls' : List (Nat × Value)} (h : xj_wls n ls) (hv : xj_wv n v) (he : xj_st1 ls i v = ls') : xj_wls n ls' := by
  subst he
  intro q hq
  rcases List.mem_cons.mp hq with rfl | hq
  · exact hv
  · exact h q (List.mem_filter.mp hq).1
theorem xj_wls_st2 {n i : Nat} {v : Value} {ls' : List (Nat × Value)} (h : xj_wls n ls) (hv : xj_wv n v) (he : xj_st2 ls i v = ls') : xj_wls n ls' := by
  subst he
  intro q hq
  rcases List.mem_cons.mp hq with rfl | hq
  · exact hv
  · exact h q (List.mem_filter.mp hq).1
theorem xj_rv_wf {n : Nat} {i : Nat} : xj_wv n (xj_rv (some (.inr i))) := trivial
/-- fewer known values -/
theorem xg_sub {ls' : List (Nat × Value)} (ks : List Nat) (hk : lv_pick ls ks = ls') (k : xj_W l z pc ls' st A) : xj_W l z pc ls st A := by
  intro ad H locs cells slots lz hI hls hst hlv
  have hm : ∀ q ∈ ls', q ∈ ls := by
    intro q hq
    rw [← hk] at hq
    obtain ⟨i, -, hi⟩ := List.mem_filterMap.mp hq
    exact List.mem_of_getElem? hi
  exact k ad H locs cells slots lz hI (fun q hq => hls q (hm q hq)) hst ⟨hlv.1, hlv.2.1, fun q hq => by
    obtain ⟨q', h1, rfl⟩ := List.mem_map.mp hq
    exact hlv.2.2 _ (List.mem_map.mpr ⟨q', hm q' h1, rfl⟩)⟩
theorem xg_iconst (B : xj_B l y0 cc nL ret hs d z) {n : Int} {v : Int32} (hd : decode cc pc = .ok (.iconst n, 1)) (hv : Int32.ofInt n = v) (k : xj_W l z (pc + 1) ls (.int v :: st) A) : xj_W l z pc ls (st) A := by
  intro ad H locs cells slots lz hI hls hst hlv
  exact lv_iconst B.1 B.2.1 hd hv (k ad H locs cells slots lz hI hls ⟨trivial, hst⟩ hlv)
theorem xg_bipush (B : xj_B l y0 cc nL ret hs d z) {n : Int} {v : Int32} (hd : decode cc pc = .ok (.bipush n, 2)) (hv : (Int8.ofInt n).toInt32 = v) (k : xj_W l z (pc + 2) ls (.int v :: st) A) : xj_W l z pc ls (st) A := by
  intro ad H locs cells slots lz hI hls hst hlv
  exact lv_bipush B.1 B.2.1 hd hv (k ad H locs cells slots lz hI hls ⟨trivial, hst⟩ hlv)
theorem xg_sipush (B : xj_B l y0 cc nL ret hs d z) {n : Int} {v : Int32} (hd : decode cc pc = .ok (.sipush n, 3)) (hv : (Int16.ofInt n).toInt32 = v) (k : xj_W l z (pc + 3) ls (.int v :: st) A) : xj_W l z pc ls (st) A := by
  intro ad H locs cells slots lz hI hls hst hlv
  exact lv_sipush B.1 B.2.1 hd hv (k ad H locs cells slots lz hI hls ⟨trivial, hst⟩ hlv)
theorem xg_lconst (B : xj_B l y0 cc nL ret hs d z) {n : Fin 2} {v : Int64} (hd : decode cc pc = .ok (.lconst n, 1)) (hv : Int64.ofNat (n : Nat) = v) (k : xj_W l z (pc + 1) ls (.long v :: st) A) : xj_W l z pc ls (st) A := by
  intro ad H locs cells slots lz hI hls hst hlv
  exact lv_lconst B.1 B.2.1 hd hv (k ad H locs cells slots lz hI hls ⟨trivial, hst⟩ hlv)
theorem xg_null (B : xj_B l y0 cc nL ret hs d z)  (hd : decode cc pc = .ok (.aconst_null, 1)) (k : xj_W l z (pc + 1) ls (xj_rv none :: st) A) : xj_W l z pc ls (st) A := by
  intro ad H locs cells slots lz hI hls hst hlv
  exact lv_null B.1 B.2.1 hd (k ad H locs cells slots lz hI hls ⟨trivial, hst⟩ hlv)
theorem xg_ldc (B : xj_B l y0 cc nL ret hs d z) {index : Nat} {v : Int32} (hd : decode cc pc = .ok (.ldc index, 2)) (hw : Cond.constant y0.cls index v ∈ xj_ws) (k : xj_W l z (pc + 2) ls (.int v :: st) A) : xj_W l z pc ls st A := by
  intro ad H locs cells slots lz hI hls hst hlv
  exact lv_ldc B.1 B.2.1 B.2.2.2.2.2.2.1 (B.2.2.2.2.2.2.2.2.1.1 _ hw _) hd (k ad H locs cells slots lz hI hls ⟨trivial, hst⟩ hlv)
theorem xg_ldc2 (B : xj_B l y0 cc nL ret hs d z) {index : Nat} {v : Int64} (hd : decode cc pc = .ok (.ldc2_w index, 3)) (hw : Cond.constantLong y0.cls index v ∈ xj_ws) (k : xj_W l z (pc + 3) ls (.long v :: st) A) : xj_W l z pc ls st A := by
  intro ad H locs cells slots lz hI hls hst hlv
  exact lv_ldc2 B.1 B.2.1 B.2.2.2.2.2.2.1 (B.2.2.2.2.2.2.2.2.1.1 _ hw _) hd (k ad H locs cells slots lz hI hls ⟨trivial, hst⟩ hlv)
theorem xg_iload_n (B : xj_B l y0 cc nL ret hs d z) {k : Fin 4} {i : Nat} {x : Int32} (hd : decode cc pc = .ok (.iload_n k, 1)) (hi : (k : Nat) = i) (hl : xj_lk ls i = some (.int x)) (k : xj_W l z (pc + 1) ls (.int x :: st) A) : xj_W l z pc ls (st) A := by
  intro ad H locs cells slots lz hI hls hst hlv
  exact lv_iload_n B.1 B.2.1 hd hi (xj_lk_at hlv hl) (k ad H locs cells slots lz hI hls ⟨trivial, hst⟩ hlv)
theorem xg_iload (B : xj_B l y0 cc nL ret hs d z) {i : Nat} {x : Int32} (hd : decode cc pc = .ok (.iload i, 2)) (hl : xj_lk ls i = some (.int x)) (k : xj_W l z (pc + 2) ls (.int x :: st) A) : xj_W l z pc ls (st) A := by
  intro ad H locs cells slots lz hI hls hst hlv
  exact lv_iload B.1 B.2.1 hd (xj_lk_at hlv hl) (k ad H locs cells slots lz hI hls ⟨trivial, hst⟩ hlv)
theorem xg_lload_n (B : xj_B l y0 cc nL ret hs d z) {k : Fin 4} {i : Nat} {x : Int64} (hd : decode cc pc = .ok (.lload_n k, 1)) (hi : (k : Nat) = i) (hl : xj_lk ls i = some (.long x)) (k : xj_W l z (pc + 1) ls (.long x :: st) A) : xj_W l z pc ls (st) A := by
  intro ad H locs cells slots lz hI hls hst hlv
  exact lv_lload_n B.1 B.2.1 hd hi (xj_lk_at hlv hl) (k ad H locs cells slots lz hI hls ⟨trivial, hst⟩ hlv)
theorem xg_lload (B : xj_B l y0 cc nL ret hs d z) {i : Nat} {x : Int64} (hd : decode cc pc = .ok (.lload i, 2)) (hl : xj_lk ls i = some (.long x)) (k : xj_W l z (pc + 2) ls (.long x :: st) A) : xj_W l z pc ls (st) A := by
  intro ad H locs cells slots lz hI hls hst hlv
  exact lv_lload B.1 B.2.1 hd (xj_lk_at hlv hl) (k ad H locs cells slots lz hI hls ⟨trivial, hst⟩ hlv)
theorem xg_aload_n (B : xj_B l y0 cc nL ret hs d z) {k : Fin 4} {i : Nat} {r : xj_Rf} (hd : decode cc pc = .ok (.aload_n k, 1)) (hi : (k : Nat) = i) (hl : xj_lk ls i = some (xj_rv r)) (k : xj_W l z (pc + 1) ls (xj_rv r :: st) A) : xj_W l z pc ls st A := by
  intro ad H locs cells slots lz hI hls hst hlv
  have hw := hls _ (xj_lk_mem hl)
  have hk := k ad H locs cells slots lz hI hls ⟨hw, hst⟩ hlv
  have ha := xj_lk_at hlv hl
  match r with
  | none => exact lv_aload_nN B.1 B.2.1 hd hi ha hk
  | some (.inl j) => exact lv_aload_n B.1 B.2.1 hd hi ha hk
  | some (.inr j) => exact lv_aload_n B.1 B.2.1 hd hi ha hk
theorem xg_aload (B : xj_B l y0 cc nL ret hs d z) {i : Nat} {r : xj_Rf} (hd : decode cc pc = .ok (.aload i, 2)) (hl : xj_lk ls i = some (xj_rv r)) (k : xj_W l z (pc + 2) ls (xj_rv r :: st) A) : xj_W l z pc ls st A := by
  intro ad H locs cells slots lz hI hls hst hlv
  have hw := hls _ (xj_lk_mem hl)
  have hk := k ad H locs cells slots lz hI hls ⟨hw, hst⟩ hlv
  have ha := xj_lk_at hlv hl
  match r with
  | none => exact lv_aloadN B.1 B.2.1 hd ha hk
  | some (.inl j) => exact lv_aload B.1 B.2.1 hd ha hk
  | some (.inr j) => exact lv_aload B.1 B.2.1 hd ha hk
theorem xg_istore_n (B : xj_B l y0 cc nL ret hs d z) {k : Fin 4} {i : Nat} {x : Int32} {ls' : List (Nat × Value)} (hd : decode cc pc = .ok (.istore_n k, 1)) (hi : (k : Nat) = i) (hn : i < nL) (hq : xj_nl i ls) (he : xj_st1 ls i (.int x) = ls') (k : xj_W l z (pc + 1) ls' st A) : xj_W l z pc ls (.int x :: st) A := by
  intro ad H locs cells slots lz hI hls hst hlv
  refine lv_istore_n B.1 B.2.1 hd hi hlv (by rw [B.2.2.1]; exact hn) (lv' := ls'.map (fun q => (q.1, xj_v (xf_g z) ad q.2))) (by rw [xj_f1 _ _ _ hq, ← he]; rfl) (fun lz' hlv' => ?_)
  exact k ad H locs cells slots lz' hI (xj_wls_st1 hls hst.1 he) hst.2 hlv'
theorem xg_istore (B : xj_B l y0 cc nL ret hs d z) {i : Nat} {x : Int32} {ls' : List (Nat × Value)} (hd : decode cc pc = .ok (.istore i, 2)) (hn : i < nL) (hq : xj_nl i ls) (he : xj_st1 ls i (.int x) = ls') (k : xj_W l z (pc + 2) ls' st A) : xj_W l z pc ls (.int x :: st) A := by
  intro ad H locs cells slots lz hI hls hst hlv
  refine lv_istore B.1 B.2.1 hd hlv (by rw [B.2.2.1]; exact hn) (lv' := ls'.map (fun q => (q.1, xj_v (xf_g z) ad q.2))) (by rw [xj_f1 _ _ _ hq, ← he]; rfl) (fun lz' hlv' => ?_)
  exact k ad H locs cells slots lz' hI (xj_wls_st1 hls hst.1 he) hst.2 hlv'
theorem xg_lstore_n (B : xj_B l y0 cc nL ret hs d z) {k : Fin 4} {i : Nat} {x : Int64} {ls' : List (Nat × Value)} (hd : decode cc pc = .ok (.lstore_n k, 1)) (hi : (k : Nat) = i) (hn : i + 1 < nL) (hq : xj_nl i ls) (he : xj_st2 ls i (.long x) = ls') (k : xj_W l z (pc + 1) ls' st A) : xj_W l z pc ls (.long x :: st) A := by
  intro ad H locs cells slots lz hI hls hst hlv
  refine lv_lstore_n B.1 B.2.1 hd hi hlv (by rw [B.2.2.1]; exact hn) (lv' := ls'.map (fun q => (q.1, xj_v (xf_g z) ad q.2))) (by rw [xj_f2 _ _ _ hq, ← he]; rfl) (fun lz' hlv' => ?_)
  exact k ad H locs cells slots lz' hI (xj_wls_st2 hls hst.1 he) hst.2 hlv'
theorem xg_lstore (B : xj_B l y0 cc nL ret hs d z) {i : Nat} {x : Int64} {ls' : List (Nat × Value)} (hd : decode cc pc = .ok (.lstore i, 2)) (hn : i + 1 < nL) (hq : xj_nl i ls) (he : xj_st2 ls i (.long x) = ls') (k : xj_W l z (pc + 2) ls' st A) : xj_W l z pc ls (.long x :: st) A := by
  intro ad H locs cells slots lz hI hls hst hlv
  refine lv_lstore B.1 B.2.1 hd hlv (by rw [B.2.2.1]; exact hn) (lv' := ls'.map (fun q => (q.1, xj_v (xf_g z) ad q.2))) (by rw [xj_f2 _ _ _ hq, ← he]; rfl) (fun lz' hlv' => ?_)
  exact k ad H locs cells slots lz' hI (xj_wls_st2 hls hst.1 he) hst.2 hlv'
theorem xg_astore_n (B : xj_B l y0 cc nL ret hs d z) {k : Fin 4} {i : Nat} {r : xj_Rf} {ls' : List (Nat × Value)} (hd : decode cc pc = .ok (.astore_n k, 1)) (hi : (k : Nat) = i) (hn : i < nL) (hq : xj_nl i ls) (he : xj_st1 ls i (xj_rv r) = ls') (k : xj_W l z (pc + 1) ls' st A) : xj_W l z pc ls (xj_rv r :: st) A := by
  intro ad H locs cells slots lz hI hls hst hlv
  match r with
  | none => refine lv_astore_nN B.1 B.2.1 hd hi hlv (by rw [B.2.2.1]; exact hn) (lv' := ls'.map (fun q => (q.1, xj_v (xf_g z) ad q.2))) (by rw [xj_f1 _ _ _ hq, ← he]; rfl) (fun lz' hlv' => k ad H locs cells slots lz' hI (xj_wls_st1 hls hst.1 he) hst.2 hlv')
  | some (.inl j) => refine lv_astore_n B.1 B.2.1 hd hi hlv (by rw [B.2.2.1]; exact hn) (lv' := ls'.map (fun q => (q.1, xj_v (xf_g z) ad q.2))) (by rw [xj_f1 _ _ _ hq, ← he]; rfl) (fun lz' hlv' => k ad H locs cells slots lz' hI (xj_wls_st1 hls hst.1 he) hst.2 hlv')
  | some (.inr j) => refine lv_astore_n B.1 B.2.1 hd hi hlv (by rw [B.2.2.1]; exact hn) (lv' := ls'.map (fun q => (q.1, xj_v (xf_g z) ad q.2))) (by rw [xj_f1 _ _ _ hq, ← he]; rfl) (fun lz' hlv' => k ad H locs cells slots lz' hI (xj_wls_st1 hls hst.1 he) hst.2 hlv')
theorem xg_astore (B : xj_B l y0 cc nL ret hs d z) {i : Nat} {r : xj_Rf} {ls' : List (Nat × Value)} (hd : decode cc pc = .ok (.astore i, 2)) (hn : i < nL) (hq : xj_nl i ls) (he : xj_st1 ls i (xj_rv r) = ls') (k : xj_W l z (pc + 2) ls' st A) : xj_W l z pc ls (xj_rv r :: st) A := by
  intro ad H locs cells slots lz hI hls hst hlv
  match r with
  | none => refine lv_astoreN B.1 B.2.1 hd hlv (by rw [B.2.2.1]; exact hn) (lv' := ls'.map (fun q => (q.1, xj_v (xf_g z) ad q.2))) (by rw [xj_f1 _ _ _ hq, ← he]; rfl) (fun lz' hlv' => k ad H locs cells slots lz' hI (xj_wls_st1 hls hst.1 he) hst.2 hlv')
  | some (.inl j) => refine lv_astore B.1 B.2.1 hd hlv (by rw [B.2.2.1]; exact hn) (lv' := ls'.map (fun q => (q.1, xj_v (xf_g z) ad q.2))) (by rw [xj_f1 _ _ _ hq, ← he]; rfl) (fun lz' hlv' => k ad H locs cells slots lz' hI (xj_wls_st1 hls hst.1 he) hst.2 hlv')
  | some (.inr j) => refine lv_astore B.1 B.2.1 hd hlv (by rw [B.2.2.1]; exact hn) (lv' := ls'.map (fun q => (q.1, xj_v (xf_g z) ad q.2))) (by rw [xj_f1 _ _ _ hq, ← he]; rfl) (fun lz' hlv' => k ad H locs cells slots lz' hI (xj_wls_st1 hls hst.1 he) hst.2 hlv')
theorem xg_iinc (B : xj_B l y0 cc nL ret hs d z) {i : Nat} {n : Int} {x v : Int32} {ls' : List (Nat × Value)} (hd : decode cc pc = .ok (.iinc i n, 3)) (hl : xj_lk ls i = some (.int x)) (hv : x + Int32.ofInt n = v) (hn : i < nL) (hq : xj_nl i ls) (he : xj_st1 ls i (.int v) = ls') (k : xj_W l z (pc + 3) ls' st A) : xj_W l z pc ls st A := by
  intro ad H locs cells slots lz hI hls hst hlv
  obtain ⟨j, hj⟩ := List.getElem?_of_mem (xj_lk_mem hl)
  refine lv_iinc B.1 B.2.1 hd hlv (k := j) (by rw [List.getElem?_map, hj]; rfl) hv (by rw [B.2.2.1]; exact hn) (lv' := ls'.map (fun q => (q.1, xj_v (xf_g z) ad q.2))) (by rw [xj_f1 _ _ _ hq, ← he]; rfl) (fun lz' hlv' => ?_)
  exact k ad H locs cells slots lz' hI (xj_wls_st1 (v := .int v) hls trivial he) hst hlv'
theorem xg_iadd (B : xj_B l y0 cc nL ret hs d z) {x y : Int32} (hd : decode cc pc = .ok (.iadd, 1)) (k : xj_W l z (pc + 1) ls (.int (x + y) :: st) A) : xj_W l z pc ls (.int y :: .int x :: st) A := by
  intro ad H locs cells slots lz hI hls hst hlv
  exact lv_iadd B.1 B.2.1 hd (k ad H locs cells slots lz hI hls ⟨trivial, hst.2.2⟩ hlv)
theorem xg_isub (B : xj_B l y0 cc nL ret hs d z) {x y : Int32} (hd : decode cc pc = .ok (.isub, 1)) (k : xj_W l z (pc + 1) ls (.int (x - y) :: st) A) : xj_W l z pc ls (.int y :: .int x :: st) A := by
  intro ad H locs cells slots lz hI hls hst hlv
  exact lv_isub B.1 B.2.1 hd (k ad H locs cells slots lz hI hls ⟨trivial, hst.2.2⟩ hlv)
theorem xg_imul (B : xj_B l y0 cc nL ret hs d z) {x y : Int32} (hd : decode cc pc = .ok (.imul, 1)) (k : xj_W l z (pc + 1) ls (.int (x * y) :: st) A) : xj_W l z pc ls (.int y :: .int x :: st) A := by
  intro ad H locs cells slots lz hI hls hst hlv
  exact lv_imul B.1 B.2.1 hd (k ad H locs cells slots lz hI hls ⟨trivial, hst.2.2⟩ hlv)
theorem xg_iand (B : xj_B l y0 cc nL ret hs d z) {x y : Int32} (hd : decode cc pc = .ok (.iand, 1)) (k : xj_W l z (pc + 1) ls (.int (x &&& y) :: st) A) : xj_W l z pc ls (.int y :: .int x :: st) A := by
  intro ad H locs cells slots lz hI hls hst hlv
  exact lv_iand B.1 B.2.1 hd (k ad H locs cells slots lz hI hls ⟨trivial, hst.2.2⟩ hlv)
theorem xg_ior (B : xj_B l y0 cc nL ret hs d z) {x y : Int32} (hd : decode cc pc = .ok (.ior, 1)) (k : xj_W l z (pc + 1) ls (.int (x ||| y) :: st) A) : xj_W l z pc ls (.int y :: .int x :: st) A := by
  intro ad H locs cells slots lz hI hls hst hlv
  exact lv_ior B.1 B.2.1 hd (k ad H locs cells slots lz hI hls ⟨trivial, hst.2.2⟩ hlv)
theorem xg_ixor (B : xj_B l y0 cc nL ret hs d z) {x y : Int32} (hd : decode cc pc = .ok (.ixor, 1)) (k : xj_W l z (pc + 1) ls (.int (x ^^^ y) :: st) A) : xj_W l z pc ls (.int y :: .int x :: st) A := by
  intro ad H locs cells slots lz hI hls hst hlv
  exact lv_ixor B.1 B.2.1 hd (k ad H locs cells slots lz hI hls ⟨trivial, hst.2.2⟩ hlv)
theorem xg_ishl (B : xj_B l y0 cc nL ret hs d z) {x y : Int32} (hd : decode cc pc = .ok (.ishl, 1)) (k : xj_W l z (pc + 1) ls (.int (x <<< (y &&& 31)) :: st) A) : xj_W l z pc ls (.int y :: .int x :: st) A := by
  intro ad H locs cells slots lz hI hls hst hlv
  exact lv_ishl B.1 B.2.1 hd (k ad H locs cells slots lz hI hls ⟨trivial, hst.2.2⟩ hlv)
theorem xg_ishr (B : xj_B l y0 cc nL ret hs d z) {x y : Int32} (hd : decode cc pc = .ok (.ishr, 1)) (k : xj_W l z (pc + 1) ls (.int (x >>> (y &&& 31)) :: st) A) : xj_W l z pc ls (.int y :: .int x :: st) A := by
  intro ad H locs cells slots lz hI hls hst hlv
  exact lv_ishr B.1 B.2.1 hd (k ad H locs cells slots lz hI hls ⟨trivial, hst.2.2⟩ hlv)
theorem xg_ladd (B : xj_B l y0 cc nL ret hs d z) {x y : Int64} (hd : decode cc pc = .ok (.ladd, 1)) (k : xj_W l z (pc + 1) ls (.long (x + y) :: st) A) : xj_W l z pc ls (.long y :: .long x :: st) A := by
  intro ad H locs cells slots lz hI hls hst hlv
  exact lv_ladd B.1 B.2.1 hd (k ad H locs cells slots lz hI hls ⟨trivial, hst.2.2⟩ hlv)
theorem xg_lsub (B : xj_B l y0 cc nL ret hs d z) {x y : Int64} (hd : decode cc pc = .ok (.lsub, 1)) (k : xj_W l z (pc + 1) ls (.long (x - y) :: st) A) : xj_W l z pc ls (.long y :: .long x :: st) A := by
  intro ad H locs cells slots lz hI hls hst hlv
  exact lv_lsub B.1 B.2.1 hd (k ad H locs cells slots lz hI hls ⟨trivial, hst.2.2⟩ hlv)
theorem xg_lmul (B : xj_B l y0 cc nL ret hs d z) {x y : Int64} (hd : decode cc pc = .ok (.lmul, 1)) (k : xj_W l z (pc + 1) ls (.long (x * y) :: st) A) : xj_W l z pc ls (.long y :: .long x :: st) A := by
  intro ad H locs cells slots lz hI hls hst hlv
  exact lv_lmul B.1 B.2.1 hd (k ad H locs cells slots lz hI hls ⟨trivial, hst.2.2⟩ hlv)
theorem xg_land (B : xj_B l y0 cc nL ret hs d z) {x y : Int64} (hd : decode cc pc = .ok (.land, 1)) (k : xj_W l z (pc + 1) ls (.long (x &&& y) :: st) A) : xj_W l z pc ls (.long y :: .long x :: st) A := by
  intro ad H locs cells slots lz hI hls hst hlv
  exact lv_land B.1 B.2.1 hd (k ad H locs cells slots lz hI hls ⟨trivial, hst.2.2⟩ hlv)
theorem xg_lor (B : xj_B l y0 cc nL ret hs d z) {x y : Int64} (hd : decode cc pc = .ok (.lor, 1)) (k : xj_W l z (pc + 1) ls (.long (x ||| y) :: st) A) : xj_W l z pc ls (.long y :: .long x :: st) A := by
  intro ad H locs cells slots lz hI hls hst hlv
  exact lv_lor B.1 B.2.1 hd (k ad H locs cells slots lz hI hls ⟨trivial, hst.2.2⟩ hlv)
theorem xg_ineg (B : xj_B l y0 cc nL ret hs d z) {x : Int32} (hd : decode cc pc = .ok (.ineg, 1)) (k : xj_W l z (pc + 1) ls (.int (-x) :: st) A) : xj_W l z pc ls (.int x :: st) A := by
  intro ad H locs cells slots lz hI hls hst hlv
  exact lv_ineg B.1 B.2.1 hd (k ad H locs cells slots lz hI hls ⟨trivial, hst.2⟩ hlv)
theorem xg_idiv (B : xj_B l y0 cc nL ret hs d z) {x y : Int32} (hd : decode cc pc = .ok (.idiv, 1)) (hne : ¬ y = 0) (k : xj_W l z (pc + 1) ls (.int (x / y) :: st) A) : xj_W l z pc ls (.int y :: .int x :: st) A := by
  intro ad H locs cells slots lz hI hls hst hlv
  exact lv_idiv B.1 B.2.1 hd hne (k ad H locs cells slots lz hI hls ⟨trivial, hst.2.2⟩ hlv)
theorem xj_rem (x y : Int32) : x - x / y * y = x % y := by
  apply Int32.toInt_inj.mp
  rw [rem_toInt, Int32.toInt_mod]
theorem xg_irem (B : xj_B l y0 cc nL ret hs d z) {x y : Int32} (hd : decode cc pc = .ok (.irem, 1)) (hne : ¬ y = 0) (k : xj_W l z (pc + 1) ls (.int (x % y) :: st) A) : xj_W l z pc ls (.int y :: .int x :: st) A := by
  intro ad H locs cells slots lz hI hls hst hlv
  refine lv_irem B.1 B.2.1 hd hne ?_
  rw [xj_rem]
  exact k ad H locs cells slots lz hI hls ⟨trivial, hst.2.2⟩ hlv
theorem xg_lcmp (B : xj_B l y0 cc nL ret hs d z) {x y : Int64} (hd : decode cc pc = .ok (.lcmp, 1)) (k : xj_W l z (pc + 1) ls (.int (lg_cmp x y) :: st) A) : xj_W l z pc ls (.long y :: .long x :: st) A := by
  intro ad H locs cells slots lz hI hls hst hlv
  exact W.lcmp B.1 B.2.1 hd (k ad H locs cells slots lz hI hls ⟨trivial, hst.2.2⟩ hlv)
theorem xg_lshl (B : xj_B l y0 cc nL ret hs d z) {x : Int64} {y : Int32} (hd : decode cc pc = .ok (.lshl, 1)) (k : xj_W l z (pc + 1) ls (.long (x <<< (y.toInt64 &&& 63)) :: st) A) : xj_W l z pc ls (.int y :: .long x :: st) A := by
  intro ad H locs cells slots lz hI hls hst hlv
  exact lv_lshl B.1 B.2.1 hd rfl (k ad H locs cells slots lz hI hls ⟨trivial, hst.2.2⟩ hlv)
theorem xg_i2l (B : xj_B l y0 cc nL ret hs d z) {x : Int32} (hd : decode cc pc = .ok (.i2l, 1)) (k : xj_W l z (pc + 1) ls (.long x.toInt64 :: st) A) : xj_W l z pc ls (.int x :: st) A := by
  intro ad H locs cells slots lz hI hls hst hlv
  exact lv_i2l B.1 B.2.1 hd rfl (k ad H locs cells slots lz hI hls ⟨trivial, hst.2⟩ hlv)
theorem xg_l2i (B : xj_B l y0 cc nL ret hs d z) {x : Int64} (hd : decode cc pc = .ok (.l2i, 1)) (k : xj_W l z (pc + 1) ls (.int x.toInt32 :: st) A) : xj_W l z pc ls (.long x :: st) A := by
  intro ad H locs cells slots lz hI hls hst hlv
  exact lv_l2i B.1 B.2.1 hd rfl (k ad H locs cells slots lz hI hls ⟨trivial, hst.2⟩ hlv)
theorem xg_i2c (B : xj_B l y0 cc nL ret hs d z) {x : Int32} (hd : decode cc pc = .ok (.i2c, 1)) (k : xj_W l z (pc + 1) ls (.int ((x.toUInt32 % 65536).toInt32) :: st) A) : xj_W l z pc ls (.int x :: st) A := by
  intro ad H locs cells slots lz hI hls hst hlv
  exact lv_i2c B.1 B.2.1 hd rfl (k ad H locs cells slots lz hI hls ⟨trivial, hst.2⟩ hlv)
theorem xg_dup (B : xj_B l y0 cc nL ret hs d z) {va : Value} (hd : decode cc pc = .ok (.dup, 1)) (ha : va.category = 1) (k : xj_W l z (pc + 1) ls (va :: va :: st) A) : xj_W l z pc ls (va :: st) A := by
  intro ad H locs cells slots lz hI hls hst hlv
  exact lv_dup B.1 B.2.1 hd (by rw [xj_v_cat]; exact ha) (k ad H locs cells slots lz hI hls ⟨hst.1, hst⟩ hlv)
theorem xg_pop (B : xj_B l y0 cc nL ret hs d z) {va : Value} (hd : decode cc pc = .ok (.pop, 1)) (ha : va.category = 1) (k : xj_W l z (pc + 1) ls (st) A) : xj_W l z pc ls (va :: st) A := by
  intro ad H locs cells slots lz hI hls hst hlv
  exact lv_pop B.1 B.2.1 hd (by rw [xj_v_cat]; exact ha) (k ad H locs cells slots lz hI hls hst.2 hlv)
theorem xg_dup_x1 (B : xj_B l y0 cc nL ret hs d z) {va vb : Value} (hd : decode cc pc = .ok (.dup_x1, 1)) (ha : va.category = 1) (hb : vb.category = 1) (k : xj_W l z (pc + 1) ls (va :: vb :: va :: st) A) : xj_W l z pc ls (va :: vb :: st) A := by
  intro ad H locs cells slots lz hI hls hst hlv
  exact lv_dup_x1 B.1 B.2.1 hd (by rw [xj_v_cat]; exact ha) (by rw [xj_v_cat]; exact hb) (k ad H locs cells slots lz hI hls ⟨hst.1, hst.2.1, hst.1, hst.2.2⟩ hlv)
theorem xg_dup_x2 (B : xj_B l y0 cc nL ret hs d z) {va vb vd : Value} (hd : decode cc pc = .ok (.dup_x2, 1)) (ha : va.category = 1) (hb : vb.category = 1) (hc : vd.category = 1) (k : xj_W l z (pc + 1) ls (va :: vb :: vd :: va :: st) A) : xj_W l z pc ls (va :: vb :: vd :: st) A := by
  intro ad H locs cells slots lz hI hls hst hlv
  exact lv_dup_x2 B.1 B.2.1 hd (by rw [xj_v_cat]; exact ha) (by rw [xj_v_cat]; exact hb) (by rw [xj_v_cat]; exact hc) (k ad H locs cells slots lz hI hls ⟨hst.1, hst.2.1, hst.2.2.1, hst.1, hst.2.2.2⟩ hlv)
theorem xg_dup2 (B : xj_B l y0 cc nL ret hs d z) {va vb : Value} (hd : decode cc pc = .ok (.dup2, 1)) (ha : va.category = 1) (hb : vb.category = 1) (k : xj_W l z (pc + 1) ls (va :: vb :: va :: vb :: st) A) : xj_W l z pc ls (va :: vb :: st) A := by
  intro ad H locs cells slots lz hI hls hst hlv
  exact lv_dup2_11 B.1 B.2.1 hd (by rw [xj_v_cat]; exact ha) (by rw [xj_v_cat]; exact hb) (k ad H locs cells slots lz hI hls ⟨hst.1, hst.2.1, hst⟩ hlv)
theorem xg_pop2 (B : xj_B l y0 cc nL ret hs d z) {va : Value} (hd : decode cc pc = .ok (.pop2, 1)) (ha : va.category = 2) (k : xj_W l z (pc + 1) ls (st) A) : xj_W l z pc ls (va :: st) A := by
  intro ad H locs cells slots lz hI hls hst hlv
  exact lv_pop2_2 B.1 B.2.1 hd (by rw [xj_v_cat]; exact ha) (k ad H locs cells slots lz hI hls hst.2 hlv)
theorem xg_if_eq (B : xj_B l y0 cc nL ret hs d z) {x : Int32} {off : Int} {tgt : Nat} {P P' : Option xj_R} (hd : decode cc pc = .ok (.ifCond .eq off, 3)) (ht : (pc : Int) + off = (tgt : Int)) (h : (if x = 0 then P else P') = some (xf_r z)) (kt : x = 0 → P = some (xf_r z) → xj_W l z tgt ls st A) (kf : ¬ (x = 0) → P' = some (xf_r z) → xj_W l z (pc + 3) ls st A) : xj_W l z pc ls (.int x :: st) A := by
  intro ad H locs cells slots lz hI hls hst hlv
  refine lv_if_eq B.1 B.2.1 hd ht (fun hc => ?_) (fun hc => ?_)
  · first | exact kt hc (by rw [if_pos hc] at h; exact h) ad H locs cells slots lz hI hls hst.2 hlv | exact kt (by simpa using hc) (by rw [if_pos (by simpa using hc)] at h; exact h) ad H locs cells slots lz hI hls hst.2 hlv
  · first | exact kf hc (by rw [if_neg hc] at h; exact h) ad H locs cells slots lz hI hls hst.2 hlv | exact kf (by simpa using hc) (by rw [if_neg (by simpa using hc)] at h; exact h) ad H locs cells slots lz hI hls hst.2 hlv
theorem xg_icmp_eq (B : xj_B l y0 cc nL ret hs d z) {x y : Int32} {off : Int} {tgt : Nat} {P P' : Option xj_R} (hd : decode cc pc = .ok (.if_icmp .eq off, 3)) (ht : (pc : Int) + off = (tgt : Int)) (h : (if x = y then P else P') = some (xf_r z)) (kt : x = y → P = some (xf_r z) → xj_W l z tgt ls st A) (kf : ¬ (x = y) → P' = some (xf_r z) → xj_W l z (pc + 3) ls st A) : xj_W l z pc ls (.int y :: .int x :: st) A := by
  intro ad H locs cells slots lz hI hls hst hlv
  refine lv_icmp_eq B.1 B.2.1 hd ht (fun hc => ?_) (fun hc => ?_)
  · first | exact kt hc (by rw [if_pos hc] at h; exact h) ad H locs cells slots lz hI hls hst.2.2 hlv | exact kt (by simpa using hc) (by rw [if_pos (by simpa using hc)] at h; exact h) ad H locs cells slots lz hI hls hst.2.2 hlv
  · first | exact kf hc (by rw [if_neg hc] at h; exact h) ad H locs cells slots lz hI hls hst.2.2 hlv | exact kf (by simpa using hc) (by rw [if_neg (by simpa using hc)] at h; exact h) ad H locs cells slots lz hI hls hst.2.2 hlv
theorem xg_if_ne (B : xj_B l y0 cc nL ret hs d z) {x : Int32} {off : Int} {tgt : Nat} {P P' : Option xj_R} (hd : decode cc pc = .ok (.ifCond .ne off, 3)) (ht : (pc : Int) + off = (tgt : Int)) (h : (if ¬ x = 0 then P else P') = some (xf_r z)) (kt : ¬ x = 0 → P = some (xf_r z) → xj_W l z tgt ls st A) (kf : ¬ (¬ x = 0) → P' = some (xf_r z) → xj_W l z (pc + 3) ls st A) : xj_W l z pc ls (.int x :: st) A := by
  intro ad H locs cells slots lz hI hls hst hlv
  refine lv_if_ne B.1 B.2.1 hd ht (fun hc => ?_) (fun hc => ?_)
  · first | exact kt hc (by rw [if_pos hc] at h; exact h) ad H locs cells slots lz hI hls hst.2 hlv | exact kt (by simpa using hc) (by rw [if_pos (by simpa using hc)] at h; exact h) ad H locs cells slots lz hI hls hst.2 hlv
  · first | exact kf hc (by rw [if_neg hc] at h; exact h) ad H locs cells slots lz hI hls hst.2 hlv | exact kf (by simpa using hc) (by rw [if_neg (by simpa using hc)] at h; exact h) ad H locs cells slots lz hI hls hst.2 hlv
theorem xg_icmp_ne (B : xj_B l y0 cc nL ret hs d z) {x y : Int32} {off : Int} {tgt : Nat} {P P' : Option xj_R} (hd : decode cc pc = .ok (.if_icmp .ne off, 3)) (ht : (pc : Int) + off = (tgt : Int)) (h : (if ¬ x = y then P else P') = some (xf_r z)) (kt : ¬ x = y → P = some (xf_r z) → xj_W l z tgt ls st A) (kf : ¬ (¬ x = y) → P' = some (xf_r z) → xj_W l z (pc + 3) ls st A) : xj_W l z pc ls (.int y :: .int x :: st) A := by
  intro ad H locs cells slots lz hI hls hst hlv
  refine lv_icmp_ne B.1 B.2.1 hd ht (fun hc => ?_) (fun hc => ?_)
  · first | exact kt hc (by rw [if_pos hc] at h; exact h) ad H locs cells slots lz hI hls hst.2.2 hlv | exact kt (by simpa using hc) (by rw [if_pos (by simpa using hc)] at h; exact h) ad H locs cells slots lz hI hls hst.2.2 hlv
  · first | exact kf hc (by rw [if_neg hc] at h; exact h) ad H locs cells slots lz hI hls hst.2.2 hlv | exact kf (by simpa using hc) (by rw [if_neg (by simpa using hc)] at h; exact h) ad H locs cells slots lz hI hls hst.2.2 hlv
theorem xg_if_lt (B : xj_B l y0 cc nL ret hs d z) {x : Int32} {off : Int} {tgt : Nat} {P P' : Option xj_R} (hd : decode cc pc = .ok (.ifCond .lt off, 3)) (ht : (pc : Int) + off = (tgt : Int)) (h : (if x < 0 then P else P') = some (xf_r z)) (kt : x < 0 → P = some (xf_r z) → xj_W l z tgt ls st A) (kf : ¬ (x < 0) → P' = some (xf_r z) → xj_W l z (pc + 3) ls st A) : xj_W l z pc ls (.int x :: st) A := by
  intro ad H locs cells slots lz hI hls hst hlv
  refine lv_if_lt B.1 B.2.1 hd ht (fun hc => ?_) (fun hc => ?_)
  · first | exact kt hc (by rw [if_pos hc] at h; exact h) ad H locs cells slots lz hI hls hst.2 hlv | exact kt (by simpa using hc) (by rw [if_pos (by simpa using hc)] at h; exact h) ad H locs cells slots lz hI hls hst.2 hlv
  · first | exact kf hc (by rw [if_neg hc] at h; exact h) ad H locs cells slots lz hI hls hst.2 hlv | exact kf (by simpa using hc) (by rw [if_neg (by simpa using hc)] at h; exact h) ad H locs cells slots lz hI hls hst.2 hlv
theorem xg_icmp_lt (B : xj_B l y0 cc nL ret hs d z) {x y : Int32} {off : Int} {tgt : Nat} {P P' : Option xj_R} (hd : decode cc pc = .ok (.if_icmp .lt off, 3)) (ht : (pc : Int) + off = (tgt : Int)) (h : (if x < y then P else P') = some (xf_r z)) (kt : x < y → P = some (xf_r z) → xj_W l z tgt ls st A) (kf : ¬ (x < y) → P' = some (xf_r z) → xj_W l z (pc + 3) ls st A) : xj_W l z pc ls (.int y :: .int x :: st) A := by
  intro ad H locs cells slots lz hI hls hst hlv
  refine lv_icmp_lt B.1 B.2.1 hd ht (fun hc => ?_) (fun hc => ?_)
  · first | exact kt hc (by rw [if_pos hc] at h; exact h) ad H locs cells slots lz hI hls hst.2.2 hlv | exact kt (by simpa using hc) (by rw [if_pos (by simpa using hc)] at h; exact h) ad H locs cells slots lz hI hls hst.2.2 hlv
  · first | exact kf hc (by rw [if_neg hc] at h; exact h) ad H locs cells slots lz hI hls hst.2.2 hlv | exact kf (by simpa using hc) (by rw [if_neg (by simpa using hc)] at h; exact h) ad H locs cells slots lz hI hls hst.2.2 hlv
theorem xg_if_ge (B : xj_B l y0 cc nL ret hs d z) {x : Int32} {off : Int} {tgt : Nat} {P P' : Option xj_R} (hd : decode cc pc = .ok (.ifCond .ge off, 3)) (ht : (pc : Int) + off = (tgt : Int)) (h : (if 0 ≤ x then P else P') = some (xf_r z)) (kt : 0 ≤ x → P = some (xf_r z) → xj_W l z tgt ls st A) (kf : ¬ (0 ≤ x) → P' = some (xf_r z) → xj_W l z (pc + 3) ls st A) : xj_W l z pc ls (.int x :: st) A := by
  intro ad H locs cells slots lz hI hls hst hlv
  refine lv_if_ge B.1 B.2.1 hd ht (fun hc => ?_) (fun hc => ?_)
  · first | exact kt hc (by rw [if_pos hc] at h; exact h) ad H locs cells slots lz hI hls hst.2 hlv | exact kt (by simpa using hc) (by rw [if_pos (by simpa using hc)] at h; exact h) ad H locs cells slots lz hI hls hst.2 hlv
  · first | exact kf hc (by rw [if_neg hc] at h; exact h) ad H locs cells slots lz hI hls hst.2 hlv | exact kf (by simpa using hc) (by rw [if_neg (by simpa using hc)] at h; exact h) ad H locs cells slots lz hI hls hst.2 hlv
theorem xg_icmp_ge (B : xj_B l y0 cc nL ret hs d z) {x y : Int32} {off : Int} {tgt : Nat} {P P' : Option xj_R} (hd : decode cc pc = .ok (.if_icmp .ge off, 3)) (ht : (pc : Int) + off = (tgt : Int)) (h : (if y ≤ x then P else P') = some (xf_r z)) (kt : y ≤ x → P = some (xf_r z) → xj_W l z tgt ls st A) (kf : ¬ (y ≤ x) → P' = some (xf_r z) → xj_W l z (pc + 3) ls st A) : xj_W l z pc ls (.int y :: .int x :: st) A := by
  intro ad H locs cells slots lz hI hls hst hlv
  refine lv_icmp_ge B.1 B.2.1 hd ht (fun hc => ?_) (fun hc => ?_)
  · first | exact kt hc (by rw [if_pos hc] at h; exact h) ad H locs cells slots lz hI hls hst.2.2 hlv | exact kt (by simpa using hc) (by rw [if_pos (by simpa using hc)] at h; exact h) ad H locs cells slots lz hI hls hst.2.2 hlv
  · first | exact kf hc (by rw [if_neg hc] at h; exact h) ad H locs cells slots lz hI hls hst.2.2 hlv | exact kf (by simpa using hc) (by rw [if_neg (by simpa using hc)] at h; exact h) ad H locs cells slots lz hI hls hst.2.2 hlv
theorem xg_if_gt (B : xj_B l y0 cc nL ret hs d z) {x : Int32} {off : Int} {tgt : Nat} {P P' : Option xj_R} (hd : decode cc pc = .ok (.ifCond .gt off, 3)) (ht : (pc : Int) + off = (tgt : Int)) (h : (if 0 < x then P else P') = some (xf_r z)) (kt : 0 < x → P = some (xf_r z) → xj_W l z tgt ls st A) (kf : ¬ (0 < x) → P' = some (xf_r z) → xj_W l z (pc + 3) ls st A) : xj_W l z pc ls (.int x :: st) A := by
  intro ad H locs cells slots lz hI hls hst hlv
  refine lv_if_gt B.1 B.2.1 hd ht (fun hc => ?_) (fun hc => ?_)
  · first | exact kt hc (by rw [if_pos hc] at h; exact h) ad H locs cells slots lz hI hls hst.2 hlv | exact kt (by simpa using hc) (by rw [if_pos (by simpa using hc)] at h; exact h) ad H locs cells slots lz hI hls hst.2 hlv
  · first | exact kf hc (by rw [if_neg hc] at h; exact h) ad H locs cells slots lz hI hls hst.2 hlv | exact kf (by simpa using hc) (by rw [if_neg (by simpa using hc)] at h; exact h) ad H locs cells slots lz hI hls hst.2 hlv
theorem xg_icmp_gt (B : xj_B l y0 cc nL ret hs d z) {x y : Int32} {off : Int} {tgt : Nat} {P P' : Option xj_R} (hd : decode cc pc = .ok (.if_icmp .gt off, 3)) (ht : (pc : Int) + off = (tgt : Int)) (h : (if y < x then P else P') = some (xf_r z)) (kt : y < x → P = some (xf_r z) → xj_W l z tgt ls st A) (kf : ¬ (y < x) → P' = some (xf_r z) → xj_W l z (pc + 3) ls st A) : xj_W l z pc ls (.int y :: .int x :: st) A := by
  intro ad H locs cells slots lz hI hls hst hlv
  refine lv_icmp_gt B.1 B.2.1 hd ht (fun hc => ?_) (fun hc => ?_)
  · first | exact kt hc (by rw [if_pos hc] at h; exact h) ad H locs cells slots lz hI hls hst.2.2 hlv | exact kt (by simpa using hc) (by rw [if_pos (by simpa using hc)] at h; exact h) ad H locs cells slots lz hI hls hst.2.2 hlv
  · first | exact kf hc (by rw [if_neg hc] at h; exact h) ad H locs cells slots lz hI hls hst.2.2 hlv | exact kf (by simpa using hc) (by rw [if_neg (by simpa using hc)] at h; exact h) ad H locs cells slots lz hI hls hst.2.2 hlv
theorem xg_if_le (B : xj_B l y0 cc nL ret hs d z) {x : Int32} {off : Int} {tgt : Nat} {P P' : Option xj_R} (hd : decode cc pc = .ok (.ifCond .le off, 3)) (ht : (pc : Int) + off = (tgt : Int)) (h : (if x ≤ 0 then P else P') = some (xf_r z)) (kt : x ≤ 0 → P = some (xf_r z) → xj_W l z tgt ls st A) (kf : ¬ (x ≤ 0) → P' = some (xf_r z) → xj_W l z (pc + 3) ls st A) : xj_W l z pc ls (.int x :: st) A := by
  intro ad H locs cells slots lz hI hls hst hlv
  refine lv_if_le B.1 B.2.1 hd ht (fun hc => ?_) (fun hc => ?_)
  · first | exact kt hc (by rw [if_pos hc] at h; exact h) ad H locs cells slots lz hI hls hst.2 hlv | exact kt (by simpa using hc) (by rw [if_pos (by simpa using hc)] at h; exact h) ad H locs cells slots lz hI hls hst.2 hlv
  · first | exact kf hc (by rw [if_neg hc] at h; exact h) ad H locs cells slots lz hI hls hst.2 hlv | exact kf (by simpa using hc) (by rw [if_neg (by simpa using hc)] at h; exact h) ad H locs cells slots lz hI hls hst.2 hlv
theorem xg_icmp_le (B : xj_B l y0 cc nL ret hs d z) {x y : Int32} {off : Int} {tgt : Nat} {P P' : Option xj_R} (hd : decode cc pc = .ok (.if_icmp .le off, 3)) (ht : (pc : Int) + off = (tgt : Int)) (h : (if x ≤ y then P else P') = some (xf_r z)) (kt : x ≤ y → P = some (xf_r z) → xj_W l z tgt ls st A) (kf : ¬ (x ≤ y) → P' = some (xf_r z) → xj_W l z (pc + 3) ls st A) : xj_W l z pc ls (.int y :: .int x :: st) A := by
  intro ad H locs cells slots lz hI hls hst hlv
  refine lv_icmp_le B.1 B.2.1 hd ht (fun hc => ?_) (fun hc => ?_)
  · first | exact kt hc (by rw [if_pos hc] at h; exact h) ad H locs cells slots lz hI hls hst.2.2 hlv | exact kt (by simpa using hc) (by rw [if_pos (by simpa using hc)] at h; exact h) ad H locs cells slots lz hI hls hst.2.2 hlv
  · first | exact kf hc (by rw [if_neg hc] at h; exact h) ad H locs cells slots lz hI hls hst.2.2 hlv | exact kf (by simpa using hc) (by rw [if_neg (by simpa using hc)] at h; exact h) ad H locs cells slots lz hI hls hst.2.2 hlv
theorem xg_goto (B : xj_B l y0 cc nL ret hs d z) {off : Int} {tgt : Nat} (hd : decode cc pc = .ok (.goto off, 3)) (ht : (pc : Int) + off = (tgt : Int)) (k : xj_W l z tgt ls st A) : xj_W l z pc ls st A := by
  intro ad H locs cells slots lz hI hls hst hlv
  exact lv_goto B.1 B.2.1 hd ht (k ad H locs cells slots lz hI hls hst hlv)
theorem xg_ifnull (B : xj_B l y0 cc nL ret hs d z) {r : xj_Rf} {off : Int} {tgt : Nat} {P P' : Option xj_R} (hd : decode cc pc = .ok (.ifnull off, 3)) (ht : (pc : Int) + off = (tgt : Int)) (h : (if r = none then P else P') = some (xf_r z)) (kt : r = none → P = some (xf_r z) → xj_W l z tgt ls st A) (kf : ¬ (r = none) → P' = some (xf_r z) → xj_W l z (pc + 3) ls st A) : xj_W l z pc ls (xj_rv r :: st) A := by
  intro ad H locs cells slots lz hI hls hst hlv
  match r with
  | none => exact lv_ifnullN B.1 B.2.1 hd ht (kt rfl (by simpa using h) ad H locs cells slots lz hI hls hst.2 hlv)
  | some (.inl j) => exact lv_ifnull B.1 B.2.1 hd (kf (by simp) (by simpa using h) ad H locs cells slots lz hI hls hst.2 hlv)
  | some (.inr j) => exact lv_ifnull B.1 B.2.1 hd (kf (by simp) (by simpa using h) ad H locs cells slots lz hI hls hst.2 hlv)
theorem xg_ifnonnull (B : xj_B l y0 cc nL ret hs d z) {r : xj_Rf} {off : Int} {tgt : Nat} {P P' : Option xj_R} (hd : decode cc pc = .ok (.ifnonnull off, 3)) (ht : (pc : Int) + off = (tgt : Int)) (h : (if ¬ r = none then P else P') = some (xf_r z)) (kt : ¬ r = none → P = some (xf_r z) → xj_W l z tgt ls st A) (kf : ¬ (¬ r = none) → P' = some (xf_r z) → xj_W l z (pc + 3) ls st A) : xj_W l z pc ls (xj_rv r :: st) A := by
  intro ad H locs cells slots lz hI hls hst hlv
  match r with
  | none => exact lv_ifnonnullN B.1 B.2.1 hd (kf (by simp) (by simpa using h) ad H locs cells slots lz hI hls hst.2 hlv)
  | some (.inl j) => exact lv_ifnonnull B.1 B.2.1 hd ht (kt (by simp) (by simpa using h) ad H locs cells slots lz hI hls hst.2 hlv)
  | some (.inr j) => exact lv_ifnonnull B.1 B.2.1 hd ht (kt (by simp) (by simpa using h) ad H locs cells slots lz hI hls hst.2 hlv)
end Xrows
end
section
section Xheap
variable {l : Launch} {z : xj_F} {y0 : MethodName} {cc : ByteArray} {nL : Nat} {ret : Option FieldType} {hs : List (Nat × Nat × Nat × Nat)} {d pc : Nat} {ls : List (Nat × Value)} {st : List Value} {A : xj_H}
theorem xw_mono {p : Program} {e : Env} {R : Room} {s : State} {m : MethodId} {args : Array Value} {below : List Frame} {meth : Method} {c : Code} {H : Heap} {locs : List Loc} {cells slots : Nat} {Q Q' : State → Prop} {g : JFrame}
    (h : W p l e R s m args below meth c H locs cells slots Q g) (hq : ∀ t, Q t → Q' t) : W p l e R s m args below meth c H locs cells slots Q' g := fun T hT X => by
  obtain ⟨t, a, b⟩ := h T hT X
  exact ⟨t, a, hq t b⟩
theorem xj_gv_inv {o : xj_Rf} {ci k : Nat} {v : Value} (h : xj_gv A o ci k = some v) : ∃ (a : Nat) (fs : List Value), o = some (.inl a) ∧ A.1[a]? = some (.inr (ci, fs)) ∧ fs[k]? = some v := by
  unfold xj_gv at h
  split at h
  · rename_i a
    split at h
    · rename_i q hq
      by_cases hc : q.1 = ci
      · rw [if_pos hc] at h
        exact ⟨a, q.2, rfl, by rw [hq, ← hc], h⟩
      · rw [if_neg hc] at h
        cases h
    · cases h
  · cases h
theorem xj_gi_inv {o : xj_Rf} {ci k : Nat} {x : Int32} (h : xj_gi A o ci k = some x) : xj_gv A o ci k = some (.int x) := by
  unfold xj_gi at h
  split at h
  · rename_i y hy
    cases h
    exact hy
  · cases h
theorem xj_gl_inv {o : xj_Rf} {ci k : Nat} {x : Int64} (h : xj_gl A o ci k = some x) : xj_gv A o ci k = some (.long x) := by
  unfold xj_gl at h
  split at h
  · rename_i y hy
    cases h
    exact hy
  · cases h
theorem xj_vr_inv {v : Value} {r : xj_Rf} (h : xj_vr v = some r) : v = xj_rv r := by
  cases v <;> simp only [xj_vr, Option.some.injEq, reduceCtorEq] at h <;> subst h <;> rfl
theorem xj_gr_inv {o : xj_Rf} {ci k : Nat} {r : xj_Rf} (h : xj_gr A o ci k = some r) : xj_gv A o ci k = some (xj_rv r) := by
  unfold xj_gr at h
  obtain ⟨v, h1, h2⟩ := Option.bind_eq_some_iff.mp h
  rw [h1, xj_vr_inv h2]
def xj_fl (own : String) (index ci k : Nat) : Prop := ∃ (C : String) (T : u_T) (N : Nat), xj_cl[ci]? = some (C, T, N) ∧ k < N ∧ (∀ w ∈ u_ws C T N, w ∈ xj_ws) ∧
  (Cond.fieldLink own index (T k).1 (T k).2.1 (T k).2.2.1 ∈ xj_ws ∨ ∃ host, Cond.fieldLinkNest own index (T k).1 (T k).2.1 (T k).2.2.1 host ∈ xj_nw)
theorem xj_mem_wc {ad : Nat → Nat} {H : Heap} {locs : List Loc} {cells slots : Nat} (hI : xj_I z ad A H locs cells slots) {a : Nat} {x : xj_C} (h : A.1[a]? = some x) : xj_wc A.1.length x := hI.2.2.2.2.1 x (List.mem_of_getElem? h)
theorem xg_getv (B : xj_B l y0 cc nL ret hs d z) {o : xj_Rf} {ci k index : Nat} {v : Value} (hd : decode cc pc = .ok (.getfield index, 3)) (hf : xj_fl y0.cls index ci k) (hv : xj_gv A o ci k = some v) (kk : xj_W l z (pc + 3) ls (v :: st) A) : xj_W l z pc ls (xj_rv o :: st) A := by
  intro ad H locs cells slots lz hI hls hst hlv
  obtain ⟨a, fs, rfl, ha, hk⟩ := xj_gv_inv hv
  obtain ⟨C, T, N, hc, hN, hin, hlk⟩ := hf
  obtain ⟨hx, hb, hml, hr, hlo, htab, hown, hnm, hT, hK, hrest⟩ := B
  have he : (xj_w (xf_g z) ad A.1)[a]? = some (ad a, .inr (ci, fs.map (xj_v (xf_g z) ad))) := xj_w_at ha
  have hv' : (fs.map (xj_v (xf_g z) ad))[k]? = some (xj_v (xf_g z) ad v) := by rw [List.getElem?_map, hk]; rfl
  have hw : xj_wv A.1.length v := (xj_mem_wc hI ha) v (List.mem_of_getElem? hk)
  have hkk := kk ad H locs cells slots lz hI hls ⟨hw, hst.2⟩ hlv
  rcases hlk with hlk | ⟨host, hlk⟩
  · exact va_get (Ts := xj_ws) hx hb (fun w h => hT.1 w h _) hin hown hK hI.2.2.1 a he hc k hN (hT.1 _ hlk _) (fun _ h => h) hv' hd hkk
  · exact va_getN (Ts := xj_ws) hx hb (fun w h => hT.1 w h _) hin hown hK hI.2.2.1 a he hc k hN (va_Nw.use rfl (hT.2 _ hlk)) (fun _ h => h) hv' hd hkk
theorem xg_geti (B : xj_B l y0 cc nL ret hs d z) {o : xj_Rf} {ci k index : Nat} {K : Int32 → Option xj_R} (hd : decode cc pc = .ok (.getfield index, 3)) (hf : xj_fl y0.cls index ci k) (h : (xj_gi A o ci k).bind K = some (xf_r z)) (kk : ∀ x, xj_gi A o ci k = some x → K x = some (xf_r z) → xj_W l z (pc + 3) ls (.int x :: st) A) : xj_W l z pc ls (xj_rv o :: st) A := by
  obtain ⟨x, h1, h2⟩ := Option.bind_eq_some_iff.mp h
  exact xg_getv B hd hf (xj_gi_inv h1) (kk x h1 h2)
theorem xg_getl (B : xj_B l y0 cc nL ret hs d z) {o : xj_Rf} {ci k index : Nat} {K : Int64 → Option xj_R} (hd : decode cc pc = .ok (.getfield index, 3)) (hf : xj_fl y0.cls index ci k) (h : (xj_gl A o ci k).bind K = some (xf_r z)) (kk : ∀ x, xj_gl A o ci k = some x → K x = some (xf_r z) → xj_W l z (pc + 3) ls (.long x :: st) A) : xj_W l z pc ls (xj_rv o :: st) A := by
  obtain ⟨x, h1, h2⟩ := Option.bind_eq_some_iff.mp h
  exact xg_getv B hd hf (xj_gl_inv h1) (kk x h1 h2)
theorem xg_getr (B : xj_B l y0 cc nL ret hs d z) {o : xj_Rf} {ci k index : Nat} {K : xj_Rf → Option xj_R} (hd : decode cc pc = .ok (.getfield index, 3)) (hf : xj_fl y0.cls index ci k) (h : (xj_gr A o ci k).bind K = some (xf_r z)) (kk : ∀ x, xj_gr A o ci k = some x → K x = some (xf_r z) → xj_W l z (pc + 3) ls (xj_rv x :: st) A) : xj_W l z pc ls (xj_rv o :: st) A := by
  obtain ⟨x, h1, h2⟩ := Option.bind_eq_some_iff.mp h
  exact xg_getv B hd hf (xj_gr_inv h1) (kk x h1 h2)
/-! Writing. -/
theorem xj_I_set {ad : Nat → Nat} {H H1 : Heap} {locs locs1 : List Loc} {cells slots a : Nat} {x : xj_C} (hI : xj_I z ad A H locs cells slots) (hx : xj_wc A.1.length x)
    (hP : va_P (xf_g z).1 xj_cl ((xj_w (xf_g z) ad A.1).set a (ad a, xj_c (xf_g z) ad x)) H1) (hD : va_D (xj_al (xf_g z) (xf_d z) (xf_H z) (xf_s z)) ((xj_w (xf_g z) ad A.1).set a (ad a, xj_c (xf_g z) ad x)))
    (hS : va_S (xj_al (xf_g z) (xf_d z) (xf_H z) (xf_s z)) (xf_s z).heap H1 locs1) : xj_I z ad (A.1.set a x, A.2) H1 locs1 cells slots := by
  rw [xj_w_set] at hP hD
  refine ⟨hI.1, by simpa using hI.2.1, hP, hD, fun q hq => ?_, hS, hI.2.2.2.2.2.2.1, hI.2.2.2.2.2.2.2⟩
  have hl : (A.1.set a x).length = A.1.length := List.length_set
  show xj_wc (A.1.set a x).length q
  rw [hl]
  rcases List.mem_or_eq_of_mem_set hq with h | rfl
  · exact hI.2.2.2.2.1 q h
  · exact hx
theorem xj_len_set {a : Nat} {x : xj_C} : ((A.1.set a x, A.2) : xj_H).1.length = A.1.length := List.length_set
theorem xj_pv_inv {o : xj_Rf} {ci k : Nat} {v : Value} {A' : xj_H} (h : xj_pv A o ci k v = some A') : ∃ (a : Nat) (fs : List Value), o = some (.inl a) ∧ A.1[a]? = some (.inr (ci, fs)) ∧ k < fs.length ∧ A' = (A.1.set a (.inr (ci, fs.set k v)), A.2) := by
  unfold xj_pv at h
  split at h
  · rename_i a
    split at h
    · rename_i q hq
      by_cases hc : q.1 = ci ∧ k < q.2.length
      · rw [if_pos hc] at h
        exact ⟨a, q.2, rfl, by rw [hq, ← hc.1], hc.2, (Option.some.inj h).symm⟩
      · rw [if_neg hc] at h
        cases h
    · cases h
  · cases h
def xj_fp (own name : String) (index ci k : Nat) (ty : FieldType) : Prop := ∃ (C : String) (T : u_T) (N : Nat) (ty0 : Nat → FieldType), xj_cl[ci]? = some (C, T, N) ∧ k < N ∧ (∀ w ∈ u_ws C T N, w ∈ xj_ws) ∧ (∀ j, j < N → parseFieldDescriptor (T j).2.2.1 = some (ty0 j)) ∧ (∀ a, a < N → ∀ b, b < N → a ≠ b → (T a).2.1 ≠ (T b).2.1) ∧
  parseFieldDescriptor (T k).2.2.1 = some ty ∧ ((Cond.fieldLink own index (T k).1 (T k).2.1 (T k).2.2.1 ∈ xj_ws ∧ ((T k).2.2.2 = false ∨ ((T k).2.2.2 = true ∧ name = "<init>" ∧ (T k).1 = own))) ∨ ((T k).2.2.2 = false ∧ ∃ host, Cond.fieldLinkNest own index (T k).1 (T k).2.1 (T k).2.2.1 host ∈ xj_nw))
theorem xg_putv (B : xj_B l y0 cc nL ret hs d z) {o : xj_Rf} {ci k index : Nat} {v : Value} {ty : FieldType} {A' : xj_H} (hd : decode cc pc = .ok (.putfield index, 3)) (hf : xj_fp y0.cls y0.name index ci k ty) (hn : ∀ ad, narrow ty (xj_v (xf_g z) ad v) = xj_v (xf_g z) ad v) (hfit : ∀ ad, fits ty (xj_v (xf_g z) ad v) = true) (hv : xj_pv A o ci k v = some A') (kk : xj_W l z (pc + 3) ls st A') : xj_W l z pc ls (v :: xj_rv o :: st) A := by
  intro ad H locs cells slots lz hI hls hst hlv
  obtain ⟨a, fs, rfl, ha, hk, rfl⟩ := xj_pv_inv hv
  obtain ⟨C, T, N, ty0, hc, hN, hin, hty, hnm0, hd0, hlk⟩ := hf
  obtain ⟨hx, hb, hml, hr, hlo, htab, hown, hnm, hT, hK, hrest⟩ := B
  have he : (xj_w (xf_g z) ad A.1)[a]? = some (ad a, .inr (ci, fs.map (xj_v (xf_g z) ad))) := xj_w_at ha
  have hw : xj_wc A.1.length (.inr (ci, fs.set k v)) := by
    intro w hw
    rcases List.mem_or_eq_of_mem_set hw with h | rfl
    · exact (xj_mem_wc hI ha) w h
    · exact hst.1
  have hkk : ∀ (H1 : Heap) (locs1 : List Loc), va_P (xf_g z).1 xj_cl ((xj_w (xf_g z) ad A.1).set a (ad a, .inr (ci, (fs.map (xj_v (xf_g z) ad)).set k (xj_v (xf_g z) ad v)))) H1 → va_D (xj_al (xf_g z) (xf_d z) (xf_H z) (xf_s z)) ((xj_w (xf_g z) ad A.1).set a (ad a, .inr (ci, (fs.map (xj_v (xf_g z) ad)).set k (xj_v (xf_g z) ad v)))) → va_S (xj_al (xf_g z) (xf_d z) (xf_H z) (xf_s z)) (xf_s z).heap H1 locs1 →
      W (xf_p z) l (xf_e z) (xf_R z) (xf_s z) (xf_m z) (xf_a z) (xf_b z) (xf_t z) (xf_c z) H1 locs1 cells slots (xj_Q z) (F0 (xf_m z) (pc + 3) lz (st.map (xj_v (xf_g z) ad))) := by
    intro H1 locs1 h1 h2 h3
    rw [← List.map_set] at h1 h2
    exact kk ad H1 locs1 cells slots lz (xj_I_set (x := .inr (ci, fs.set k v)) hI hw h1 h2 h3) (by rw [xj_len_set]; exact hls) (by rw [xj_len_set]; exact hst.2.2) hlv
  have hl' : k < (fs.map (xj_v (xf_g z) ad)).length := by rw [List.length_map]; exact hk
  rcases hlk with ⟨hlk, hfin | ⟨hfin, hinit, hdecl⟩⟩ | ⟨hfin, host, hlk⟩
  · exact va_put (Ts := xj_ws) hx hb (fun w h => hT.1 w h _) hin ty0 hty hnm0 hown hK hI.2.2.1 hI.2.2.2.1 hI.2.2.2.2.2.1 a he hc k hN (hT.1 _ hlk _) (fun _ h => h) hfin hd0 (hn ad) (hfit ad) hl' hd hkk
  · exact va_putF (Ts := xj_ws) hx hb (fun w h => hT.1 w h _) hin ty0 hty hnm0 hown hK hI.2.2.1 hI.2.2.2.1 hI.2.2.2.2.2.1 a he hc k hN (hT.1 _ hlk _) (fun _ h => h) hfin (by rw [hnm]; exact hinit) hdecl hd0 (hn ad) (hfit ad) hl' hd hkk
  · exact va_putN (Ts := xj_ws) hx hb (fun w h => hT.1 w h _) hin ty0 hty hnm0 hown hK hI.2.2.1 hI.2.2.2.1 hI.2.2.2.2.2.1 a he hc k hN (va_Nw.use rfl (hT.2 _ hlk)) (fun _ h => h) hfin hd0 (hn ad) (hfit ad) hl' hd hkk
theorem xg_puti (B : xj_B l y0 cc nL ret hs d z) {o : xj_Rf} {ci k index : Nat} {x : Int32} {K : xj_H → Option xj_R} (hd : decode cc pc = .ok (.putfield index, 3)) (hf : xj_fp y0.cls y0.name index ci k .int) (h : (xj_pv A o ci k (.int x)).bind K = some (xf_r z)) (kk : ∀ A', xj_pv A o ci k (.int x) = some A' → K A' = some (xf_r z) → xj_W l z (pc + 3) ls st A') : xj_W l z pc ls (.int x :: xj_rv o :: st) A := by
  obtain ⟨A', h1, h2⟩ := Option.bind_eq_some_iff.mp h
  exact xg_putv B hd hf (fun _ => rfl) (fun _ => rfl) h1 (kk A' h1 h2)
theorem xg_putl (B : xj_B l y0 cc nL ret hs d z) {o : xj_Rf} {ci k index : Nat} {x : Int64} {K : xj_H → Option xj_R} (hd : decode cc pc = .ok (.putfield index, 3)) (hf : xj_fp y0.cls y0.name index ci k .long) (h : (xj_pv A o ci k (.long x)).bind K = some (xf_r z)) (kk : ∀ A', xj_pv A o ci k (.long x) = some A' → K A' = some (xf_r z) → xj_W l z (pc + 3) ls st A') : xj_W l z pc ls (.long x :: xj_rv o :: st) A := by
  obtain ⟨A', h1, h2⟩ := Option.bind_eq_some_iff.mp h
  exact xg_putv B hd hf (fun _ => rfl) (fun _ => rfl) h1 (kk A' h1 h2)
theorem xg_putz (B : xj_B l y0 cc nL ret hs d z) {o : xj_Rf} {ci k index : Nat} {x : Int32} {K : xj_H → Option xj_R} (hd : decode cc pc = .ok (.putfield index, 3)) (hf : xj_fp y0.cls y0.name index ci k .boolean) (h : (xj_pz A o ci k x).bind K = some (xf_r z)) (kk : ∀ A', xj_pz A o ci k x = some A' → K A' = some (xf_r z) → xj_W l z (pc + 3) ls st A') : xj_W l z pc ls (.int x :: xj_rv o :: st) A := by
  obtain ⟨A', h1, h2⟩ := Option.bind_eq_some_iff.mp h
  have h3 := h1
  unfold xj_pz at h3
  by_cases hz : x = 0 ∨ x = 1
  · rw [if_pos hz] at h3
    refine xg_putv B hd hf (fun _ => ?_) (fun _ => ?_) h3 (kk A' h1 h2)
    · rcases hz with rfl | rfl <;> rfl
    · rcases hz with rfl | rfl <;> rfl
  · rw [if_neg hz] at h3
    cases h3
theorem xg_putr (B : xj_B l y0 cc nL ret hs d z) {o r : xj_Rf} {ci k index : Nat} {ty : FieldType} (hty : (∃ n, ty = .object n) ∨ ∃ t, ty = .array t) {K : xj_H → Option xj_R} (hd : decode cc pc = .ok (.putfield index, 3)) (hf : xj_fp y0.cls y0.name index ci k ty) (h : (xj_pv A o ci k (xj_rv r)).bind K = some (xf_r z)) (kk : ∀ A', xj_pv A o ci k (xj_rv r) = some A' → K A' = some (xf_r z) → xj_W l z (pc + 3) ls st A') : xj_W l z pc ls (xj_rv r :: xj_rv o :: st) A := by
  obtain ⟨A', h1, h2⟩ := Option.bind_eq_some_iff.mp h
  refine xg_putv B hd hf (fun _ => ?_) (fun _ => ?_) h1 (kk A' h1 h2)
  · rcases hty with ⟨n, rfl⟩ | ⟨t, rfl⟩ <;> (match r with
    | none => rfl
    | some (.inl _) => rfl
    | some (.inr _) => rfl)
  · rcases hty with ⟨n, rfl⟩ | ⟨t, rfl⟩ <;> (match r with
    | none => rfl
    | some (.inl _) => rfl
    | some (.inr _) => rfl)
/-! Arrays. -/
theorem xj_ar_inv {o : xj_Rf} {t n : Nat} {f : Nat → Int32} (h : xj_ar A o t = some (n, f)) : ∃ a, o = some (.inl a) ∧ A.1[a]? = some (.inl (t, n, .inl f)) := by
  unfold xj_ar at h
  split at h
  · rename_i a
    split at h
    · rename_i t' n' f' hq
      by_cases hc : t' = t
      · rw [if_pos hc] at h
        cases h
        exact ⟨a, rfl, by rw [hq, hc]⟩
      · rw [if_neg hc] at h
        cases h
    · cases h
  · cases h
theorem xj_ai_inv {o : xj_Rf} {t : Nat} {i x : Int32} (h : xj_ai A o t i = some x) : ∃ (a n : Nat) (f : Nat → Int32), o = some (.inl a) ∧ A.1[a]? = some (.inl (t, n, .inl f)) ∧ vp_in i n ∧ x = f i.toNatClampNeg := by
  unfold xj_ai at h
  obtain ⟨⟨n, f⟩, h1, h2⟩ := Option.bind_eq_some_iff.mp h
  obtain ⟨a, ho, ha⟩ := xj_ar_inv h1
  by_cases hc : i < 0 ∨ n ≤ i.toNatClampNeg
  · rw [if_pos hc] at h2
    cases h2
  · rw [if_neg hc] at h2
    exact ⟨a, n, f, ho, ha, hc, (Option.some.inj h2).symm⟩
theorem xj_as_inv {o : xj_Rf} {t : Nat} {i x : Int32} {A' : xj_H} (h : xj_as A o t i x = some A') : ∃ (a n : Nat) (f : Nat → Int32), o = some (.inl a) ∧ A.1[a]? = some (.inl (t, n, .inl f)) ∧ vp_in i n ∧ A' = (A.1.set a (.inl (t, n, .inl (upd f i.toNatClampNeg x))), A.2) := by
  unfold xj_as at h
  split at h
  · rename_i a
    split at h
    · rename_i t' n f hq
      by_cases hc : t' = t ∧ ¬ (i < 0 ∨ n ≤ i.toNatClampNeg)
      · rw [if_pos hc] at h
        exact ⟨a, n, f, rfl, by rw [hq, hc.1], hc.2, (Option.some.inj h).symm⟩
      · rw [if_neg hc] at h
        cases h
    · cases h
  · cases h
theorem xg_iaload (B : xj_B l y0 cc nL ret hs d z) {o : xj_Rf} {i : Int32} {K : Int32 → Option xj_R} (hd : decode cc pc = .ok (.iaload, 1)) (h : (xj_ai A o 0 i).bind K = some (xf_r z)) (kk : ∀ x, xj_ai A o 0 i = some x → K x = some (xf_r z) → xj_W l z (pc + 1) ls (.int x :: st) A) : xj_W l z pc ls (.int i :: xj_rv o :: st) A := by
  obtain ⟨x, h1, h2⟩ := Option.bind_eq_some_iff.mp h
  have k := kk x h1 h2
  obtain ⟨a, n, f, rfl, ha, hin, rfl⟩ := xj_ai_inv h1
  intro ad H locs cells slots lz hI hls hst hlv
  obtain ⟨hx, hb, hml, hr, hlo, htab, hown, hnm, hT, hK, hrest⟩ := B
  have he : (xj_w (xf_g z) ad A.1)[a]? = some (ad a, .inl ((xf_g z).2.1 0, n, .inl f)) := xj_w_at ha
  exact va_iald hx hb hK hI.2.2.1 a 0 he rfl hin hd (k ad H locs cells slots lz hI hls ⟨trivial, hst.2.2⟩ hlv)
theorem xg_iastore (B : xj_B l y0 cc nL ret hs d z) {o : xj_Rf} {i x : Int32} {K : xj_H → Option xj_R} (hd : decode cc pc = .ok (.iastore, 1)) (h : (xj_as A o 0 i (x)).bind K = some (xf_r z)) (kk : ∀ A', xj_as A o 0 i (x) = some A' → K A' = some (xf_r z) → xj_W l z (pc + 1) ls st A') : xj_W l z pc ls (.int x :: .int i :: xj_rv o :: st) A := by
  obtain ⟨A', h1, h2⟩ := Option.bind_eq_some_iff.mp h
  have k := kk A' h1 h2
  obtain ⟨a, n, f, rfl, ha, hin, rfl⟩ := xj_as_inv h1
  intro ad H locs cells slots lz hI hls hst hlv
  obtain ⟨hx, hb, hml, hr, hlo, htab, hown, hnm, hT, hK, hrest⟩ := B
  have he : (xj_w (xf_g z) ad A.1)[a]? = some (ad a, .inl ((xf_g z).2.1 0, n, .inl f)) := xj_w_at ha
  refine va_iast hx hb hK hI.2.2.1 hI.2.2.2.1 hI.2.2.2.2.2.1 a 0 he rfl hin hd (fun H1 locs1 g1 g2 g3 => ?_)
  exact k ad H1 locs1 cells slots lz (xj_I_set (x := .inl (0, n, .inl (upd f i.toNatClampNeg (x)))) hI trivial g1 g2 g3) (by rw [xj_len_set]; exact hls) (by rw [xj_len_set]; exact hst.2.2.2) hlv
theorem xg_caload (B : xj_B l y0 cc nL ret hs d z) {o : xj_Rf} {i : Int32} {K : Int32 → Option xj_R} (hd : decode cc pc = .ok (.caload, 1)) (h : (xj_ai A o 1 i).bind K = some (xf_r z)) (kk : ∀ x, xj_ai A o 1 i = some x → K x = some (xf_r z) → xj_W l z (pc + 1) ls (.int x :: st) A) : xj_W l z pc ls (.int i :: xj_rv o :: st) A := by
  obtain ⟨x, h1, h2⟩ := Option.bind_eq_some_iff.mp h
  have k := kk x h1 h2
  obtain ⟨a, n, f, rfl, ha, hin, rfl⟩ := xj_ai_inv h1
  intro ad H locs cells slots lz hI hls hst hlv
  obtain ⟨hx, hb, hml, hr, hlo, htab, hown, hnm, hT, hK, hrest⟩ := B
  have he : (xj_w (xf_g z) ad A.1)[a]? = some (ad a, .inl ((xf_g z).2.1 1, n, .inl f)) := xj_w_at ha
  exact va_cald hx hb hK hI.2.2.1 a 1 he rfl hin hd (k ad H locs cells slots lz hI hls ⟨trivial, hst.2.2⟩ hlv)
theorem xg_castore (B : xj_B l y0 cc nL ret hs d z) {o : xj_Rf} {i x : Int32} {K : xj_H → Option xj_R} (hd : decode cc pc = .ok (.castore, 1)) (h : (xj_as A o 1 i (vp_nar .char x)).bind K = some (xf_r z)) (kk : ∀ A', xj_as A o 1 i (vp_nar .char x) = some A' → K A' = some (xf_r z) → xj_W l z (pc + 1) ls st A') : xj_W l z pc ls (.int x :: .int i :: xj_rv o :: st) A := by
  obtain ⟨A', h1, h2⟩ := Option.bind_eq_some_iff.mp h
  have k := kk A' h1 h2
  obtain ⟨a, n, f, rfl, ha, hin, rfl⟩ := xj_as_inv h1
  intro ad H locs cells slots lz hI hls hst hlv
  obtain ⟨hx, hb, hml, hr, hlo, htab, hown, hnm, hT, hK, hrest⟩ := B
  have he : (xj_w (xf_g z) ad A.1)[a]? = some (ad a, .inl ((xf_g z).2.1 1, n, .inl f)) := xj_w_at ha
  refine va_cast hx hb hK hI.2.2.1 hI.2.2.2.1 hI.2.2.2.2.2.1 a 1 he rfl hin hd (fun H1 locs1 g1 g2 g3 => ?_)
  exact k ad H1 locs1 cells slots lz (xj_I_set (x := .inl (1, n, .inl (upd f i.toNatClampNeg (vp_nar .char x)))) hI trivial g1 g2 g3) (by rw [xj_len_set]; exact hls) (by rw [xj_len_set]; exact hst.2.2.2) hlv
theorem xg_zaload (B : xj_B l y0 cc nL ret hs d z) {o : xj_Rf} {i : Int32} {K : Int32 → Option xj_R} (hd : decode cc pc = .ok (.baload, 1)) (h : (xj_ai A o 2 i).bind K = some (xf_r z)) (kk : ∀ x, xj_ai A o 2 i = some x → K x = some (xf_r z) → xj_W l z (pc + 1) ls (.int x :: st) A) : xj_W l z pc ls (.int i :: xj_rv o :: st) A := by
  obtain ⟨x, h1, h2⟩ := Option.bind_eq_some_iff.mp h
  have k := kk x h1 h2
  obtain ⟨a, n, f, rfl, ha, hin, rfl⟩ := xj_ai_inv h1
  intro ad H locs cells slots lz hI hls hst hlv
  obtain ⟨hx, hb, hml, hr, hlo, htab, hown, hnm, hT, hK, hrest⟩ := B
  have he : (xj_w (xf_g z) ad A.1)[a]? = some (ad a, .inl ((xf_g z).2.1 2, n, .inl f)) := xj_w_at ha
  exact va_zald hx hb hK hI.2.2.1 a 2 he rfl hin hd (k ad H locs cells slots lz hI hls ⟨trivial, hst.2.2⟩ hlv)
theorem xg_zastore (B : xj_B l y0 cc nL ret hs d z) {o : xj_Rf} {i x : Int32} {K : xj_H → Option xj_R} (hd : decode cc pc = .ok (.bastore, 1)) (h : (xj_as A o 2 i (vp_nar .boolean x)).bind K = some (xf_r z)) (kk : ∀ A', xj_as A o 2 i (vp_nar .boolean x) = some A' → K A' = some (xf_r z) → xj_W l z (pc + 1) ls st A') : xj_W l z pc ls (.int x :: .int i :: xj_rv o :: st) A := by
  obtain ⟨A', h1, h2⟩ := Option.bind_eq_some_iff.mp h
  have k := kk A' h1 h2
  obtain ⟨a, n, f, rfl, ha, hin, rfl⟩ := xj_as_inv h1
  intro ad H locs cells slots lz hI hls hst hlv
  obtain ⟨hx, hb, hml, hr, hlo, htab, hown, hnm, hT, hK, hrest⟩ := B
  have he : (xj_w (xf_g z) ad A.1)[a]? = some (ad a, .inl ((xf_g z).2.1 2, n, .inl f)) := xj_w_at ha
  refine va_zast hx hb hK hI.2.2.1 hI.2.2.2.1 hI.2.2.2.2.2.1 a 2 he rfl hin hd (fun H1 locs1 g1 g2 g3 => ?_)
  exact k ad H1 locs1 cells slots lz (xj_I_set (x := .inl (2, n, .inl (upd f i.toNatClampNeg (vp_nar .boolean x)))) hI trivial g1 g2 g3) (by rw [xj_len_set]; exact hls) (by rw [xj_len_set]; exact hst.2.2.2) hlv
theorem xj_lai_inv {o : xj_Rf} {i : Int32} {x : Int64} (h : xj_lai A o i = some x) : ∃ (a n : Nat) (f : Nat → Int64), o = some (.inl a) ∧ A.1[a]? = some (.inl (3, n, .inr (.inl f))) ∧ vp_in i n ∧ x = f i.toNatClampNeg := by
  unfold xj_lai at h
  split at h
  · rename_i a
    split at h
    · rename_i t' n f hq
      by_cases hc : t' = 3 ∧ ¬ (i < 0 ∨ n ≤ i.toNatClampNeg)
      · rw [if_pos hc] at h
        exact ⟨a, n, f, rfl, by rw [hq, hc.1], hc.2, (Option.some.inj h).symm⟩
      · rw [if_neg hc] at h
        cases h
    · cases h
  · cases h
theorem xj_las_inv {o : xj_Rf} {i : Int32} {x : Int64} {A' : xj_H} (h : xj_las A o i x = some A') : ∃ (a n : Nat) (f : Nat → Int64), o = some (.inl a) ∧ A.1[a]? = some (.inl (3, n, .inr (.inl f))) ∧ vp_in i n ∧ A' = (A.1.set a (.inl (3, n, .inr (.inl (vp_updL f i.toNatClampNeg x)))), A.2) := by
  unfold xj_las at h
  split at h
  · rename_i a
    split at h
    · rename_i t' n f hq
      by_cases hc : t' = 3 ∧ ¬ (i < 0 ∨ n ≤ i.toNatClampNeg)
      · rw [if_pos hc] at h
        exact ⟨a, n, f, rfl, by rw [hq, hc.1], hc.2, (Option.some.inj h).symm⟩
      · rw [if_neg hc] at h
        cases h
    · cases h
  · cases h
theorem xg_laload (B : xj_B l y0 cc nL ret hs d z) {o : xj_Rf} {i : Int32} {K : Int64 → Option xj_R} (hd : decode cc pc = .ok (.laload, 1)) (h : (xj_lai A o i).bind K = some (xf_r z)) (kk : ∀ x, xj_lai A o i = some x → K x = some (xf_r z) → xj_W l z (pc + 1) ls (.long x :: st) A) : xj_W l z pc ls (.int i :: xj_rv o :: st) A := by
  obtain ⟨x, h1, h2⟩ := Option.bind_eq_some_iff.mp h
  have k := kk x h1 h2
  obtain ⟨a, n, f, rfl, ha, hin, rfl⟩ := xj_lai_inv h1
  intro ad H locs cells slots lz hI hls hst hlv
  obtain ⟨hx, hb, hml, hr, hlo, htab, hown, hnm, hT, hK, hrest⟩ := B
  have he : (xj_w (xf_g z) ad A.1)[a]? = some (ad a, .inl ((xf_g z).2.1 3, n, .inr (.inl f))) := xj_w_at ha
  exact va_lald hx hb hK hI.2.2.1 a 3 he rfl hin hd (k ad H locs cells slots lz hI hls ⟨trivial, hst.2.2⟩ hlv)
theorem xg_lastore (B : xj_B l y0 cc nL ret hs d z) {o : xj_Rf} {i : Int32} {x : Int64} {K : xj_H → Option xj_R} (hd : decode cc pc = .ok (.lastore, 1)) (h : (xj_las A o i x).bind K = some (xf_r z)) (kk : ∀ A', xj_las A o i x = some A' → K A' = some (xf_r z) → xj_W l z (pc + 1) ls st A') : xj_W l z pc ls (.long x :: .int i :: xj_rv o :: st) A := by
  obtain ⟨A', h1, h2⟩ := Option.bind_eq_some_iff.mp h
  have k := kk A' h1 h2
  obtain ⟨a, n, f, rfl, ha, hin, rfl⟩ := xj_las_inv h1
  intro ad H locs cells slots lz hI hls hst hlv
  obtain ⟨hx, hb, hml, hr, hlo, htab, hown, hnm, hT, hK, hrest⟩ := B
  have he : (xj_w (xf_g z) ad A.1)[a]? = some (ad a, .inl ((xf_g z).2.1 3, n, .inr (.inl f))) := xj_w_at ha
  refine va_last hx hb hK hI.2.2.1 hI.2.2.2.1 hI.2.2.2.2.2.1 a 3 he rfl hin hd (fun H1 locs1 g1 g2 g3 => ?_)
  exact k ad H1 locs1 cells slots lz (xj_I_set (x := .inl (3, n, .inr (.inl (vp_updL f i.toNatClampNeg x)))) hI trivial g1 g2 g3) (by rw [xj_len_set]; exact hls) (by rw [xj_len_set]; exact hst.2.2.2) hlv
theorem xj_ral_inv {o : xj_Rf} {i : Int32} {x : xj_Rf} (h : xj_ral A o i = some x) : ∃ (a n : Nat) (f : Nat → Option Nat), o = some (.inl a) ∧ A.1[a]? = some (.inl (4, n, .inr (.inr (.inr (.inr f))))) ∧ vp_in i n ∧ x = (f i.toNatClampNeg).map .inl := by
  unfold xj_ral at h
  split at h
  · rename_i a
    split at h
    · rename_i t' n f hq
      by_cases hc : t' = 4 ∧ ¬ (i < 0 ∨ n ≤ i.toNatClampNeg)
      · rw [if_pos hc] at h
        exact ⟨a, n, f, rfl, by rw [hq, hc.1], hc.2, (Option.some.inj h).symm⟩
      · rw [if_neg hc] at h
        cases h
    · cases h
  · cases h
theorem xj_rf_v (g : xj_G) (ad : Nat → Nat) (r : Option Nat) : va_rf (r.map ad) = xj_v g ad (xj_rv (r.map .inl)) := by cases r <;> rfl
theorem xg_aaload (B : xj_B l y0 cc nL ret hs d z) {o : xj_Rf} {i : Int32} {K : xj_Rf → Option xj_R} (hd : decode cc pc = .ok (.aaload, 1)) (h : (xj_ral A o i).bind K = some (xf_r z)) (kk : ∀ x, xj_ral A o i = some x → K x = some (xf_r z) → xj_W l z (pc + 1) ls (xj_rv x :: st) A) : xj_W l z pc ls (.int i :: xj_rv o :: st) A := by
  obtain ⟨x, h1, h2⟩ := Option.bind_eq_some_iff.mp h
  have k := kk x h1 h2
  obtain ⟨a, n, f, rfl, ha, hin, rfl⟩ := xj_ral_inv h1
  intro ad H locs cells slots lz hI hls hst hlv
  obtain ⟨hx, hb, hml, hr, hlo, htab, hown, hnm, hT, hK, hrest⟩ := B
  have he : (xj_w (xf_g z) ad A.1)[a]? = some (ad a, .inl ((xf_g z).2.1 4, n, .inr (.inr (.inr (.inr (fun i => (f i).map ad)))))) := xj_w_at ha
  have hw : xj_wv A.1.length (xj_rv ((f i.toNatClampNeg).map .inl)) := by
    have h3 := xj_mem_wc hI ha
    cases hf : f i.toNatClampNeg with
    | none => trivial
    | some j => exact h3 _ _ hf
  refine va_aldq hx hb hK hI.2.2.1 a 4 he rfl hin hd ?_
  rw [xj_rf_v (xf_g z)]
  exact k ad H locs cells slots lz hI hls ⟨hw, hst.2.2⟩ hlv
theorem xj_ras_inv {o v : xj_Rf} {i : Int32} {ci : Nat} {A' : xj_H} (h : xj_ras A o i ci v = some A') : ∃ (a b n : Nat) (f : Nat → Option Nat) (vs : List Value), o = some (.inl a) ∧ v = some (.inl b) ∧ A.1[a]? = some (.inl (4, n, .inr (.inr (.inr (.inr f))))) ∧ A.1[b]? = some (.inr (ci, vs)) ∧ vp_in i n ∧ A' = (A.1.set a (.inl (4, n, .inr (.inr (.inr (.inr (va_up f i.toNatClampNeg (some b))))))), A.2) := by
  unfold xj_ras at h
  split at h
  · rename_i a b
    split at h
    · rename_i t' n f q hq hq2
      by_cases hc : t' = 4 ∧ q.1 = ci ∧ ¬ (i < 0 ∨ n ≤ i.toNatClampNeg)
      · rw [if_pos hc] at h
        exact ⟨a, b, n, f, q.2, rfl, rfl, by rw [hq, hc.1], by rw [hq2, ← hc.2.1], hc.2.2, (Option.some.inj h).symm⟩
      · rw [if_neg hc] at h
        cases h
    · cases h
  · cases h
theorem xg_aastore (B : xj_B l y0 cc nL ret hs d z) {o v : xj_Rf} {i : Int32} {ci : Nat} {K : xj_H → Option xj_R} (hci : ∃ r : vw_C, xj_cl[ci]? = some r ∧ r.1 = xj_en) (hd : decode cc pc = .ok (.aastore, 1)) (h : (xj_ras A o i ci v).bind K = some (xf_r z)) (kk : ∀ A', xj_ras A o i ci v = some A' → K A' = some (xf_r z) → xj_W l z (pc + 1) ls st A') : xj_W l z pc ls (xj_rv v :: .int i :: xj_rv o :: st) A := by
  obtain ⟨A', h1, h2⟩ := Option.bind_eq_some_iff.mp h
  have k := kk A' h1 h2
  obtain ⟨a, b, n, f, vs, rfl, rfl, ha, hb2, hin, rfl⟩ := xj_ras_inv h1
  obtain ⟨r, hr1, hr2⟩ := hci
  intro ad H locs cells slots lz hI hls hst hlv
  obtain ⟨hx, hb, hml, hr, hlo, htab, hown, hnm, hT, hK, hrest⟩ := B
  have he : (xj_w (xf_g z) ad A.1)[a]? = some (ad a, .inl ((xf_g z).2.1 4, n, .inr (.inr (.inr (.inr (fun i => (f i).map ad)))))) := xj_w_at ha
  have he2 : (xj_w (xf_g z) ad A.1)[b]? = some (ad b, .inr (ci, vs.map (xj_v (xf_g z) ad))) := xj_w_at hb2
  have hw : xj_wc A.1.length (.inl (4, n, .inr (.inr (.inr (.inr (va_up f i.toNatClampNeg (some b))))))) := by
    intro j q hq
    simp only [va_up] at hq
    by_cases hj : j = i.toNatClampNeg
    · rw [if_pos hj] at hq
      cases hq
      exact (List.getElem?_eq_some_iff.mp hb2).1
    · rw [if_neg hj] at hq
      exact (xj_mem_wc hI ha) j q hq
  refine va_astq hx hb hK hI.2.2.1 hI.2.2.2.1 hI.2.2.2.2.2.1 a 4 b ci he (by rw [hr2]; rfl) he2 hr1 hin hd (fun H1 locs1 g1 g2 g3 => ?_)
  have hup : va_up (fun i => (f i).map ad) i.toNatClampNeg (some (ad b)) = fun j => (va_up f i.toNatClampNeg (some b) j).map ad := by
    funext j
    simp only [va_up]
    by_cases hj : j = i.toNatClampNeg <;> simp [hj]
  rw [hup] at g1 g2
  exact k ad H1 locs1 cells slots lz (xj_I_set (x := .inl (4, n, .inr (.inr (.inr (.inr (va_up f i.toNatClampNeg (some b))))))) hI hw g1 g2 g3) (by rw [xj_len_set]; exact hls) (by rw [xj_len_set]; exact hst.2.2.2) hlv
theorem xg_alen (B : xj_B l y0 cc nL ret hs d z) {o : xj_Rf} {t : Nat} {ty : FieldType} (ht : ∀ g, (xj_tys g)[t]? = some (g.2.1 t, ty)) {K : Int32 → Option xj_R} (hd : decode cc pc = .ok (.arraylength, 1)) (h : (xj_len A o t).bind K = some (xf_r z)) (kk : ∀ x, xj_len A o t = some x → K x = some (xf_r z) → xj_W l z (pc + 1) ls (.int x :: st) A) : xj_W l z pc ls (xj_rv o :: st) A := by
  obtain ⟨x, h1, h2⟩ := Option.bind_eq_some_iff.mp h
  have k := kk x h1 h2
  unfold xj_len at h1
  split at h1
  · rename_i a
    split at h1
    · rename_i t' n y hq
      by_cases hc : t' = t
      · rw [if_pos hc] at h1
        subst hc
        intro ad H locs cells slots lz hI hls hst hlv
        obtain ⟨hx, hb, hml, hr, hlo, htab, hown, hnm, hT, hK, hrest⟩ := B
        have hx1 : ∃ y', xj_c (xf_g z) ad (.inl (t', n, y)) = .inl ((xf_g z).2.1 t', n, y') := by
          match y with
          | .inl f => exact ⟨_, rfl⟩
          | .inr (.inl f) => exact ⟨_, rfl⟩
          | .inr (.inr (.inl f)) => exact ⟨_, rfl⟩
          | .inr (.inr (.inr (.inl f))) => exact ⟨_, rfl⟩
          | .inr (.inr (.inr (.inr f))) => exact ⟨_, rfl⟩
        obtain ⟨y', hy'⟩ := hx1
        have he : (xj_w (xf_g z) ad A.1)[a]? = some (ad a, .inl ((xf_g z).2.1 t', n, y')) := by rw [xj_w_at hq, hy']
        exact va_alen hx hb hK hI.2.2.1 a t' (x := (n, y')) he (ht _) (Option.some.inj h1) hd (k ad H locs cells slots lz hI hls ⟨trivial, hst.2⟩ hlv)
      · rw [if_neg hc] at h1
        cases h1
    · cases h1
  · cases h1
end Xheap
end
section
section Xends
variable {l : Launch} {z : xj_F} {y0 : MethodName} {cc : ByteArray} {nL : Nat} {ret : Option FieldType} {hs : List (Nat × Nat × Nat × Nat)} {d pc : Nat} {ls : List (Nat × Value)} {st : List Value} {A : xj_H}
/-! Returning. -/
theorem xj_ends {ad : Nat → Nat} {H : Heap} {locs : List Loc} {cells slots : Nat} {v : Option Value} (hI : xj_I z ad A H locs cells slots) (hr : xf_r z = (.inl v, A)) (hv : ∀ w, v = some w → xj_wv A.1.length w) {t : State}
    (h : MQ (xf_b z) (fun _ _ o t => o = .returned (v.map (xj_v (xf_g z) ad)) ∧ t.heap = H) (xf_a z) (xf_s z) cells slots (xj_al (xf_g z) (xf_d z) (xf_H z) (xf_s z)) t) : xj_Q z t := by
  obtain ⟨o, hrun, hend, ⟨ho, hh⟩, L, ⟨-, hW, hsame⟩, hL⟩ := h
  refine ⟨o, hrun, hend, ad, L, cells, slots, hI.1, ?_, ?_, ?_, ?_, hI.2.2.2.2.2.1.F hh, hW, hsame, hL, ?_, ?_, ?_⟩
  · rw [hr]; exact hI.2.1
  · rw [hr, hh]; exact hI.2.2.1
  · rw [hr]; exact hI.2.2.2.1
  · rw [hr]; exact hI.2.2.2.2.1
  · rw [hr]; exact hI.2.2.2.2.2.2.1
  · rw [hr]; exact hI.2.2.2.2.2.2.2
  · rw [hr]; exact ⟨ho, hv⟩
theorem xg_iret (B : xj_B l y0 cc nL (some .int) hs d z) {x : Int32} (hd : decode cc pc = .ok (.ireturn, 1)) (h : some ((.inl (some (.int x)), A) : xj_R) = some (xf_r z)) : xj_W l z pc ls [.int x] A := by
  intro ad H locs cells slots lz hI hls hst hlv
  have hr := (Option.some.inj h).symm
  refine xw_mono (W.iret (Qc := fun _ _ o t => o = .returned ((some (Value.int x)).map (xj_v (xf_g z) ad)) ∧ t.heap = H) (free := xj_al (xf_g z) (xf_d z) (xf_H z) (xf_s z)) B.1 B.2.1 B.2.2.2.1 (fun t ht _ => ⟨rfl, ht⟩) hI.2.2.2.2.2.1.2.2 hd B.2.2.2.2.1) (fun t ht => ?_)
  exact xj_ends hI hr (fun w hw => by cases hw; trivial) ht
theorem xg_zret (B : xj_B l y0 cc nL (some .boolean) hs d z) {x : Int32} (hd : decode cc pc = .ok (.ireturn, 1)) (h : xj_rz x A = some (xf_r z)) : xj_W l z pc ls [.int x] A := by
  intro ad H locs cells slots lz hI hls hst hlv
  unfold xj_rz at h
  by_cases hz : x = 0 ∨ x = 1
  · rw [if_pos hz] at h
    have hr := (Option.some.inj h).symm
    refine xw_mono (W.zret (ty := .boolean) (Qc := fun _ _ o t => o = .returned ((some (Value.int x)).map (xj_v (xf_g z) ad)) ∧ t.heap = H) (free := xj_al (xf_g z) (xf_d z) (xf_H z) (xf_s z)) B.1 B.2.1 B.2.2.2.1 (by rcases hz with rfl | rfl <;> rfl) (fun t ht _ => ⟨rfl, ht⟩) hI.2.2.2.2.2.1.2.2 hd B.2.2.2.2.1) (fun t ht => ?_)
    exact xj_ends hI hr (fun w hw => by cases hw; trivial) ht
  · rw [if_neg hz] at h
    cases h
theorem xg_lret (B : xj_B l y0 cc nL (some .long) hs d z) {x : Int64} (hd : decode cc pc = .ok (.lreturn, 1)) (h : some ((.inl (some (.long x)), A) : xj_R) = some (xf_r z)) : xj_W l z pc ls [.long x] A := by
  intro ad H locs cells slots lz hI hls hst hlv
  have hr := (Option.some.inj h).symm
  refine xw_mono (W.lret (Qc := fun _ _ o t => o = .returned ((some (Value.long x)).map (xj_v (xf_g z) ad)) ∧ t.heap = H) (free := xj_al (xf_g z) (xf_d z) (xf_H z) (xf_s z)) B.1 B.2.1 B.2.2.2.1 (fun t ht _ => ⟨rfl, ht⟩) hI.2.2.2.2.2.1.2.2 hd B.2.2.2.2.1) (fun t ht => ?_)
  exact xj_ends hI hr (fun w hw => by cases hw; trivial) ht
theorem xg_vret (B : xj_B l y0 cc nL none hs d z) (hd : decode cc pc = .ok (.return_, 1)) (h : some ((.inl none, A) : xj_R) = some (xf_r z)) : xj_W l z pc ls [] A := by
  intro ad H locs cells slots lz hI hls hst hlv
  have hr := (Option.some.inj h).symm
  refine xw_mono (W.vret (Qc := fun _ _ o t => o = .returned ((none : Option Value).map (xj_v (xf_g z) ad)) ∧ t.heap = H) (free := xj_al (xf_g z) (xf_d z) (xf_H z) (xf_s z)) B.1 B.2.1 B.2.2.2.1 (fun t ht _ => ⟨rfl, ht⟩) hI.2.2.2.2.2.1.2.2 hd B.2.2.2.2.1) (fun t ht => ?_)
  exact xj_ends hI hr (fun w hw => by cases hw) ht
theorem xg_aret {rt : FieldType} (B : xj_B l y0 cc nL (some rt) hs d z) (hrt : (∃ n, rt = .object n) ∨ ∃ t, rt = .array t) {r : xj_Rf} (hd : decode cc pc = .ok (.areturn, 1)) (h : some ((.inl (some (xj_rv r)), A) : xj_R) = some (xf_r z)) : xj_W l z pc ls [xj_rv r] A := by
  intro ad H locs cells slots lz hI hls hst hlv
  have hr := (Option.some.inj h).symm
  refine xw_mono (W.aret (v := xj_v (xf_g z) ad (xj_rv r)) (Qc := fun _ _ o t => o = .returned ((some (xj_rv r)).map (xj_v (xf_g z) ad)) ∧ t.heap = H) (free := xj_al (xf_g z) (xf_d z) (xf_H z) (xf_s z)) B.1 B.2.1 B.2.2.2.1 hrt ?_ (fun t ht _ => ⟨rfl, ht⟩) hI.2.2.2.2.2.1.2.2 hd B.2.2.2.2.1) (fun t ht => ?_)
  · match r with
    | none => exact Or.inl rfl
    | some (.inl j) => exact Or.inr ⟨_, rfl⟩
    | some (.inr j) => exact Or.inr ⟨_, rfl⟩
  · exact xj_ends hI hr (fun w hw => by cases hw; exact hst.1) ht
/-! Making. -/
theorem xj_mk_inv {x : xj_C} {n : Nat} {A' : xj_H} (h : xj_mk A x n = some A') : 1 ≤ A.2.1 ∧ n ≤ A.2.2 ∧ A' = (A.1 ++ [x], A.2.1 - 1, A.2.2 - n) := by
  unfold xj_mk at h
  by_cases hc : 1 ≤ A.2.1 ∧ n ≤ A.2.2
  · rw [if_pos hc] at h
    exact ⟨hc.1, hc.2, (Option.some.inj h).symm⟩
  · rw [if_neg hc] at h
    cases h
def xj_ext (ad : Nat → Nat) (n q : Nat) : Nat → Nat := fun k => if k = n then q else ad k
theorem xj_ext_lt {ad : Nat → Nat} {n q k : Nat} (h : k < n) : xj_ext ad n q k = ad k := by
  unfold xj_ext
  rw [if_neg (by omega)]
theorem xj_w_ext {g : xj_G} {ad : Nat → Nat} {Ac : List xj_C} {x : xj_C} {q : Nat} (hw : ∀ y ∈ Ac, xj_wc Ac.length y) (hx : ∀ ad', xj_c g ad' x = xj_c g ad x) : xj_w g (xj_ext ad Ac.length q) (Ac ++ [x]) = xj_w g ad Ac ++ [(q, xj_c g ad x)] := by
  rw [xj_w_push, xj_w_same (fun k hk => xj_ext_lt hk) hw, hx]
  simp [xj_ext]
/-- behind a making: the same frame with one cell more -/
theorem xj_made {ad : Nat → Nat} {H H1 : Heap} {locs : List Loc} {cells slots n q : Nat} {x : xj_C} {lz : Array Slot} {pc' : Nat} (hI : xj_I z ad A H locs cells slots) (hls : xj_wls A.1.length ls) (hst : xj_wst A.1.length st)
    (hlv : lv_has lz (xf_c z).maxLocals (ls.map (fun q => (q.1, xj_v (xf_g z) ad q.2)))) (hx : ∀ ad', xj_c (xf_g z) ad' x = xj_c (xf_g z) ad x) (hwx : xj_wc (A.1.length + 1) x) (h1 : 1 ≤ A.2.1) (h2 : n ≤ A.2.2)
    (hP : va_P (xf_g z).1 xj_cl (xj_w (xf_g z) ad A.1 ++ [(q, xj_c (xf_g z) ad x)]) H1) (hD : va_D (xj_al (xf_g z) (xf_d z) (xf_H z) (xf_s z)) (xj_w (xf_g z) ad A.1 ++ [(q, xj_c (xf_g z) ad x)]))
    (hS : va_S (xj_al (xf_g z) (xf_d z) (xf_H z) (xf_s z)) (xf_s z).heap H1 locs)
    (k : xj_W l z pc' ls (xj_rv (xj_o A.1.length) :: st) (A.1 ++ [x], A.2.1 - 1, A.2.2 - n)) :
    W (xf_p z) l (xf_e z) (xf_R z) (xf_s z) (xf_m z) (xf_a z) (xf_b z) (xf_t z) (xf_c z) H1 locs (cells + 1) (slots + n) (xj_Q z) (F0 (xf_m z) pc' lz (.ref q :: st.map (xj_v (xf_g z) ad))) := by
  have hle : A.1.length ≤ (A.1 ++ [x]).length := by simp
  have hk := k (xj_ext ad A.1.length q) H1 locs (cells + 1) (slots + n) lz ?_ (xj_wls_mono hle hls) ⟨?_, xj_wst_mono hle hst⟩ ?_
  · have he : (xj_rv (xj_o A.1.length) :: st).map (xj_v (xf_g z) (xj_ext ad A.1.length q)) = .ref q :: st.map (xj_v (xf_g z) ad) := by
      rw [List.map_cons, xj_st_same (fun k hk => xj_ext_lt hk) hst]
      simp [xj_rv, xj_o, xj_v, xj_ext]
    rw [he] at hk
    exact hk
  · obtain ⟨i1, i2, i3, i4, i5, i6, i7, i8⟩ := hI
    refine ⟨fun j hj => ?_, ?_, ?_, ?_, ?_, hS, ?_, ?_⟩
    · rw [xj_ext_lt (Nat.lt_of_lt_of_le hj i2)]; exact i1 j hj
    · exact Nat.le_trans i2 hle
    · rw [xj_w_ext i5 hx]; exact hP
    · rw [xj_w_ext i5 hx]; exact hD
    · intro y hy
      rcases List.mem_append.mp hy with hy | hy
      · exact xj_wc_mono hle (i5 y hy)
      · rw [List.mem_singleton.mp hy]
        show xj_wc (A.1 ++ [x]).length x
        rw [List.length_append]
        exact hwx
    · show cells + 1 + (A.2.1 - 1) ≤ _
      omega
    · show slots + n + (A.2.2 - n) ≤ _
      omega
  · show A.1.length < (A.1 ++ [x]).length
    simp
  · rw [xj_ls_same (fun k hk => xj_ext_lt hk) hls]; exact hlv
def xj_pl : List Value → Bool
  | [] => true
  | .int _ :: r => xj_pl r
  | .long _ :: r => xj_pl r
  | .null :: r => xj_pl r
  | _ :: _ => false
theorem xj_pl_same (g : xj_G) (ad : Nat → Nat) : ∀ {fs : List Value}, xj_pl fs = true → fs.map (xj_v g ad) = fs
  | [], _ => rfl
  | .int _ :: r, h => by rw [List.map_cons, xj_pl_same g ad (fs := r) h]; rfl
  | .long _ :: r, h => by rw [List.map_cons, xj_pl_same g ad (fs := r) h]; rfl
  | .null :: r, h => by rw [List.map_cons, xj_pl_same g ad (fs := r) h]; rfl
theorem xj_pl_wf {n : Nat} : ∀ {fs : List Value}, xj_pl fs = true → ∀ v ∈ fs, xj_wv n v
  | .int _ :: r, h, v, hv => by
    rcases List.mem_cons.mp hv with rfl | hv
    · trivial
    · exact xj_pl_wf (fs := r) h v hv
  | .long _ :: r, h, v, hv => by
    rcases List.mem_cons.mp hv with rfl | hv
    · trivial
    · exact xj_pl_wf (fs := r) h v hv
  | .null :: r, h, v, hv => by
    rcases List.mem_cons.mp hv with rfl | hv
    · trivial
    · exact xj_pl_wf (fs := r) h v hv
def xj_nk (own : String) (index ci N : Nat) (fs : List Value) : Prop := ∃ (C : String) (T : u_T) (ty : Nat → FieldType), xj_cl[ci]? = some (C, T, N) ∧ (∀ w ∈ u_ws C T N, w ∈ xj_ws) ∧ (∀ j, j < N → parseFieldDescriptor (T j).2.2.1 = some (ty j)) ∧ Cond.classLink own index C ∈ xj_ws ∧ Cond.instantiable C N ∈ xj_ws ∧ Cond.initialized C ∈ xj_ws ∧ (∀ j, j < N → defaultValue (ty j) = vp_V fs j) ∧ xj_pl fs = true
theorem xg_new (B : xj_B l y0 cc nL ret hs d z) {index ci N : Nat} {fs : List Value} {K : xj_H → Option xj_R} (hd : decode cc pc = .ok (.new index, 3)) (hf : xj_nk y0.cls index ci N fs) (h : (xj_mk A (.inr (ci, fs)) N).bind K = some (xf_r z)) (kk : ∀ A', xj_mk A (.inr (ci, fs)) N = some A' → K A' = some (xf_r z) → xj_W l z (pc + 3) ls (xj_rv (xj_o A.1.length) :: st) A') : xj_W l z pc ls st A := by
  obtain ⟨A', h1, h2⟩ := Option.bind_eq_some_iff.mp h
  have k := kk A' h1 h2
  obtain ⟨g1, g2, rfl⟩ := xj_mk_inv h1
  obtain ⟨C, T, ty, hc, hin, hty, w1, w2, w3, hdf, hpl⟩ := hf
  intro ad H locs cells slots lz hI hls hst hlv
  obtain ⟨hx, hb, hml, hr, hlo, htab, hown, hnm, hT, hK, hS, hP0, hR, htr⟩ := B
  have hc0 : ∀ ad', xj_c (xf_g z) ad' (.inr (ci, fs)) = .inr (ci, fs) := fun ad' => by simp only [xj_c, xj_pl_same _ _ hpl]
  refine va_new (Ts := xj_ws) (c0 := xf_c z) hx hb (fun w h => hT.1 w h _) hin ty hty hown (hT.1 _ w1 _) (hT.1 _ w2 _) (hT.1 _ w3 _) hK hI.2.2.1 hI.2.2.2.1 hI.2.2.2.2.2.1 (fun q hq => Or.inr hq) hc hdf ?_ ?_ hd (fun q H1 p1 p2 p3 => ?_)
  · rw [hR]; show cells + 1 ≤ (xf_H z).2.1; have := hI.2.2.2.2.2.2.1; omega
  · rw [hR]; show slots + N ≤ (xf_H z).2.2; have := hI.2.2.2.2.2.2.2; omega
  · exact xj_made (x := .inr (ci, fs)) hI hls hst hlv (fun ad' => by rw [hc0, hc0]) (xj_pl_wf hpl) g1 g2 (by rw [hc0]; exact p1) (by rw [hc0]; exact p2) p3 k
theorem xj_cA {g : xj_G} {U : State} {t : Nat} {ty : FieldType} {cA : ClassId} (ht : (xj_tys g)[t]? = some (g.2.1 t, ty)) (hty : ∀ C, ty ≠ .object C) (hK : va_K g.1 xj_cl (xj_tys g) U) (hK' : va_K g.1 xj_cl (xj_tys g ++ [(cA, ty)]) U) : cA = g.2.1 t := by
  have h1 := (hK.2 t _ ht).2
  have h2 := (hK'.2 (xj_tys g).length (cA, ty) (by simp)).2
  cases ty with
  | object C => exact absurd rfl (hty C)
  | _ => exact Option.some.inj (h2.symm.trans h1)
theorem xj_cAo {g : xj_G} {U : State} {t : Nat} {C : String} {cA : ClassId} (ht : (xj_tys g)[t]? = some (g.2.1 t, .object C)) (hK : va_K g.1 xj_cl (xj_tys g) U) (hK' : va_K g.1 xj_cl (xj_tys g ++ [(cA, .object C)]) U) : cA = g.2.1 t := by
  obtain ⟨_, _, -, -, -, h1⟩ := (hK.2 t _ ht).2
  obtain ⟨_, _, -, -, -, h2⟩ := (hK'.2 (xj_tys g).length (cA, .object C) (by simp)).2
  exact Option.some.inj (h2.symm.trans h1)
theorem xg_newa (B : xj_B l y0 cc nL ret hs d z) {atype : ArrayType} {ty : FieldType} {t N : Nat} {n : Int32} {a1 : (Nat → Int32) ⊕ (Nat → Int64) ⊕ (Nat → UInt32) ⊕ (Nat → UInt64) ⊕ (Nat → Option Nat)} {K : xj_H → Option xj_R} (hd : decode cc pc = .ok (.newarray atype, 2)) (hta : newarray.typeOf atype = ty) (ht : ∀ g, (xj_tys g)[t]? = some (g.2.1 t, ty)) (hty : ∀ C, ty ≠ .object C) (hw : Cond.arrayClass ty ∈ xj_ws)
    (ha : ∀ cA : ClassId, vp_cell cA (N, a1) = arrV cA N (fun _ => defaultValue ty)) (hax : ∀ g ad, xj_c g ad (.inl (t, N, a1)) = .inl (g.2.1 t, N, a1)) (hawf : ∀ k, xj_wc k (.inl (t, N, a1))) (hn : ¬ n < 0) (hN : n.toNatClampNeg = N) (hby : N * componentBytes ty ≤ 536870912)
    (h : (xj_mk A (.inl (t, N, a1)) N).bind K = some (xf_r z)) (kk : ∀ A', xj_mk A (.inl (t, N, a1)) N = some A' → K A' = some (xf_r z) → xj_W l z (pc + 2) ls (xj_rv (xj_o A.1.length) :: st) A') : xj_W l z pc ls (.int n :: st) A := by
  obtain ⟨A', h1, h2⟩ := Option.bind_eq_some_iff.mp h
  have k := kk A' h1 h2
  obtain ⟨g1, g2, rfl⟩ := xj_mk_inv h1
  intro ad H locs cells slots lz hI hls hst hlv
  obtain ⟨hx, hb, hml, hr, hlo, htab, hown, hnm, hT, hK, hS, hP0, hR, htr⟩ := B
  refine va_newa (a0 := (N, a1)) (ty := ty) hx hb (by rw [hta]; exact hT.1 _ hw _) hta hK hI.2.2.1 hI.2.2.2.1 hI.2.2.2.2.2.1 (fun q hq => Or.inr hq) ha hn hN hby ?_ ?_ hd (fun q cA H1 p0 p1 p2 p3 => ?_)
  · rw [hR]; show cells + 1 ≤ (xf_H z).2.1; have := hI.2.2.2.2.2.2.1; omega
  · rw [hR]; show slots + N ≤ (xf_H z).2.2; have := hI.2.2.2.2.2.2.2; omega
  · have hcA := xj_cA (ht _) hty hK p0
    subst hcA
    exact xj_made (x := .inl (t, N, a1)) hI hls hst.2 hlv (fun ad' => by rw [hax, hax]) (hawf _) g1 g2 (by rw [hax]; exact p1) (by rw [hax]; exact p2) p3 k
theorem xg_newq (B : xj_B l y0 cc nL ret hs d z) {index N : Nat} {n : Int32} {K : xj_H → Option xj_R} (hd : decode cc pc = .ok (.anewarray index, 3)) (hw : Cond.classLink y0.cls index xj_en ∈ xj_ws) (hn : ¬ n < 0) (hN : n.toNatClampNeg = N) (hby : N * 4 ≤ 536870912)
    (h : (xj_mk A (.inl (4, N, .inr (.inr (.inr (.inr (fun _ => none)))))) N).bind K = some (xf_r z)) (kk : ∀ A', xj_mk A (.inl (4, N, .inr (.inr (.inr (.inr (fun _ => none)))))) N = some A' → K A' = some (xf_r z) → xj_W l z (pc + 3) ls (xj_rv (xj_o A.1.length) :: st) A') : xj_W l z pc ls (.int n :: st) A := by
  obtain ⟨A', h1, h2⟩ := Option.bind_eq_some_iff.mp h
  have k := kk A' h1 h2
  obtain ⟨g1, g2, rfl⟩ := xj_mk_inv h1
  intro ad H locs cells slots lz hI hls hst hlv
  obtain ⟨hx, hb, hml, hr, hlo, htab, hown, hnm, hT, hK, hS, hP0, hR, htr⟩ := B
  refine va_newq (C := xj_en) hx hb hown (hT.1 _ hw _) hS.2.1 hK hI.2.2.1 hI.2.2.2.1 hI.2.2.2.2.2.1 (fun q hq => Or.inr hq) hn hN hby ?_ ?_ hd (fun q cA H1 p0 p1 p2 p3 => ?_)
  · rw [hR]; show cells + 1 ≤ (xf_H z).2.1; have := hI.2.2.2.2.2.2.1; omega
  · rw [hR]; show slots + N ≤ (xf_H z).2.2; have := hI.2.2.2.2.2.2.2; omega
  · have hcA := xj_cAo (t := 4) rfl hK p0
    subst hcA
    exact xj_made (x := .inl (4, N, .inr (.inr (.inr (.inr (fun _ => none)))))) hI hls hst.2 hlv (fun ad' => rfl) (fun _ _ h => by cases h) g1 g2 p1 p2 p3 k
/-! Object's own constructor. -/
theorem xg_objInit (B : xj_B l y0 cc nL ret hs d z) {index : Nat} {o : xj_Rf} {a : Nat} (ho : o = some (.inl a)) (hd : decode cc pc = .ok (.invokespecial index, 3)) (w1 : Cond.methodLink y0.cls index Lib.objectInit ∈ xj_ws) (w2 : Cond.instanceMethod Lib.objectInit ∈ xj_ws) (w3 : Cond.code Lib.objectInit ⟨#[0xb1]⟩ 1 none ∈ xj_ws) (hdp : 1 ≤ d) (hst8 : (st.map fun v => v.category).sum ≤ 8) (k : xj_W l z (pc + 3) ls st A) : xj_W l z pc ls (xj_rv o :: st) A := by
  subst ho
  intro ad H locs cells slots lz hI hls hst hlv
  obtain ⟨hx, hb, hml, hr, hlo, htab, hown, hnm, hT, hK, hS, hP0, hR, htr⟩ := B
  refine W.objInit hx hb hown (hT.1 _ w1 _) (hT.1 _ w2 _) (hT.1 _ w3 _) (g := F0 (xf_m z) pc lz ((xj_rv (some (.inl a)) :: st).map (xj_v (xf_g z) ad))) rfl hlv.1 rfl hd ?_ ?_ (k ad H locs cells slots lz hI hls hst.2 hlv)
  · rw [hR]; exact hdp
  · rw [hR]
    have h8 : ((st.map (xj_v (xf_g z) ad)).map fun v => v.category).sum ≤ 8 := by
      rw [List.map_map]
      have : ((fun v : Value => v.category) ∘ xj_v (xf_g z) ad) = fun v => v.category := funext fun v => xj_v_cat _ _ v
      rw [this]; exact hst8
    have := lv_room (m := xf_m z) (pc := pc) (ls := lz) (rest := (xj_rv (some (.inl a)) :: st).map (xj_v (xf_g z) ad)) h8
    show _ + 12 ≤ 40 * d
    omega
end Xends
end
section
section Xcalls
variable {l : Launch} {z : xj_F} {y0 : MethodName} {cc : ByteArray} {nL : Nat} {ret : Option FieldType} {hs : List (Nat × Nat × Nat × Nat)} {d pc : Nat} {ls : List (Nat × Value)} {st : List Value} {A : xj_H}
theorem xj_pre.at {g : xj_G} {ad : Nat → Nat} {A : xj_H} {T U : State} (h : xj_pre g ad A T) (hH : U.heap = T.heap) (hW : T.WarmedH U.vm) : xj_pre g ad A U := by
  obtain ⟨h1, h2, h3, h4, h5, h6⟩ := h
  have he : xj_al g ad A U = xj_al g ad A T := by unfold xj_al; rw [hH]
  refine ⟨h1.warm hW, h2.moved hW.alike, ?_, by rw [hH]; exact h4, h5, h6⟩
  rw [he, hH]
  exact xj_S.warm hW h3
/-- a call by a contract, however it ends -/
theorem xc_pay {p : Program} {e : Env} {R : Room} {s : State} {m : MethodId} {args : Array Value} {below : List Frame} {meth : Method} {c : Code} {T : State} {locs : List Loc} {cells slots : Nat}
    (X : Stand p l e R s m args below meth c T locs cells slots) {y : MethodName} {cy : ByteArray} {nLy : Nat} {rety : Option FieldType} {hsy : List (Nat × Nat × Nat × Nat)} {d' : Nat} {av : List Value} {A : xj_H} {r : xj_R} (hM : xj_M l y cy nLy rety hsy d' av A r) (g : xj_G) (ad : Nat → Nat)
    (hpre : xj_pre g ad A T) (hwa : xj_wst A.1.length av) {mk : MethodId} (hn : T.methodNamed? y = some mk) (hwy : xj_cw y cy nLy rety hsy ∈ xj_ws) (hwi : Cond.initialized y.cls ∈ xj_ws) (hfr : d' + 1 ≤ R.frames) (hlo : 8 + (nLy + 11) + 40 * d' ≤ R.locals) (hce : cells + A.2.1 ≤ R.cells) (hsl : slots + A.2.2 ≤ R.slots)
    {gf : JFrame} {ig : Instr} {len : Nat} (hg : gf.method = m) (hsize : gf.locals.size = c.maxLocals) (hdg : decode c.code gf.pc = .ok (ig, len)) (hW : 2 * gf.monitorRoom + (gf.stack.map fun v => v.category).sum ≤ 8) :
    ∃ (o : Outcome) (t : State) (ad' : Nat → Nat) (L : List Loc) (k n : Nat) (Bt : State), (∀ j, j < A.1.length → ad' j = ad j) ∧ A.1.length ≤ r.2.1.length ∧ va_P g.1 xj_cl (xj_w g ad' r.2.1) Bt.heap ∧ va_D (xj_al g ad A T) (xj_w g ad' r.2.1) ∧ (∀ x ∈ r.2.1, xj_wc r.2.1.length x) ∧ (T.heap.size ≤ Bt.heap.size ∧ ∀ q : Nat, q < T.heap.size → ¬ xj_al g ad A T q → Bt.heap[q]? = T.heap[q]?) ∧
      (∀ q ∈ L, xj_al g ad A T q.base) ∧ k + r.2.2.1 ≤ A.2.1 ∧ n + r.2.2.2 ≤ A.2.2 ∧ t.heap = Bt.heap ∧ xj_O g ad' r T o t ∧ Stand p l e R s m args below meth c Bt (locs ++ L) (cells + k) (slots + n) ∧
      Steps p.tables e below (doInvoke e (T.setTop gf) [] mk (av.map (xj_v g ad)).toArray).1 (match o with
        | .returned v => Bt.setTop { gf with pc := gf.pc + len, stack := v.toList ++ gf.stack }
        | .threw x => (Bt.setTop gf).pushFrame (.throwing x)) := by
  have hcw := hpre.1.1 _ hwy (av.map (xj_v g ad)).toArray
  have hci := hpre.1.1 _ hwi (av.map (xj_v g ad)).toArray
  obtain ⟨methY, cY, hmY, hcY, -, hlY, -, -, -, -⟩ := xj_cw_spec hn hcw
  obtain ⟨kY, hkY, -⟩ := className_of_methodNamed hn
  have hinitY : kY.init = .initialized := Cond.initialized_spec (findClass_of_methodNamed hn) hkY hci
  have h : At T gf.method c below := by rw [hg]; exact X.here
  have happ : (headSpec [xj_cw y cy nLy rety hsy] (xj_rm d' A)).appliesLoose y e.platform (T.calling gf mk (av.map (xj_v g ad)).toArray) = true :=
    Spec.appliesLoose_calling (g := gf) h hdg hn hkY hinitY (X.room_calling (g := gf) (R' := xj_rm d' A) hsize hmY hcY hfr (by rw [hlY]; show _ + _ + _ + 40 * d' ≤ _; omega) hce hsl) (atoms_intro fun w hw => by rw [List.mem_singleton.mp hw]; exact hcw)
  obtain ⟨mid, hmid⟩ := h.above
  have hframes : (T.setTop gf).frames = (.java gf :: mid) ++ below := by rw [State.frames_setTop' gf h.top, hmid]; rfl
  obtain ⟨o, t, hsteps, -, hend, hq⟩ := Steps.callFree (hM g ad) p X.admits X.cas X.clock (acts := []) hframes happ ⟨rfl, hwa, hpre.at rfl (State.WarmedH.refl T)⟩ trivial
  obtain ⟨ad', L, k, n, q1, q2, q3, q4, q5, q6, q7, q8, q9, q10, q11, q12⟩ := hq
  rw [State.frames_setTop' gf h.top] at hend
  obtain ⟨e2, s2, s3, s4, s5, s6⟩ := id q8
  have hW' : T.WarmedH t.vm := q7
  obtain ⟨g₀, hg0⟩ := Option.isSome_iff_exists.mp h.top
  obtain ⟨rr, hr⟩ := State.topJava?_eq_some.mp hg0
  have hr' : (({ T with heap := t.heap, slotsUsed := t.slotsUsed } : State).setVm t.vm).frames = .java g₀ :: rr := hr
  have e3 : t = ({ (T.calling gf mk (av.map (xj_v g ad)).toArray).setFrames t.frames with heap := t.heap, slotsUsed := t.slotsUsed } : State).setVm t.vm := by
    have hh : t = ({ t with vm := (T.calling gf mk (av.map (xj_v g ad)).toArray).vm } : State).setVm t.vm := rfl
    rw [show ({ t with vm := (T.calling gf mk (av.map (xj_v g ad)).toArray).vm } : State) = _ from e2] at hh
    exact hh
  have hsame : T.sameButNew ({ T with heap := t.heap, slotsUsed := t.slotsUsed } : State) L k n := by
    refine ⟨?_, s2, s3, s4, s5, s6⟩
    obtain ⟨th, hth, -⟩ := State.frames_cons hr
    show ({ T with heap := t.heap, slotsUsed := t.slotsUsed } : State) = { T.setFrames T.frames with heap := t.heap, slotsUsed := t.slotsUsed }
    rw [State.setFrames_self hth]
  subst hg
  refine ⟨o, t, ad', L, k, n, (({ T with heap := t.heap, slotsUsed := t.slotsUsed } : State).setVm t.vm), q1, q2, q3, q4, q5, q6, q9, q10, q11, rfl, q12, ⟨X.admits, X.cas, X.clock, X.frames, X.room, X.hears, X.method, X.code, (X.here.setHeapUsed t.heap t.slotsUsed).setVm hW'.alike, X.tail, State.WarmedH.trans X.warmed hW', X.limits, X.bytes, X.same.trans (hsame.setVm s.vm)⟩, ?_⟩
  cases o with
  | returned v =>
    obtain ⟨c₂, i₂, len₂, hc₂, hd₂, hf₂⟩ := hend
    have hcc : c₂ = c := by
      have h1 : t.code? gf.method = T.code? gf.method := by rw [State.code?_eq, State.code?_eq, hW'.alike.method?]
      exact Option.some.inj (hc₂.symm.trans (h1.trans h.code))
    subst hcc
    have hlen : len₂ = len := by rw [hdg] at hd₂; cases hd₂; rfl
    subst hlen
    have hs₂ : t = (({ T with heap := t.heap, slotsUsed := t.slotsUsed } : State).setVm t.vm).setTop { gf with pc := gf.pc + len₂, stack := v.toList ++ gf.stack } := by
      refine e3.trans ?_
      rw [hf₂, State.calling_eq h.top, State.setFrames_setFrames, State.setTop_of_frames _ hr', hr]
      rfl
    show Steps p.tables e below _ ((({ T with heap := t.heap, slotsUsed := t.slotsUsed } : State).setVm t.vm).setTop { gf with pc := gf.pc + len₂, stack := v.toList ++ gf.stack })
    rw [← hs₂]
    exact hsteps
  | threw x =>
    have hf₂ : t.frames = .throwing x :: .java gf :: T.frames.tail := hend
    have hs₂ : t = ((({ T with heap := t.heap, slotsUsed := t.slotsUsed } : State).setVm t.vm).setTop gf).pushFrame (.throwing x) := by
      refine e3.trans ?_
      rw [hf₂, State.calling_eq h.top, State.setFrames_setFrames, State.pushFrame, State.frames_setTop _ hr', State.setTop_of_frames _ hr', State.setFrames_setFrames, hr]
      rfl
    show Steps p.tables e below _ (((({ T with heap := t.heap, slotsUsed := t.slotsUsed } : State).setVm t.vm).setTop gf).pushFrame (.throwing x))
    rw [← hs₂]
    exact hsteps
/-- a thrown object of the class x lies over the frame at pc -/
def xj_X (l : Launch) (z : xj_F) (pc : Nat) (ls : List (Nat × Value)) (x : String) (A : xj_H) : Prop :=
  ∀ (ad : Nat → Nat) (H : Heap) (locs : List Loc) (cells slots : Nat) (lz : Array Slot) (stC : List Value) (a : Addr) (cell : Cell) (T : State), xj_I z ad A H locs cells slots → xj_wls A.1.length ls →
    lv_has lz (xf_c z).maxLocals (ls.map (fun q => (q.1, xj_v (xf_g z) ad q.2))) → H[a]? = some cell → cell.vm = .none → (xf_s z).vm.findClass x = some cell.cls → T.heap = H →
    Stand (xf_p z) l (xf_e z) (xf_R z) (xf_s z) (xf_m z) (xf_a z) (xf_b z) (xf_t z) (xf_c z) T locs cells slots → ∃ t, Steps (xf_p z).tables (xf_e z) (xf_b z) ((T.setTop (F0 (xf_m z) pc lz stC)).pushFrame (.throwing a)) t ∧ xj_Q z t
theorem xj_X.leave (B : xj_B l y0 cc nL ret hs d z) {x : String} (hout : (tableOf hs).all (fun q => !covers q pc) = true) (hr : xf_r z = (.inr x, A)) : xj_X l z pc ls x A := by
  intro ad H locs cells slots lz stC a cell T hI hls hlv hcell hvm hcls hT X
  have htab := B.2.2.2.2.2.1
  have hlocks := B.2.2.2.2.1
  obtain ⟨h1, h2, h3, h4, h5⟩ := X.leaveThrown a (g := F0 (xf_m z) pc lz stC) rfl rfl rfl (outside_of_table htab hout) hlocks
  refine ⟨_, h1, .threw a, h2, h3, ad, locs, cells, slots, hI.1, ?_, ?_, ?_, ?_, ?_, h4, h5, hI.2.2.2.2.2.1.2.2, ?_, ?_, ?_⟩
  · rw [hr]; exact hI.2.1
  · rw [hr]; show va_P _ _ _ T.heap; rw [hT]; exact hI.2.2.1
  · rw [hr]; exact hI.2.2.2.1
  · rw [hr]; exact hI.2.2.2.2.1
  · exact hI.2.2.2.2.2.1.F (t := T.setFrames _) hT
  · rw [hr]; exact hI.2.2.2.2.2.2.1
  · rw [hr]; exact hI.2.2.2.2.2.2.2
  · rw [hr]; exact ⟨a, cell, rfl, by show T.heap[a]? = _; rw [hT]; exact hcell, hvm, hcls⟩
/-- how the machine comes from an invoking instruction at pc to the method y -/
def xj_inv (l : Launch) (z : xj_F) (pc : Nat) (y : MethodName) (n : Nat) (need : Heap → List Value → Prop) : Prop :=
  ∀ (T : State) (locs : List Loc) (cells slots : Nat) (lz : Array Slot) (av rest : List Value), Stand (xf_p z) l (xf_e z) (xf_R z) (xf_s z) (xf_m z) (xf_a z) (xf_b z) (xf_t z) (xf_c z) T locs cells slots → av.length = n → need T.heap av →
    ∃ (vm₁ : Vm) (mk : MethodId), Stand (xf_p z) l (xf_e z) (xf_R z) (xf_s z) (xf_m z) (xf_a z) (xf_b z) (xf_t z) (xf_c z) (T.setVm vm₁) locs cells slots ∧ (T.setVm vm₁).methodNamed? y = some mk ∧
      ∀ target, Steps (xf_p z).tables (xf_e z) (xf_b z) (doInvoke (xf_e z) ((T.setVm vm₁).setTop (F0 (xf_m z) pc lz rest)) [] mk av.toArray).1 target → Steps (xf_p z).tables (xf_e z) (xf_b z) (T.setTop (F0 (xf_m z) pc lz (av.reverse ++ rest))) target
theorem xj_al_sub {ad : Nat → Nat} {H : Heap} {locs : List Loc} {cells slots : Nat} (hI : xj_I z ad A H locs cells slots) {T : State} (hT : T.heap = H) {q : Nat} (h : xj_al (xf_g z) ad A T q) : xj_al (xf_g z) (xf_d z) (xf_H z) (xf_s z) q := by
  rcases h with ⟨k, e, hk⟩ | h
  · exact hI.2.2.2.1.2 k _ hk
  · refine Or.inr (Nat.le_trans hI.2.2.2.2.2.1.1 ?_)
    rw [← hT]; exact h
theorem xj_pre_at (B : xj_B l y0 cc nL ret hs d z) {ad : Nat → Nat} {H : Heap} {locs : List Loc} {cells slots : Nat} (hI : xj_I z ad A H locs cells slots) {T : State} (hT : T.heap = H) (hW : (xf_s z).WarmedH T.vm) : xj_pre (xf_g z) ad A T := by
  obtain ⟨hx, hb, hml, hr, hlo, htab, hown, hnm, hTt, hK, hS, hP0, hR, htr⟩ := B
  refine ⟨hTt.warm hW, hK.moved hW.alike, ?_, by rw [hT]; exact hI.2.2.1, hI.2.2.2.1.weaken (fun _ _ _ _ => trivial), hI.2.2.2.2.1⟩
  rw [hT]
  refine xj_S.warm hW (xj_S.narrow (xj_S.kept hS hI.2.2.2.2.2.1.2.1) (fun q hq => xj_al_sub hI hT ?_))
  exact hq
theorem xj_cat_sum (g : xj_G) (ad : Nat → Nat) (st : List Value) : ((st.map (xj_v g ad)).map fun v => v.category).sum = (st.map fun v => v.category).sum := by
  rw [List.map_map]
  have h : ((fun v : Value => v.category) ∘ xj_v g ad) = fun v => v.category := funext fun v => xj_v_cat _ _ v
  rw [h]
theorem xg_core (B : xj_B l y0 cc nL ret hs d z) {y : MethodName} {cy : ByteArray} {nLy : Nat} {rety : Option FieldType} {hsy : List (Nat × Nat × Nat × Nat)} {d' : Nat} {av : List Value} {r' : xj_R} {need : Heap → List Value → Prop} {ig : Instr} (hd : decode cc pc = .ok (ig, 3)) (hinv : xj_inv l z pc y av.length need)
    (hneed : ∀ ad H locs cells slots, xj_I z ad A H locs cells slots → need H (av.map (xj_v (xf_g z) ad))) (hM : xj_M l y cy nLy rety hsy d' av A r') (hwy : xj_cw y cy nLy rety hsy ∈ xj_ws) (hwi : Cond.initialized y.cls ∈ xj_ws) (hdd : d' + 1 ≤ d) (hnLy : nLy ≤ 21) (hst8 : (st.map fun v => v.category).sum ≤ 8)
    (kr : ∀ v, r'.1 = .inl v → xj_W l z (pc + 3) ls (v.toList ++ st) r'.2) (kt : ∀ x, r'.1 = .inr x → xj_X l z pc ls x r'.2) : xj_W l z pc ls (av.reverse ++ st) A := by
  intro ad H locs cells slots lz hI hls hst hlv T hT X
  obtain ⟨hwav, hwst⟩ := xj_wst_app hst
  have hwa : xj_wst A.1.length av := xj_wst_mem fun v hv => xj_wst_of hwav v (List.mem_reverse.mpr hv)
  obtain ⟨vm₁, mk, X₁, hn, hstep⟩ := hinv T locs cells slots lz (av.map (xj_v (xf_g z) ad)) (st.map (xj_v (xf_g z) ad)) X (by simp) (by rw [hT]; exact hneed _ _ _ _ _ hI)
  have hpre := xj_pre_at B (T := T.setVm vm₁) hI hT X₁.warmed
  have hb := B.2.1
  have hml := B.2.2.1
  have hR := B.2.2.2.2.2.2.2.2.2.2.2.2.1
  obtain ⟨o, t, ad', L, k, n, Bt, q1, q2, q3, q4, q5, q6, q9, q10, q11, q12, q13, XB, hsteps⟩ := xc_pay X₁ hM (xf_g z) ad hpre hwa hn hwy hwi (by rw [hR]; exact hdd) (by rw [hR]; show _ ≤ 40 * d; omega) (by rw [hR]; exact hI.2.2.2.2.2.2.1) (by rw [hR]; exact hI.2.2.2.2.2.2.2)
    (gf := F0 (xf_m z) pc lz (st.map (xj_v (xf_g z) ad))) (ig := ig) (len := 3) rfl hlv.1 (by rw [hb]; exact hd) (lv_room (by rw [xj_cat_sum]; exact hst8))
  have hal : ∀ q, xj_al (xf_g z) ad A (T.setVm vm₁) q → xj_al (xf_g z) (xf_d z) (xf_H z) (xf_s z) q := fun q hq => xj_al_sub hI (T := T.setVm vm₁) hT hq
  have hTh : (T.setVm vm₁).heap = H := hT
  rw [hTh] at q6
  have hI' : xj_I z ad' r'.2 Bt.heap (locs ++ L) (cells + k) (slots + n) := by
    refine ⟨fun j hj => ?_, Nat.le_trans hI.2.1 q2, q3, q4.weaken (fun _ _ _ h => hal _ h), q5, ?_, ?_, ?_⟩
    · rw [q1 j (Nat.lt_of_lt_of_le hj hI.2.1)]; exact hI.1 j hj
    · refine ⟨Nat.le_trans hI.2.2.2.2.2.1.1 q6.1, fun q hq hna => ?_, fun q hq => ?_⟩
      · rw [q6.2 q (Nat.lt_of_lt_of_le hq hI.2.2.2.2.2.1.1) (fun h => hna (hal q h))]
        exact hI.2.2.2.2.2.1.2.1 q hq hna
      · rcases List.mem_append.mp hq with h | h
        · exact hI.2.2.2.2.2.1.2.2 q h
        · exact hal _ (q9 q h)
    · have := hI.2.2.2.2.2.2.1; omega
    · have := hI.2.2.2.2.2.2.2; omega
  have hls' : xj_wls r'.2.1.length ls := xj_wls_mono q2 hls
  have hlv' : lv_has lz (xf_c z).maxLocals (ls.map (fun q => (q.1, xj_v (xf_g z) ad' q.2))) := by rw [xj_ls_same q1 hls]; exact hlv
  have hgoal : (av.reverse ++ st).map (xj_v (xf_g z) ad) = (av.map (xj_v (xf_g z) ad)).reverse ++ st.map (xj_v (xf_g z) ad) := by rw [List.map_append, List.map_reverse]
  rw [hgoal]
  unfold xj_O at q13
  cases hr1 : r'.1 with
  | inl v =>
    rw [hr1] at q13
    obtain ⟨ho, hwv⟩ := q13
    subst ho
    have hwst' : xj_wst r'.2.1.length (v.toList ++ st) := by
      cases v with
      | none => exact xj_wst_mono q2 hwst
      | some w => exact ⟨hwv w rfl, xj_wst_mono q2 hwst⟩
    obtain ⟨t', ht1, ht2⟩ := kr v hr1 ad' Bt.heap (locs ++ L) (cells + k) (slots + n) lz hI' hls' hwst' hlv' Bt rfl XB
    refine ⟨t', hstep _ (hsteps.trans ?_), ht2⟩
    have he : (v.toList ++ st).map (xj_v (xf_g z) ad') = (v.map (xj_v (xf_g z) ad')).toList ++ st.map (xj_v (xf_g z) ad) := by
      rw [List.map_append, xj_st_same q1 hwst]
      cases v <;> rfl
    rw [he] at ht1
    exact ht1
  | inr x =>
    rw [hr1] at q13
    obtain ⟨a, cell, ho, hc1, hc2, hc3⟩ := q13
    subst ho
    rw [q12] at hc1
    obtain ⟨t', ht1, ht2⟩ := kt x hr1 ad' Bt.heap (locs ++ L) (cells + k) (slots + n) lz (st.map (xj_v (xf_g z) ad)) a cell Bt hI' hls' hlv' hc1 hc2 (by rw [← X₁.warmed.alike.findClass]; exact hc3) rfl XB
    exact ⟨t', hstep _ (hsteps.trans ht1), ht2⟩
/-! The three ways of invoking. -/
theorem xj_inv_static (B : xj_B l y0 cc nL ret hs d z) {y : MethodName} {cy : ByteArray} {nLy n index : Nat} {rety : Option FieldType} {hsy : List (Nat × Nat × Nat × Nat)} (hd : decode cc pc = .ok (.invokestatic index, 3))
    (hl : Cond.methodLink y0.cls index y ∈ xj_ws ∨ ∃ host, Cond.methodLinkNest y0.cls index y host ∈ xj_nw) (hst : Cond.static y ∈ xj_ws) (hwy : xj_cw y cy nLy rety hsy ∈ xj_ws) (hwi : Cond.initialized y.cls ∈ xj_ws) (hy : y.cls ≠ "java/lang/invoke/MethodHandle" ∧ y.cls ≠ "java/lang/invoke/VarHandle") (hn : (parseMethodDescriptor y.desc).map (fun q => q.parameters.length) = some n) :
    xj_inv l z pc y n (fun _ _ => True) := by
  intro T locs cells slots lz av rest X hav _
  obtain ⟨hx, hb, hml, hr, hlo, htab, hown, hnm, hTt, hK, hS, hP0, hR, htr⟩ := B
  obtain ⟨mk, hnamed⟩ := xj_cw_named (hTt.1 _ hwy #[])
  obtain ⟨methM, cM, hmethM, -, -, -, -, -, -, hsigM⟩ := xj_cw_spec hnamed (hTt.1 _ hwy #[])
  have hstatic : methM.isStatic = true := Cond.static_spec hnamed hmethM (hTt.1 _ hst #[])
  obtain ⟨kP, hkP, -⟩ := className_of_methodNamed hnamed
  have hinitP : kP.init = .initialized := Cond.initialized_spec (findClass_of_methodNamed hnamed) hkP (hTt.1 _ hwi #[])
  have hlen : av.length = methM.sig.parameters.length := by
    rw [hsigM] at hn
    rw [hav]; exact (Option.some.inj hn).symm
  rcases hl with hl | ⟨host, hl⟩
  · obtain ⟨vm₁, X₁, hstep₁⟩ := X.invokestatic hx hown (hTt.1 _ hl _) hnamed hmethM hstatic hkP hinitP hy (g := F0 (xf_m z) pc lz (av.reverse ++ rest)) rfl (argsL := av) (rest := rest) hlen rfl (by rw [hb]; exact hd)
    exact ⟨vm₁, mk, X₁, X₁.named hnamed, fun target h => hstep₁ _ fun acts => by rw [doInvoke_state]; exact h⟩
  · obtain ⟨vm₁, X₁, hstep₁⟩ := X.invokestaticNest hx hown (va_Nw.use rfl (hTt.2 _ hl)) hnamed hmethM hstatic hkP hinitP hy (g := F0 (xf_m z) pc lz (av.reverse ++ rest)) rfl (argsL := av) (rest := rest) hlen rfl (by rw [hb]; exact hd)
    exact ⟨vm₁, mk, X₁, X₁.named hnamed, fun target h => hstep₁ _ fun acts => by rw [doInvoke_state]; exact h⟩
theorem xj_inv_virtual (B : xj_B l y0 cc nL ret hs d z) {y : MethodName} {n index : Nat} {C : String} (hd : decode cc pc = .ok (.invokevirtual index, 3))
    (hl : Cond.methodLink y0.cls index y ∈ xj_ws ∨ ∃ host, Cond.methodLinkNest y0.cls index y host ∈ xj_nw) (hst : Cond.instanceMethod y ∈ xj_ws) (hse : Cond.selects C y y ∈ xj_ws) (hy : y.cls ≠ "java/lang/invoke/MethodHandle" ∧ y.cls ≠ "java/lang/invoke/VarHandle") (hn : (parseMethodDescriptor y.desc).map (fun q => q.parameters.length) = some n) (hcd : ∃ w ∈ xj_ws, ∃ cy nLy rety hsy, w = xj_cw y cy nLy rety hsy) :
    xj_inv l z pc y (n + 1) (fun H av => ∃ (b : Addr) (as : List Value) (cell : Cell), av = .ref b :: as ∧ H[b]? = some cell ∧ cell.vm.isStatics = false ∧ (xf_s z).vm.findClass C = some cell.cls) := by
  intro T locs cells slots lz av rest X hav ⟨b, as, cl0, hab, hcell, hobj, hcls⟩
  subst hab
  obtain ⟨hx, hb, hml, hr, hlo, htab, hown, hnm, hTt, hK, hS, hP0, hR, htr⟩ := B
  obtain ⟨w, hw, cy, nLy, rety, hsy, rfl⟩ := hcd
  obtain ⟨mk, methM, hnamed, hmethM, hstM, habM⟩ := Cond.instanceMethod_spec (hTt.1 _ hst #[])
  obtain ⟨methM', cM, hmethM', -, -, -, -, -, -, hsigM⟩ := xj_cw_spec hnamed (hTt.1 _ hw #[])
  cases hmethM.symm.trans hmethM'
  obtain ⟨c2, r2, m2, q1, q2, q3, q4, kP, hkP, hkPi⟩ := Cond.selects_spec (hTt.1 _ hse #[])
  cases hcls.symm.trans q1
  cases (State.methodFound?_of_named hnamed hy).symm.trans q2
  cases hnamed.symm.trans q3
  have hselP : selectMethod (xf_e z).platform (xf_s z).vm cl0.cls mk = .method mk := by rw [Launch.admits_selectMethod X.admits]; exact q4
  have hlen : as.length = methM.sig.parameters.length := by
    rw [hsigM] at hn
    have h2 : _ = n := Option.some.inj hn
    have h3 : as.length + 1 = n + 1 := hav
    exact (Nat.succ.inj h3).trans h2.symm
  have hst : (Value.ref b :: as).reverse ++ rest = as.reverse ++ .ref b :: rest := by simp
  rcases hl with hl | ⟨host, hl⟩
  · obtain ⟨vm₁, X₁, hstep₁⟩ := X.invokevirtual hx hown (hTt.1 _ hl _) hnamed hmethM hstM hkP hkPi hy (a := b) (cell := cl0) hcell (fun q h => by rw [h] at hobj; cases hobj) hselP hmethM habM hkP hkPi (g := F0 (xf_m z) pc lz ((Value.ref b :: as).reverse ++ rest)) rfl (argsL := as) (rest := rest) hlen hst (by rw [hb]; exact hd)
    exact ⟨vm₁, mk, X₁, X₁.named hnamed, fun target h => hstep₁ _ fun acts => by rw [doInvoke_state]; exact h⟩
  · obtain ⟨vm₁, X₁, hstep₁⟩ := X.invokevirtualNest hx hown (va_Nw.use rfl (hTt.2 _ hl)) hnamed hmethM hstM hkP hkPi hy (a := b) (cell := cl0) hcell (fun q h => by rw [h] at hobj; cases hobj) hselP hmethM habM hkP hkPi (g := F0 (xf_m z) pc lz ((Value.ref b :: as).reverse ++ rest)) rfl (argsL := as) (rest := rest) hlen hst (by rw [hb]; exact hd)
    exact ⟨vm₁, mk, X₁, X₁.named hnamed, fun target h => hstep₁ _ fun acts => by rw [doInvoke_state]; exact h⟩
theorem xj_inv_init (B : xj_B l y0 cc nL ret hs d z) {y : MethodName} {cy : ByteArray} {nLy n index : Nat} (hd : decode cc pc = .ok (.invokespecial index, 3)) (hy1 : y.name = "<init>")
    (hl : Cond.methodLink y0.cls index y ∈ xj_ws ∨ ∃ host, Cond.methodLinkNest y0.cls index y host ∈ xj_nw) (hst : Cond.instanceMethod y ∈ xj_ws) (hwy : Cond.code y cy nLy none ∈ xj_ws) (hy : y.cls ≠ "java/lang/invoke/MethodHandle" ∧ y.cls ≠ "java/lang/invoke/VarHandle") (hn : (parseMethodDescriptor y.desc).map (fun q => q.parameters.length) = some n) :
    xj_inv l z pc y (n + 1) (fun _ av => ∃ (b : Addr) (as : List Value), av = .ref b :: as) := by
  intro T locs cells slots lz av rest X hav ⟨b, as, hab⟩
  subst hab
  obtain ⟨hx, hb, hml, hr, hlo, htab, hown, hnm, hTt, hK, hS, hP0, hR, htr⟩ := B
  have hpl : (xf_e z).platform.magicAccessors = ({} : Platform).magicAccessors := by rw [X.admits.platform]
  have hlen : ∀ sig, parseMethodDescriptor y.desc = some sig → as.length = sig.parameters.length := fun sig h => by
    rw [h] at hn
    have h2 : _ = n := Option.some.inj hn
    have h3 : as.length + 1 = n + 1 := hav
    exact (Nat.succ.inj h3).trans h2.symm
  have hst' : (Value.ref b :: as).reverse ++ rest = as.reverse ++ .ref b :: rest := by simp
  rcases hl with hl | ⟨host, hl⟩
  · obtain ⟨mk, methM, cM, kP, vm₁, hnamed, hmethM, hcodeM, -, hlocalsM, -, hkP, -, hW₁, hstep₁⟩ := Steps.initColdArgs (e := xf_e z) X.here hx X.warmed hpl hown hy1 hy (hTt.1 _ hl #[]) (hTt.1 _ hst #[]) (hTt.1 _ hwy #[]) (f := F0 (xf_m z) pc lz ((Value.ref b :: as).reverse ++ rest)) rfl hlen hst' (by rw [hb]; exact hd)
    have X₁ := X.noted hW₁
    exact ⟨vm₁, mk, X₁, X₁.named hnamed, fun target h => hstep₁ _ fun acts => by rw [doInvoke_state]; exact h⟩
  · obtain ⟨mk, methM, cM, kP, vm₁, hnamed, hmethM, hcodeM, -, hlocalsM, -, hkP, -, hW₁, hstep₁⟩ := Steps.initColdArgsNest (e := xf_e z) X.here hx X.warmed hpl hown hy1 hy (va_Nw.use (A := #[]) rfl (hTt.2 _ hl)) (hTt.1 _ hst #[]) (hTt.1 _ hwy #[]) (f := F0 (xf_m z) pc lz ((Value.ref b :: as).reverse ++ rest)) rfl hlen hst' (by rw [hb]; exact hd)
    have X₁ := X.noted hW₁
    exact ⟨vm₁, mk, X₁, X₁.named hnamed, fun target h => hstep₁ _ fun acts => by rw [doInvoke_state]; exact h⟩
end Xcalls
end
section
section Xcalls2
variable {l : Launch} {z : xj_F} {y0 : MethodName} {cc : ByteArray} {nL : Nat} {ret : Option FieldType} {hs : List (Nat × Nat × Nat × Nat)} {d pc : Nat} {ls : List (Nat × Value)} {st : List Value} {A : xj_H}
def xj_go (l : Launch) (z : xj_F) (pc : Nat) (A : xj_H) (y : MethodName) (av : List Value) : Prop := ∃ need : Heap → List Value → Prop, xj_inv l z pc y av.length need ∧ ∀ ad H locs cells slots, xj_I z ad A H locs cells slots → need H (av.map (xj_v (xf_g z) ad))
def xj_is (A : xj_H) (o : xj_Rf) (ci : Nat) : Bool := match o with
  | some (.inl a) => match A.1[a]? with
    | some (.inr q) => q.1 == ci
    | _ => false
  | _ => false
def xj_rq (A : xj_H) (o : xj_Rf) (ci : Nat) (F : Option xj_R) : Option xj_R := if xj_is A o ci = true then F else none
theorem xj_is_inv {o : xj_Rf} {ci : Nat} (h : xj_is A o ci = true) : ∃ (a : Nat) (fs : List Value), o = some (.inl a) ∧ A.1[a]? = some (.inr (ci, fs)) := by
  unfold xj_is at h
  split at h
  · rename_i a
    split at h
    · rename_i q hq
      have := beq_iff_eq.mp h
      exact ⟨a, q.2, rfl, by rw [hq, ← this]⟩
    · cases h
  · cases h
theorem xj_rq_i {o : xj_Rf} {ci : Nat} {F : Option xj_R} {K : Int32 → xj_H → Option xj_R} {r : xj_R} (h : xj_bi (xj_rq A o ci F) K = some r) : xj_is A o ci = true ∧ xj_bi F K = some r := by
  unfold xj_rq at h
  by_cases hc : xj_is A o ci = true
  · rw [if_pos hc] at h; exact ⟨hc, h⟩
  · rw [if_neg hc] at h; cases h
theorem xj_rq_l {o : xj_Rf} {ci : Nat} {F : Option xj_R} {K : Int64 → xj_H → Option xj_R} {r : xj_R} (h : xj_bl (xj_rq A o ci F) K = some r) : xj_is A o ci = true ∧ xj_bl F K = some r := by
  unfold xj_rq at h
  by_cases hc : xj_is A o ci = true
  · rw [if_pos hc] at h; exact ⟨hc, h⟩
  · rw [if_neg hc] at h; cases h
theorem xj_rq_r {o : xj_Rf} {ci : Nat} {F : Option xj_R} {K : xj_Rf → xj_H → Option xj_R} {r : xj_R} (h : xj_br (xj_rq A o ci F) K = some r) : xj_is A o ci = true ∧ xj_br F K = some r := by
  unfold xj_rq at h
  by_cases hc : xj_is A o ci = true
  · rw [if_pos hc] at h; exact ⟨hc, h⟩
  · rw [if_neg hc] at h; cases h
theorem xj_rq_v {o : xj_Rf} {ci : Nat} {F : Option xj_R} {K : xj_H → Option xj_R} {r : xj_R} (h : xj_bv (xj_rq A o ci F) K = some r) : xj_is A o ci = true ∧ xj_bv F K = some r := by
  unfold xj_rq at h
  by_cases hc : xj_is A o ci = true
  · rw [if_pos hc] at h; exact ⟨hc, h⟩
  · rw [if_neg hc] at h; cases h
theorem xj_bi_inv {F : Option xj_R} {K : Int32 → xj_H → Option xj_R} {r : xj_R} (h : xj_bi F K = some r) : (∃ v A', F = some (.inl (some (.int v)), A') ∧ K v A' = some r) ∨ ∃ x A', F = some (.inr x, A') ∧ r = (.inr x, A') := by
  unfold xj_bi at h
  split at h
  · exact Or.inl ⟨_, _, rfl, h⟩
  · exact Or.inr ⟨_, _, rfl, (Option.some.inj h).symm⟩
  · cases h
theorem xj_bl_inv {F : Option xj_R} {K : Int64 → xj_H → Option xj_R} {r : xj_R} (h : xj_bl F K = some r) : (∃ v A', F = some (.inl (some (.long v)), A') ∧ K v A' = some r) ∨ ∃ x A', F = some (.inr x, A') ∧ r = (.inr x, A') := by
  unfold xj_bl at h
  split at h
  · exact Or.inl ⟨_, _, rfl, h⟩
  · exact Or.inr ⟨_, _, rfl, (Option.some.inj h).symm⟩
  · cases h
theorem xj_br_inv {F : Option xj_R} {K : xj_Rf → xj_H → Option xj_R} {r : xj_R} (h : xj_br F K = some r) : (∃ v A', F = some (.inl (some (xj_rv v)), A') ∧ K v A' = some r) ∨ ∃ x A', F = some (.inr x, A') ∧ r = (.inr x, A') := by
  unfold xj_br at h
  split at h
  · obtain ⟨q, h1, h2⟩ := Option.bind_eq_some_iff.mp h
    exact Or.inl ⟨q, _, by rw [xj_vr_inv h1], h2⟩
  · exact Or.inr ⟨_, _, rfl, (Option.some.inj h).symm⟩
  · cases h
theorem xj_bv_inv {F : Option xj_R} {K : xj_H → Option xj_R} {r : xj_R} (h : xj_bv F K = some r) : (∃ A', F = some (.inl none, A') ∧ K A' = some r) ∨ ∃ x A', F = some (.inr x, A') ∧ r = (.inr x, A') := by
  unfold xj_bv at h
  split at h
  · exact Or.inl ⟨_, rfl, h⟩
  · exact Or.inr ⟨_, _, rfl, (Option.some.inj h).symm⟩
  · cases h
def xj_sw (own : String) (index : Nat) (y : MethodName) (cy : ByteArray) (nLy : Nat) (rety : Option FieldType) (hsy : List (Nat × Nat × Nat × Nat)) (n : Nat) : Prop :=
  (Cond.methodLink own index y ∈ xj_ws ∨ ∃ host, Cond.methodLinkNest own index y host ∈ xj_nw) ∧ Cond.static y ∈ xj_ws ∧ xj_cw y cy nLy rety hsy ∈ xj_ws ∧ Cond.initialized y.cls ∈ xj_ws ∧ (y.cls ≠ "java/lang/invoke/MethodHandle" ∧ y.cls ≠ "java/lang/invoke/VarHandle") ∧ (parseMethodDescriptor y.desc).map (fun q => q.parameters.length) = some n
def xj_vw (own : String) (index : Nat) (ci : Nat) (y : MethodName) (cy : ByteArray) (nLy : Nat) (rety : Option FieldType) (hsy : List (Nat × Nat × Nat × Nat)) (n : Nat) : Prop :=
  ∃ (C : String) (T : u_T) (N : Nat), xj_cl[ci]? = some (C, T, N) ∧ (Cond.methodLink own index y ∈ xj_ws ∨ ∃ host, Cond.methodLinkNest own index y host ∈ xj_nw) ∧ Cond.instanceMethod y ∈ xj_ws ∧ Cond.selects C y y ∈ xj_ws ∧ xj_cw y cy nLy rety hsy ∈ xj_ws ∧ Cond.initialized y.cls ∈ xj_ws ∧ (y.cls ≠ "java/lang/invoke/MethodHandle" ∧ y.cls ≠ "java/lang/invoke/VarHandle") ∧ (parseMethodDescriptor y.desc).map (fun q => q.parameters.length) = some n
def xj_iw (own : String) (index : Nat) (y : MethodName) (cy : ByteArray) (nLy : Nat) (n : Nat) : Prop :=
  (Cond.methodLink own index y ∈ xj_ws ∨ ∃ host, Cond.methodLinkNest own index y host ∈ xj_nw) ∧ Cond.instanceMethod y ∈ xj_ws ∧ Cond.code y cy nLy none ∈ xj_ws ∧ Cond.initialized y.cls ∈ xj_ws ∧ (y.cls ≠ "java/lang/invoke/MethodHandle" ∧ y.cls ≠ "java/lang/invoke/VarHandle") ∧ (parseMethodDescriptor y.desc).map (fun q => q.parameters.length) = some n ∧ y.name = "<init>"
theorem xj_go_s (B : xj_B l y0 cc nL ret hs d z) {y : MethodName} {cy : ByteArray} {nLy n index : Nat} {rety : Option FieldType} {hsy : List (Nat × Nat × Nat × Nat)} {av : List Value} (hd : decode cc pc = .ok (.invokestatic index, 3)) (hw : xj_sw y0.cls index y cy nLy rety hsy n) (hn : av.length = n) : xj_go l z pc A y av := by
  obtain ⟨w1, w2, w3, w4, w5, w6⟩ := hw
  exact ⟨_, by rw [hn]; exact xj_inv_static B hd w1 w2 w3 w4 w5 w6, fun _ _ _ _ _ _ => trivial⟩
theorem xj_go_v (B : xj_B l y0 cc nL ret hs d z) {y : MethodName} {cy : ByteArray} {nLy n index ci : Nat} {rety : Option FieldType} {hsy : List (Nat × Nat × Nat × Nat)} {o : xj_Rf} {as : List Value} (hd : decode cc pc = .ok (.invokevirtual index, 3)) (hw : xj_vw y0.cls index ci y cy nLy rety hsy n) (hn : as.length = n) (hq : xj_is A o ci = true) : xj_go l z pc A y (xj_rv o :: as) := by
  obtain ⟨C, T, N, w0, w1, w2, w3, w4, w5, w6, w7⟩ := hw
  refine ⟨_, by rw [List.length_cons, hn]; exact xj_inv_virtual B hd w1 w2 w3 w6 w7 ⟨_, w4, _, _, _, _, rfl⟩, fun ad H locs cells slots hI => ?_⟩
  obtain ⟨a, fs, rfl, ha⟩ := xj_is_inv hq
  obtain ⟨r, h1, cell, q1, q2, q3, q4⟩ := hI.2.2.1 a _ (xj_w_at ha)
  have hr : r = (C, T, N) := Option.some.inj (h1.symm.trans w0)
  subst hr
  obtain ⟨hS, hfc, kC, hkC, hkind⟩ := B.2.2.2.2.2.2.2.2.2.1.1 ci _ w0
  exact ⟨ad a, as.map (xj_v (xf_g z) ad), cell, rfl, q1, by rw [q3]; rfl, by rw [q2]; exact hfc⟩
theorem xj_go_i (B : xj_B l y0 cc nL ret hs d z) {y : MethodName} {cy : ByteArray} {nLy n index a : Nat} {as : List Value} (hd : decode cc pc = .ok (.invokespecial index, 3)) (hw : xj_iw y0.cls index y cy nLy n) (hn : as.length = n) : xj_go l z pc A y (xj_rv (xj_o a) :: as) := by
  obtain ⟨w1, w2, w3, w4, w5, w6, w7⟩ := hw
  refine ⟨_, by rw [List.length_cons, hn]; exact xj_inv_init B hd w7 w1 w2 w3 w5 w6, fun ad H locs cells slots hI => ?_⟩
  exact ⟨ad a, as.map (xj_v (xf_g z) ad), rfl⟩
theorem xg_ci (B : xj_B l y0 cc nL ret hs d z) {y : MethodName} {cy : ByteArray} {nLy d' : Nat} {rety : Option FieldType} {hsy : List (Nat × Nat × Nat × Nat)} {av : List Value} {F : Option xj_R} {K : Int32 → xj_H → Option xj_R} {ig : Instr} (hd : decode cc pc = .ok (ig, 3)) (hgo : xj_go l z pc A y av) (hwy : xj_cw y cy nLy rety hsy ∈ xj_ws) (hwi : Cond.initialized y.cls ∈ xj_ws) (hdd : d' + 1 ≤ d) (hnLy : nLy ≤ 21) (hst8 : (st.map fun v => v.category).sum ≤ 8) (hout : (tableOf hs).all (fun q => !covers q pc) = true)
    (hM : ∀ r', F = some r' → xj_M l y cy nLy rety hsy d' av A r') (h : xj_bi F K = some (xf_r z)) (kk : ∀ v A', F = some (.inl (some (.int v)), A') → K v A' = some (xf_r z) → xj_W l z (pc + 3) ls (.int v :: st) A') : xj_W l z pc ls (av.reverse ++ st) A := by
  obtain ⟨need, hinv, hneed⟩ := hgo
  rcases xj_bi_inv h with ⟨v, A', hF, hK⟩ | ⟨x, A', hF, hr⟩
  · exact xg_core B hd hinv hneed (hM _ hF) hwy hwi hdd hnLy hst8 (fun w hw => by cases hw; exact kk v A' hF hK) (fun x hx => by cases hx)
  · exact xg_core B hd hinv hneed (hM _ hF) hwy hwi hdd hnLy hst8 (fun w hw => by cases hw) (fun w hx => by cases hx; exact xj_X.leave B hout hr)
theorem xg_cl (B : xj_B l y0 cc nL ret hs d z) {y : MethodName} {cy : ByteArray} {nLy d' : Nat} {rety : Option FieldType} {hsy : List (Nat × Nat × Nat × Nat)} {av : List Value} {F : Option xj_R} {K : Int64 → xj_H → Option xj_R} {ig : Instr} (hd : decode cc pc = .ok (ig, 3)) (hgo : xj_go l z pc A y av) (hwy : xj_cw y cy nLy rety hsy ∈ xj_ws) (hwi : Cond.initialized y.cls ∈ xj_ws) (hdd : d' + 1 ≤ d) (hnLy : nLy ≤ 21) (hst8 : (st.map fun v => v.category).sum ≤ 8) (hout : (tableOf hs).all (fun q => !covers q pc) = true)
    (hM : ∀ r', F = some r' → xj_M l y cy nLy rety hsy d' av A r') (h : xj_bl F K = some (xf_r z)) (kk : ∀ v A', F = some (.inl (some (.long v)), A') → K v A' = some (xf_r z) → xj_W l z (pc + 3) ls (.long v :: st) A') : xj_W l z pc ls (av.reverse ++ st) A := by
  obtain ⟨need, hinv, hneed⟩ := hgo
  rcases xj_bl_inv h with ⟨v, A', hF, hK⟩ | ⟨x, A', hF, hr⟩
  · exact xg_core B hd hinv hneed (hM _ hF) hwy hwi hdd hnLy hst8 (fun w hw => by cases hw; exact kk v A' hF hK) (fun x hx => by cases hx)
  · exact xg_core B hd hinv hneed (hM _ hF) hwy hwi hdd hnLy hst8 (fun w hw => by cases hw) (fun w hx => by cases hx; exact xj_X.leave B hout hr)
theorem xg_cr (B : xj_B l y0 cc nL ret hs d z) {y : MethodName} {cy : ByteArray} {nLy d' : Nat} {rety : Option FieldType} {hsy : List (Nat × Nat × Nat × Nat)} {av : List Value} {F : Option xj_R} {K : xj_Rf → xj_H → Option xj_R} {ig : Instr} (hd : decode cc pc = .ok (ig, 3)) (hgo : xj_go l z pc A y av) (hwy : xj_cw y cy nLy rety hsy ∈ xj_ws) (hwi : Cond.initialized y.cls ∈ xj_ws) (hdd : d' + 1 ≤ d) (hnLy : nLy ≤ 21) (hst8 : (st.map fun v => v.category).sum ≤ 8) (hout : (tableOf hs).all (fun q => !covers q pc) = true)
    (hM : ∀ r', F = some r' → xj_M l y cy nLy rety hsy d' av A r') (h : xj_br F K = some (xf_r z)) (kk : ∀ v A', F = some (.inl (some (xj_rv v)), A') → K v A' = some (xf_r z) → xj_W l z (pc + 3) ls (xj_rv v :: st) A') : xj_W l z pc ls (av.reverse ++ st) A := by
  obtain ⟨need, hinv, hneed⟩ := hgo
  rcases xj_br_inv h with ⟨v, A', hF, hK⟩ | ⟨x, A', hF, hr⟩
  · exact xg_core B hd hinv hneed (hM _ hF) hwy hwi hdd hnLy hst8 (fun w hw => by cases hw; exact kk v A' hF hK) (fun x hx => by cases hx)
  · exact xg_core B hd hinv hneed (hM _ hF) hwy hwi hdd hnLy hst8 (fun w hw => by cases hw) (fun w hx => by cases hx; exact xj_X.leave B hout hr)
theorem xg_cv (B : xj_B l y0 cc nL ret hs d z) {y : MethodName} {cy : ByteArray} {nLy d' : Nat} {rety : Option FieldType} {hsy : List (Nat × Nat × Nat × Nat)} {av : List Value} {F : Option xj_R} {K : xj_H → Option xj_R} {ig : Instr} (hd : decode cc pc = .ok (ig, 3)) (hgo : xj_go l z pc A y av) (hwy : xj_cw y cy nLy rety hsy ∈ xj_ws) (hwi : Cond.initialized y.cls ∈ xj_ws) (hdd : d' + 1 ≤ d) (hnLy : nLy ≤ 21) (hst8 : (st.map fun v => v.category).sum ≤ 8) (hout : (tableOf hs).all (fun q => !covers q pc) = true)
    (hM : ∀ r', F = some r' → xj_M l y cy nLy rety hsy d' av A r') (h : xj_bv F K = some (xf_r z)) (kk : ∀ A', F = some (.inl none, A') → K A' = some (xf_r z) → xj_W l z (pc + 3) ls (st) A') : xj_W l z pc ls (av.reverse ++ st) A := by
  obtain ⟨need, hinv, hneed⟩ := hgo
  rcases xj_bv_inv h with ⟨A', hF, hK⟩ | ⟨x, A', hF, hr⟩
  · exact xg_core B hd hinv hneed (hM _ hF) hwy hwi hdd hnLy hst8 (fun w hw => by cases hw; exact kk A' hF hK) (fun x hx => by cases hx)
  · exact xg_core B hd hinv hneed (hM _ hF) hwy hwi hdd hnLy hst8 (fun w hw => by cases hw) (fun w hx => by cases hx; exact xj_X.leave B hout hr)
end Xcalls2
end
section
section Xown
/-- the words of a 'throw new X(text)' whose constructor passes its text on to Y's -/
def xh_at (own : String) (ic : Nat) (X Y : String) (idx : Nat) (bytes : ByteArray) (names : List String) : List Cond :=
  (Bundle.throwableAtoms ++ Bundle.throwableSAtoms ++ Bundle.passSAtoms X Y idx bytes ++ Bundle.chainSAtoms Y names) ++
  ([.methodLink own ic (Bundle.initS X), .instantiable X 6, .selects X Bundle.tFill0 Bundle.tFill0, .selects X Bundle.tFill Bundle.tFill] ++
    ([("cause", "Ljava/lang/Throwable;"), ("stackTrace", Bundle.steD), ("suppressedExceptions", Bundle.listD), ("detailMessage", "Ljava/lang/String;"), ("backtrace", "Ljava/lang/Object;")].map (fun q => Cond.lays X Bundle.tN q.1 q.2)) ++
    [.isRef (.static Bundle.tN "UNASSIGNED_STACK" Bundle.steD), .isRef (.static Bundle.tN "SUPPRESSED_SENTINEL" Bundle.listD), .fieldLink Bundle.tN 198 Bundle.tN "backtrace" "Ljava/lang/Object;", .lays Bundle.tN Bundle.tN "backtrace" "Ljava/lang/Object;"])
theorem xh_sel {e : Env} {l : Launch} {args : Array Value} {s : State} {X : String} {y : MethodName} {cX : ClassId} {my : MethodId} (ha : l.admits e) (hX : s.vm.findClass X = some cX) (hy : s.methodNamed? y = some my) (hne : y.cls ≠ "java/lang/invoke/MethodHandle" ∧ y.cls ≠ "java/lang/invoke/VarHandle") (h : (Cond.selects X y y).before args s = true) : selectMethod e.platform s.vm cX my = .method my := by
  obtain ⟨c2, r2, m2, q1, q2, q3, q4, -⟩ := Cond.selects_spec h
  cases Option.some.inj (q1.symm.trans hX)
  cases Option.some.inj (q2.symm.trans (State.methodFound?_of_named hy hne))
  cases Option.some.inj (q3.symm.trans hy)
  rw [Launch.admits_selectMethod ha]; exact q4
set_option maxHeartbeats 1000000 in
theorem xh_own {p : Program} {l : Launch} {e : Env} {R : Room} {s : State} {m : MethodId} {args : Array Value} {below : List Frame} {meth : Method} {c : Code} {V : State} {cells slots : Nat}
    (X : Stand p l e R s m args below meth c V [] cells slots) (hexec : p.tables.exec = Jvm.exec) (htr : e.platform.stackTraces = false) {own cls Y0 : String} {idx ic : Nat} {bytes : ByteArray} {names : List String}
    (hown : s.vm.findClass own = some m.cls) (hcls : Bundle.fit cls = true) (hY0 : Bundle.fit Y0 = true) (hnames : ∀ n ∈ names, Bundle.fit n = true)
    (b0 : decode bytes 0 = .ok (.aload_n 0, 1)) (b1 : decode bytes 1 = .ok (.aload_n 1, 1)) (b2 : decode bytes 2 = .ok (.invokespecial idx, 3)) (b5 : decode bytes 5 = .ok (.return_, 1))
    (h : ∀ w ∈ xh_at own ic cls Y0 idx bytes names, w.before args s = true)
    {a : Addr} {cX : ClassId} {kX : Class} (hfX : s.vm.findClass cls = some cX) (hkX : s.vm.classes[cX]? = some kX) (hcell : V.heap[a]? = some (freshCell cX kX)) (hnew : s.heap.size ≤ a) {msg : Value} (hmsg : msg.isRef = true)
    {g : JFrame} (hg : g.method = m) (hsize : g.locals.size = c.maxLocals) (hlocked : g.locked = none) (hentered : g.entered = []) {rest : List Value} (hstack : g.stack = msg :: .ref a :: .ref a :: rest)
    (hd6 : decode c.code g.pc = .ok (.invokespecial ic, 3)) (hd9 : decode c.code (g.pc + 3) = .ok (.athrow, 1)) (hout : ∀ x ∈ c.exceptionTable.toList, covers x (g.pc + 3) = false)
    (hRf : names.length + 4 < R.frames) (hRl : 2 * g.monitorRoom + ((Value.ref a :: rest).map fun v => v.category).sum + (13 * (names.length + 2) + 42) ≤ R.locals) (hlocks : meth.locks = false) :
    ∃ U : State, Steps p.tables e below (V.setTop g) U ∧ U.status = .running ∧ Ended U below (.threw a) ∧ s.WarmedH U.vm ∧ s.sameButNew ({ U with vm := s.vm } : State) [] cells slots ∧ ∃ ce, U.heap[a]? = some ce ∧ s.vm.findClass cls = some ce.cls ∧ ce.vm = .none := by
  have e1 : e.platform.frameOwnsMonitors = true := by rw [X.admits.platform]
  have e2 : e.platform.finalization = false := by rw [X.admits.platform]
  have e3 : e.platform.magicAccessors = ({} : Platform).magicAccessors := by rw [X.admits.platform]
  have hl : ∀ w ∈ Bundle.throwableAtoms ++ Bundle.throwableSAtoms ++ Bundle.passSAtoms cls Y0 idx bytes ++ Bundle.chainSAtoms Y0 names, w.before args s = true := fun w hw => h w (List.mem_append_left _ hw)
  obtain ⟨T, Z0, L, -, Y⟩ := ThrowableC.of_atoms (args := args) e1 e2 e3 (fun w hw => hl w (by simp [hw]))
  obtain ⟨Z, M, LZ, LM, hnZ⟩ := Init0T.ofS_atoms (args := args) e3 L Y (fun w hw => hl w (by simp [hw]))
  obtain ⟨P0, L0, hm0, hs0⟩ := PassC.ofS_atoms (args := args) (s := s) e3 (X := cls) (Y := Y0) (Bundle.fit_spec hcls).1 (Bundle.fit_spec hY0).2 b0 b1 b2 b5 (fun w hw => hl w (by simp [hw]))
  obtain ⟨P1, Ps, hlen, L1, hL, hm1, hk1, hk2⟩ := Bundle.chainS (args := args) e3 hnZ names Y0 hY0 hnames (fun w hw => hl w (by simp [hw]))
  have hfound : s.vm.findClass cls = some P0.m.cls := findClass_of_methodNamed hm0
  cases Option.some.inj (hfX.symm.trans hfound)
  obtain ⟨c1, kX', hc1, hk, hord, -, -, hn6⟩ := Cond.instantiable_spec (h (.instantiable cls 6) (by simp [xh_at]))
  cases Option.some.inj (hc1.symm.trans hfound)
  cases Option.some.inj (hkX.symm.trans hk)
  have hs1 := xh_sel X.admits hfound Y.fill0 (by decide) (h (.selects cls Bundle.tFill0 Bundle.tFill0) (by simp [xh_at]))
  have hs2 := xh_sel X.admits hfound Y.fill (by decide) (h (.selects cls Bundle.tFill Bundle.tFill) (by simp [xh_at]))
  obtain ⟨cS, hcS, hiss⟩ := Y.statics
  obtain ⟨u0, hu0⟩ := Cond.staticRefV Y.unassigned L.unassignedStatic L.statics hcS hiss (h (.isRef (.static Bundle.tN "UNASSIGNED_STACK" Bundle.steD)) (by simp [xh_at]))
  obtain ⟨sen, hsen⟩ := Cond.staticRefV Y.sentinel L.sentinelStatic L.statics hcS hiss (h (.isRef (.static Bundle.tN "SUPPRESSED_SENTINEL" Bundle.listD)) (by simp [xh_at]))
  obtain ⟨ci8, i8, fB, hk8, hg8, ha8, hsB, -, hnB, htB, hffB⟩ := Cond.ownField (t := .object "java/lang/Object") Y.found L.cls (by decide +kernel) (h (.fieldLink Bundle.tN 198 Bundle.tN "backtrace" "Ljava/lang/Object;") (by simp [xh_at])) (h (.lays Bundle.tN Bundle.tN "backtrace" "Ljava/lang/Object;") (by simp [xh_at])) e.platform e3
  have hcV : V.heap[T.aS]? = some cS := State.sameButNew.old_cell X.same hcS
  have hkn : cS.vm ≠ .unknown := fun hu => by rw [hu] at hiss; cases hiss
  have hne : T.aS ≠ a := Nat.ne_of_lt (Nat.lt_of_lt_of_le (Array.getElem?_eq_some_iff.mp hcS).1 hnew)
  obtain ⟨iM, hffM⟩ := Y.msg
  obtain ⟨tyC, dC, hdC, hdnC⟩ := Cond.laysAt hfound hk Y.cause (h (.lays cls Bundle.tN "cause" "Ljava/lang/Throwable;") (by simp [xh_at]))
  obtain ⟨tyS, dS, hdS, hdnS⟩ := Cond.laysAt hfound hk Y.stack (h (.lays cls Bundle.tN "stackTrace" Bundle.steD) (by simp [xh_at]))
  obtain ⟨tyP, dP, hdP, hdnP⟩ := Cond.laysAt hfound hk Y.supp (h (.lays cls Bundle.tN "suppressedExceptions" Bundle.listD) (by simp [xh_at]))
  obtain ⟨tyM, dM, hdM, hdnM⟩ := Cond.laysAt hfound hk hffM (h (.lays cls Bundle.tN "detailMessage" "Ljava/lang/String;") (by simp [xh_at]))
  obtain ⟨tyB, dB, hdB, hdnB⟩ := Cond.laysAt hfound hk hffB (h (.lays cls Bundle.tN "backtrace" "Ljava/lang/Object;") (by simp [xh_at]))
  have bC := Cond.laysApart hdB hdC hdnB hdnC (by rw [hnB, Y.causeName]; decide)
  have bS := Cond.laysApart hdB hdS hdnB hdnS (by rw [hnB, Y.stackName]; decide)
  have bP := Cond.laysApart hdB hdP hdnB hdnP (by rw [hnB, Y.suppName]; decide)
  have hskip : SkipFacts T e.platform s (fun u => u) u0 ((preparedCellV T.toThrowableT (freshCell P0.m.cls kX) a u0 sen).withEntry V.cur) :=
    ⟨{ ci198 := ci8, i198 := i8, fBack := fB }, ⟨hk8, hg8, ha8, hsB⟩, by
      have h9 := fresh_default (c := P0.m.cls) tyB
      rw [htB] at h9
      simpa [preparedCellV, Cell.setSlot, Cell.withEntry, Array.getElem?_setIfInBounds, bC, bS, bP, bC.symm, bS.symm, bP.symm, defaultValue] using h9, fun _ _ => rfl⟩
  obtain ⟨tm, methC, cdC, kC, vm₁, hnC, -, -, -, -, -, -, -, hW₁, st1⟩ := Steps.initColdS (tb := p.tables) (e := e) (below := below) (s := s) (U := V) X.here hexec X.warmed e3 hown (t := Bundle.initS cls) rfl rfl (Bundle.fit_spec hcls).2
    (h (.methodLink own ic (Bundle.initS cls)) (by simp [xh_at])) (hl (.instanceMethod (Bundle.initS cls)) (by simp [Bundle.passSAtoms])) (bytes := bytes) (maxL := 2) (hl (.code (Bundle.initS cls) bytes 2 none) (by simp [Bundle.passSAtoms])) (f := g) hg (a := a) (msg := msg) (rest := .ref a :: rest) hstack hd6
  cases Option.some.inj (hnC.symm.trans hm0)
  have X1 := X.noted hW₁
  obtain ⟨vm₂, X2, st2⟩ := X1.ctorMessageOffV hexec (g := { g with stack := .ref a :: rest }) hg hsize T L Z LZ M LM (P0 :: P1 :: Ps)
    (fun P hP => by rcases List.mem_cons.mp hP with rfl | hP; exact L0; rcases List.mem_cons.mp hP with rfl | hP; exact L1; exact hL P hP) ⟨Option.some.inj (hs0.symm.trans hm1), hk1, hk2⟩ (u0 := u0) (sen := sen) (self := a) hmsg (cell := freshCell P0.m.cls kX) (cellS := cS)
    hcell (fun _ => by simp) (by simp) rfl rfl hs1 hs2 hcV hne hkn hu0 hsen
    (Takes.of_laid hk hord tyC (by rw [Y.causeType]; rfl)) (Takes.of_laid hk hord tyS (by rw [Y.stackType]; exact fits_refV_array _ u0)) (Takes.of_laid hk hord tyP (by rw [Y.suppType]; exact fits_refV_object _ sen))
    (Takes.of_laid hk hord tyM (by rw [Y.msgType]; exact fits_refV_object _ ⟨msg, hmsg⟩)) Y.objLocals hskip htr [] hd6 (by simp only [List.length_cons, hlen]; omega) (by simp only [List.length_cons, hlen]; exact hRl)
  obtain ⟨w1, w2, w3, w4, w5⟩ := X2.athrowLeaves hexec (g := { g with stack := .ref a :: rest, pc := g.pc + 3 }) hg hlocked hentered hout (a := a) (rest := rest) rfl hd9 hlocks
  have hlt : a < ((V.setVm vm₁).setVm vm₂).heap.size := (Array.getElem?_eq_some_iff.mp hcell).1
  have hU := heapAt_setCell_self (s := (V.setVm vm₁).setVm vm₂) (plainBareV T.toThrowableT (freshCell P0.m.cls kX) a u0 sen msg) hlt
  refine ⟨_, st1 _ (fun acts => ?_), w2, w3, w4, w5.weaken (fun y hy hlt' => ?_) (Nat.le_refl _) (Nat.le_refl _), _, hU, hfound, rfl⟩
  · rw [doInvoke_state]
    exact st2 _ w1
  · exfalso
    have hb : y.base = a := by
      simp only [List.nil_append, List.mem_cons, List.not_mem_nil, or_false] at hy
      rcases hy with rfl | rfl | rfl | rfl | rfl <;> rfl
    rw [hb] at hlt'
    exact Nat.not_lt.mpr hnew hlt'
end Xown
end
section
section Xthrows
variable {l : Launch} {z : xj_F} {y0 : MethodName} {cc : ByteArray} {nL : Nat} {ret : Option FieldType} {hs : List (Nat × Nat × Nat × Nat)} {d pc : Nat} {ls : List (Nat × Value)} {st : List Value} {A : xj_H}
/-- the same walk, counted from where it stands now -/
theorem xc_rebase {p : Program} {e : Env} {R : Room} {s : State} {m : MethodId} {args : Array Value} {below : List Frame} {meth : Method} {c : Code} {T : State} {locs : List Loc} {cells slots : Nat}
    (X : Stand p l e R s m args below meth c T locs cells slots) (hc : cells ≤ R.cells) (hs : slots ≤ R.slots) :
    Stand p l e { frames := R.frames, cells := R.cells - cells, slots := R.slots - slots, locals := R.locals } (T.setFrames (.invoking m args :: below)) m args below meth c T [] 0 0 := by
  obtain ⟨g₀, hfr⟩ := X.frames_eq
  have hcur : T.cur < T.threads.size := State.cur_lt_of_frames hfr
  have hf' : (T.setFrames (.invoking m args :: below)).frames = .invoking m args :: below := State.frames_setFrames _ hcur
  have hm' : (T.setFrames (.invoking m args :: below)).vm.method? m = some meth := X.method'
  have h1 := X.cellsAbove (n := R.cells - cells) (by omega)
  have h2 := X.slotsAbove (n := R.slots - slots) (by omega)
  refine ⟨X.admits, X.cas, X.clock, hf', ?_, ?_, hm', X.code, X.here, X.tail, State.WarmedH.refl _, (State.stackLimits_setFrames ..).symm, (State.stackBytes_setFrames ..).symm, ?_⟩
  · have hr := X.room
    have hb := X.book
    simp only [State.hasRoom, Bool.and_eq_true, decide_eq_true_eq] at hr ⊢
    obtain ⟨⟨⟨⟨r1, r2, r3, r4, r5, r6⟩, r7⟩, r8⟩, r9⟩ := hr
    rw [State.localsInUse_invoking X.frames X.method X.code] at r1 r4 r5
    rw [X.frames] at r2 r3
    rw [State.localsInUse_invoking hf' hm' X.code, hf', State.stackLimits_setFrames, State.stackBytes_setFrames, X.limits, X.bytes]
    exact ⟨⟨⟨⟨r1, r2, r3, r4, r5, r6⟩, h1⟩, h2⟩, hb⟩
  · have hh := X.hears
    have hc? : ∀ mm, (T.setFrames (.invoking m args :: below)).code? mm = s.code? mm := fun mm => by
      rw [State.code?_eq, State.code?_eq]
      show (T.vm.method? mm).bind _ = _
      rw [X.warmed.alike.method?]
    unfold State.hears at hh ⊢
    split at hh
    · rw [hc?]; exact hh
    · rfl
    · rfl
    · show (T.vm.method? m).any _ = true
      rw [X.warmed.alike.method?]; exact hh
  · obtain ⟨th, hth, -⟩ := State.frames_cons hf'
    have h := (State.sameButNew.refl (T.setFrames (.invoking m args :: below)) hth).setFrames T.frames (State.cur_lt_of_frames hf')
    have he : (T.setFrames (.invoking m args :: below)).setFrames T.frames = T := by
      obtain ⟨th2, hth2, -⟩ := State.frames_cons hfr
      rw [State.setFrames_setFrames, State.setFrames_self hth2]
    rw [he] at h
    exact h
theorem xj_th_inv {x : String} {r : xj_R} (h : xj_th A x = some r) : 1 ≤ A.2.1 ∧ 6 ≤ A.2.2 ∧ r = (.inr x, (A.1, A.2.1 - 1, A.2.2 - 6)) := by
  unfold xj_th at h
  by_cases hc : 1 ≤ A.2.1 ∧ 6 ≤ A.2.2
  · rw [if_pos hc] at h
    exact ⟨hc.1, hc.2, (Option.some.inj h).symm⟩
  · rw [if_neg hc] at h
    cases h
/-- the words of a 'throw new X(text)' -/
def xj_xw (own : String) (ix is ic : Nat) (X : String) (idx : Nat) (bytes : ByteArray) : Prop :=
  Cond.classLink own ix X ∈ xj_ws ∧ Cond.initialized X ∈ xj_ws ∧ Cond.instantiable X 6 ∈ xj_ws ∧ (∀ w ∈ xh_at own ic X "java/lang/RuntimeException" idx bytes ["java/lang/Exception"], w ∈ xj_ws ∨ w = .isRef (.static Bundle.tN "UNASSIGNED_STACK" Bundle.steD) ∨ w = .isRef (.static Bundle.tN "SUPPRESSED_SENTINEL" Bundle.listD) ∨ w = .laysStatic Bundle.tN "UNASSIGNED_STACK" Bundle.steD ∨ w = .laysStatic Bundle.tN "SUPPRESSED_SENTINEL" Bundle.listD) ∧
  Bundle.fit X = true ∧ (decode bytes 0 = .ok (.aload_n 0, 1) ∧ decode bytes 1 = .ok (.aload_n 1, 1) ∧ decode bytes 2 = .ok (.invokespecial idx, 3) ∧ decode bytes 5 = .ok (.return_, 1)) ∧ ∃ i tx, (own, is, i, tx) ∈ xj_sr
theorem xg_throw (B : xj_B l y0 cc nL ret hs d z) {X : String} {ix is ic idx : Nat} {bytes : ByteArray} (d0 : decode cc pc = .ok (.new ix, 3)) (d3 : decode cc (pc + 3) = .ok (.dup, 1)) (d4 : decode cc (pc + 3 + 1) = .ok (.ldc is, 2)) (d6 : decode cc (pc + 3 + 1 + 2) = .ok (.invokespecial ic, 3)) (d9 : decode cc (pc + 3 + 1 + 2 + 3) = .ok (.athrow, 1))
    (hw : xj_xw y0.cls ix is ic X idx bytes) (hdp : 6 ≤ d) (hout : (tableOf hs).all (fun q => !covers q (pc + 3 + 1 + 2 + 3)) = true) (h : xj_th A X = some (xf_r z)) : xj_W l z pc ls [] A := by
  intro ad H locs cells slots lz hI hls hst hlv T hT X0
  obtain ⟨g1, g2, hr⟩ := xj_th_inv h
  obtain ⟨w1, w2, w3, w4, w5, ⟨v0, v1, v2, v5⟩, i, tx, w8⟩ := hw
  have hpre := xj_pre_at B (T := T) hI hT X0.warmed
  obtain ⟨hx, hb, hml, hret, hlo, htab, hown, hnm, hTt, hK, hS, hP0, hR, htr⟩ := B
  have hc1 : cells + 1 ≤ (xf_R z).cells := by rw [hR]; show cells + 1 ≤ (xf_H z).2.1; have := hI.2.2.2.2.2.2.1; omega
  have hc2 : slots + 6 ≤ (xf_R z).slots := by rw [hR]; show slots + 6 ≤ (xf_H z).2.2; have := hI.2.2.2.2.2.2.2; omega
  have X1 := xc_rebase X0 (by omega) (by omega)
  have hown' : (T.setFrames (.invoking (xf_m z) (xf_a z) :: xf_b z)).vm.findClass y0.cls = some (xf_m z).cls := by
    show T.vm.findClass _ = _
    rw [X0.warmed.alike.findClass]; exact hown
  have hTt' : xj_T (T.setFrames (.invoking (xf_m z) (xf_a z) :: xf_b z)) := hTt.warm X0.warmed
  have hS' : xj_S (xf_g z) (xj_al (xf_g z) ad A T) (T.setFrames (.invoking (xf_m z) (xf_a z) :: xf_b z)) T.heap := hpre.2.2.1
  obtain ⟨vm', cX, kX, f1, f2, f3, f4, X2, st2⟩ := X1.newCold hx (own := y0.cls) (C := X) (index := ix) (n := 6) hown' (hTt'.1 _ w1 _) (hTt'.1 _ w3 _) (hTt'.1 _ w2 _) (g := F0 (xf_m z) pc lz []) rfl (by rw [hb]; exact d0) (by show 0 + 1 ≤ (xf_R z).cells - cells; omega) (by show 0 + 6 ≤ (xf_R z).slots - slots; omega)
  have hcellA : ((T.setVm vm').pushCell { cls := cX, slots := kX.instanceTypes.map defaultValue, vm := .none }).heap[T.heap.size]? = some (freshCell cX kX) := State.heap_pushCell_size _ _
  have hsr := xj_S.str hS' w8
  have hatoms : ∀ w ∈ xh_at y0.cls ic X "java/lang/RuntimeException" idx bytes ["java/lang/Exception"], w.before (xf_a z) (T.setFrames (.invoking (xf_m z) (xf_a z) :: xf_b z)) = true := by
    intro w hw
    rcases w4 w hw with h | rfl | rfl | rfl | rfl
    · exact hTt'.1 _ h _
    · exact xj_L.isRef (s := T.setFrames (.invoking (xf_m z) (xf_a z) :: xf_b z)) hS'.2.2.1
    · exact xj_L.isRef (s := T.setFrames (.invoking (xf_m z) (xf_a z) :: xf_b z)) hS'.2.2.2.1
    · exact xj_L.lays (s := T.setFrames (.invoking (xf_m z) (xf_a z) :: xf_b z)) hS'.2.2.1
    · exact xj_L.lays (s := T.setFrames (.invoking (xf_m z) (xf_a z) :: xf_b z)) hS'.2.2.2.1
  have hk : W (xf_p z) l (xf_e z) { frames := (xf_R z).frames, cells := (xf_R z).cells - cells, slots := (xf_R z).slots - slots, locals := (xf_R z).locals } (T.setFrames (.invoking (xf_m z) (xf_a z) :: xf_b z)) (xf_m z) (xf_a z) (xf_b z) (xf_t z) (xf_c z) ((T.setVm vm').pushCell { cls := cX, slots := kX.instanceTypes.map defaultValue, vm := .none }).heap [] (0 + 1) (0 + 6)
      (fun U => U.status = .running ∧ Ended U (xf_b z) (.threw T.heap.size) ∧ (T.setFrames (.invoking (xf_m z) (xf_a z) :: xf_b z)).WarmedH U.vm ∧ (T.setFrames (.invoking (xf_m z) (xf_a z) :: xf_b z)).sameButNew ({ U with vm := (T.setFrames (.invoking (xf_m z) (xf_a z) :: xf_b z)).vm } : State) [] (0 + 1) (0 + 6) ∧ ∃ ce, U.heap[T.heap.size]? = some ce ∧ (T.setFrames (.invoking (xf_m z) (xf_a z) :: xf_b z)).vm.findClass X = some ce.cls ∧ ce.vm = .none)
      (F0 (xf_m z) (pc + 3) lz [.ref T.heap.size]) := by
    refine lv_dup hx hb d3 rfl ?_
    refine va_ldcS hx hb hown' hsr d4 ?_
    intro T2 hT2 X3
    obtain ⟨U, u1, u2, u3, u4, u5, u6⟩ := xh_own X3 hx htr (own := y0.cls) (cls := X) (Y0 := "java/lang/RuntimeException") (names := ["java/lang/Exception"]) (ic := ic) hown' w5 (by decide +kernel) (by decide +kernel) v0 v1 v2 v5 hatoms f1 f2 (by rw [hT2]; exact hcellA) (Nat.le_refl _) (msg := .ref ((xf_g z).2.2.1 (100 + i))) rfl
      (g := F0 (xf_m z) (pc + 3 + 1 + 2) lz [.ref ((xf_g z).2.2.1 (100 + i)), .ref T.heap.size, .ref T.heap.size]) rfl hlv.1 rfl rfl (rest := []) rfl (by rw [hb]; exact d6) (by rw [hb]; exact d9) (outside_of_table htab hout)
      (by show 5 < (xf_R z).frames; rw [hR]; show 5 < d; omega) (by
        show _ ≤ (xf_R z).locals
        rw [hR]
        show 2 * (F0 (xf_m z) (pc + 3 + 1 + 2) lz [.ref ((xf_g z).2.2.1 (100 + i)), .ref T.heap.size, .ref T.heap.size]).monitorRoom + ([Value.ref T.heap.size].map fun v => v.category).sum + (13 * (1 + 2) + 42) ≤ 40 * d
        have := lv_room (m := xf_m z) (pc := pc + 3 + 1 + 2) (ls := lz) (rest := [.ref ((xf_g z).2.2.1 (100 + i)), .ref T.heap.size, .ref T.heap.size]) (st := [Value.ref T.heap.size]) (by simp [Value.category])
        omega) hlo
    exact ⟨U, u1, u2, u3, u4, u5, u6⟩
  obtain ⟨U, u1, u2, u3, u4, u5, ce, u6, u7, u8⟩ := hk _ rfl X2
  refine ⟨U, st2 _ u1, .threw T.heap.size, u2, u3, ad, locs, cells + 1, slots + 6, hI.1, ?_⟩
  have hkeep : ∀ q : Nat, q < H.size → U.heap[q]? = H[q]? := by
    intro q hq
    have hq' : T.heap[q]? = some (T.heap[q]'(by rw [hT]; exact hq)) := Array.getElem?_eq_getElem _
    have h9 := State.sameButNew.old_cell u5 (a := q) hq'
    rw [← hT, hq']; exact h9
  have hle : H.size ≤ U.heap.size := by rw [← hT]; exact u5.2.1
  have hsame : T.sameButNew ({ U with vm := T.vm } : State) [] 1 6 := by
    obtain ⟨e1, e2, e3, e4, e5, e6⟩ := u5
    refine ⟨?_, e2, e3, e4, e5, e6⟩
    rw [State.setFrames_setFrames] at e1
    exact e1
  have hs2 := X0.same.trans (hsame.setVm (xf_s z).vm)
  rw [List.append_nil] at hs2
  rw [hr]
  refine ⟨hI.2.1, ?_, hI.2.2.2.1, hI.2.2.2.2.1, ⟨Nat.le_trans hI.2.2.2.2.2.1.1 hle, fun q hq hna => ?_⟩, State.WarmedH.trans X0.warmed u4, hs2, hI.2.2.2.2.2.1.2.2, ?_, ?_, T.heap.size, ce, rfl, u6, u8, ?_⟩
  · refine hI.2.2.1.kept (fun k q hk => ?_)
    refine hkeep q.1 ?_
    have h9 := hI.2.2.1 k q hk
    obtain ⟨a, x⟩ := q
    cases x with
    | inl x => exact (Array.getElem?_eq_some_iff.mp h9).1
    | inr x =>
      obtain ⟨r, _, cell, q1, _⟩ := h9
      exact (Array.getElem?_eq_some_iff.mp q1).1
  · rw [hkeep q (Nat.lt_of_lt_of_le hq hI.2.2.2.2.2.1.1)]; exact hI.2.2.2.2.2.1.2.1 q hq hna
  · show cells + 1 + (A.2.1 - 1) ≤ _
    have := hI.2.2.2.2.2.2.1; omega
  · show slots + 6 + (A.2.2 - 6) ≤ _
    have := hI.2.2.2.2.2.2.2; omega
  · have h9 : T.vm.findClass X = some ce.cls := u7
    rw [X0.warmed.alike.findClass] at h9
    exact h9
end Xthrows
end
section
section Xcatch
/-- the search gives h and leaves the tables vm' -/
def xh_to (e : Env) (s : State) (f : JFrame) (a : Addr) (h : Handler) (vm' : Vm) : Prop :=
  ∀ (Q : Handler → Pre) (E : CtlPost) (b : Bool) (acts : List Action), wp (findHandler f a) Q E e b acts s ↔ Q h b acts (s.setVm vm')
theorem xh_link {Q : Handler → Pre} {E : CtlPost} {e : Env} {b : Bool} {acts : List Action} {s : State} {f : JFrame} {a : Addr} {x : ExceptionTableEntry} {t : List ExceptionTableEntry} {c : ClassId} {cell : Cell} (hx : covers x f.pc = true) (h0 : x.catchType ≠ 0)
    (hl : s.vm.ClassLinks e.platform f.method.cls x.catchType c) (hcell : s.heap[a]? = some cell) (hobj : ∀ k, cell.vm ≠ .statics k) (hk : ∃ k, s.vm.classes[cell.cls]? = some k) (hc : ∃ k, s.vm.classes[c]? = some k) :
    wp (findHandler.go f a (x :: t)) Q E e b acts s ↔ if s.vm.assignable cell.cls c = true then Q (.found x.handlerPc) b acts (s.setVm (s.vm.noted f.method.cls x.catchType (.cls c))) else wp (findHandler.go f a t) Q E e b acts (s.setVm (s.vm.noted f.method.cls x.catchType (.cls c))) := by
  simp only [covers] at hx
  obtain ⟨ha, ht⟩ := (resolveClass_links e.toSetting hl).op (op := VmOp.resolveClass f.method.cls x.catchType) rfl
  have hal : s.vm.Alike (s.vm.noted f.method.cls x.catchType (.cls c)) := (Vm.Alike.refl s.vm).noted _ _ _
  obtain ⟨k1, hk1⟩ := hk
  obtain ⟨k2, hk2⟩ := hc
  obtain ⟨k1', hk1', -⟩ := hal.2.2 _ _ hk1
  obtain ⟨k2', hk2', -⟩ := hal.2.2 _ _ hk2
  cases hfit : s.vm.assignable cell.cls c with
  | true =>
    have hfit' : (s.vm.noted f.method.cls x.catchType (.cls c)).assignable cell.cls c = true := by rw [hal.assignable]; exact hfit
    simp [findHandler.go, hx, h0, ha, ht, hcell, hobj, hk1', hk2', hfit', VmOp.dirties, VmOp.acts]
  | false =>
    have hfit' : (s.vm.noted f.method.cls x.catchType (.cls c)).assignable cell.cls c = false := by rw [hal.assignable]; exact hfit
    simp [findHandler.go, hx, h0, ha, ht, hcell, hobj, hk1', hk2', hfit', VmOp.dirties, VmOp.acts]
theorem xh_step {tb : Tables} {e : Env} {s target : State} {g : JFrame} {c : Code} {below : List Frame} {a : Addr} (h : At s g.method c below) {pc : Nat} {vm' : Vm}
    (hfind : xh_to e ((s.setTop g).pushFrame (.throwing a)) g a (.found pc) vm') (hrest : Steps tb e below ((s.setVm vm').setTop { g with pc := pc, stack := [.ref a] }) target) : Steps tb e below ((s.setTop g).pushFrame (.throwing a)) target := by
  obtain ⟨hgo, hw⟩ := h.throwing a
  refine Steps.head hgo hw ?_
  have hst : (stepThrowing e ((s.setTop g).pushFrame (.throwing a)) a (.java g :: s.frames.tail)).Is ((((s.setTop g).pushFrame (.throwing a)).setVm vm').setFrames (.java { g with pc := pc, stack := [.ref a] } :: s.frames.tail)) [] := by
    simp only [stepThrowing, searchFrame, vmDo]
    generalize hr : Sem.go _ e false [] ((s.setTop g).pushFrame (.throwing a)) = res
    obtain ⟨as, rfl, ha⟩ := Sem.eq_ok_of hr (a := Handler.found pc) (s' := ((s.setTop g).pushFrame (.throwing a)).setVm vm') (acts' := []) (by simp [hfind _ _ _ _])
    exact ⟨rfl, ha⟩
  rw [stepThread_throwing (frames_entered h.top _), hst.1]
  obtain ⟨g₀, hg⟩ := Option.isSome_iff_exists.mp h.top
  obtain ⟨r, hr⟩ := State.topJava?_eq_some.mp hg
  have hr' : (s.setVm vm').frames = .java g₀ :: r := hr
  rw [State.setTop_of_frames _ hr'] at hrest
  have he : ∀ (F G : List Frame), ((s.setFrames F).setVm vm').setFrames G = (s.setVm vm').setFrames G := fun F G => by
    have h1 : (s.setFrames F).setVm vm' = (s.setVm vm').setFrames F := rfl
    rw [h1, State.setFrames_setFrames]
  rw [hr, List.tail_cons, State.pushFrame, State.setTop_of_frames _ hr, State.setFrames_setFrames, he]
  exact hrest
variable {l : Launch} {z : xj_F} {y0 : MethodName} {cc : ByteArray} {nL : Nat} {ret : Option FieldType} {hs : List (Nat × Nat × Nat × Nat)} {d pc : Nat} {ls : List (Nat × Value)} {st : List Value} {A : xj_H}
/-- the first entry of the table takes it -/
theorem xj_X.catch1 (B : xj_B l y0 cc nL ret hs d z) {x name : String} {q : Nat × Nat × Nat × Nat} {rest : List (Nat × Nat × Nat × Nat)} (hh : hs = q :: rest) (hcov : q.1 ≤ pc ∧ pc < q.2.1) (h0 : q.2.2.2 ≠ 0) (wl : Cond.classLink y0.cls q.2.2.2 name ∈ xj_ws) (wc : Cond.castable x name ∈ xj_ws)
    {i n : Nat} {ig : Instr} (hd : decode cc q.2.2.1 = .ok (ig, n)) (hig : (∃ k : Fin 4, ig = .astore_n k ∧ (k : Nat) = i ∧ n = 1) ∨ (ig = .astore i ∧ n = 2)) (hi : i < nL) (hq : xj_nl i ls) {ls' : List (Nat × Value)} (he : ls.filter (fun q => !(q.1 == i)) = ls') (k : xj_W l z (q.2.2.1 + n) ls' [] A) : xj_X l z pc ls x A := by
  intro ad H locs cells slots lz stC a cell T hI hls hlv hcell hvm hcls hT X
  obtain ⟨hx, hb, hml, hret, hlo, htab, hown, hnm, hTt, hK, hS, hP0, hR, htr⟩ := B
  subst hh
  have hpl : (xf_e z).platform.magicAccessors = ({} : Platform).magicAccessors := by rw [X.admits.platform]
  obtain ⟨cT, hcT, hcl⟩ := Cond.classLink_spec hown (hTt.1 _ wl (xf_a z)) (xf_e z).platform hpl
  obtain ⟨c3, t3, hc3, ht3, hasg⟩ := Cond.castable_spec (hTt.1 _ wc (xf_a z))
  cases hcls.symm.trans hc3
  cases hcT.symm.trans ht3
  obtain ⟨dk, _, _, kt, hdk, _, _, _, _, hkt, _, hopen⟩ := hcl.here
  have hcl₀ := X.warmed.classLinks hcl
  have hW' : (xf_s z).WarmedH (T.vm.noted (xf_m z).cls q.2.2.2 (.cls cT)) := X.warmed.noted hdk hopen (State.rightAt_cls hcl)
  have hal := X.warmed.alike
  obtain ⟨kt', hkt', -⟩ := hal.2.2 _ _ hkt
  have hfit' : T.vm.assignable cell.cls cT = true := by rw [hal.assignable]; exact hasg
  have XV := X.noted hW'
  have hfind : xh_to (xf_e z) ((T.setTop (F0 (xf_m z) pc lz stC)).pushFrame (.throwing a)) (F0 (xf_m z) pc lz stC) a (.found q.2.2.1) (T.vm.noted (xf_m z).cls q.2.2.2 (.cls cT)) := by
    intro Q E b acts
    rw [W.findHandler_eq (s := (T.setTop (F0 (xf_m z) pc lz stC)).pushFrame (.throwing a)) (f := F0 (xf_m z) pc lz stC) X.method' X.code, htab]
    show wp (findHandler.go _ _ (⟨q.1, q.2.1, q.2.2.1, q.2.2.2⟩ :: tableOf rest)) Q E _ b acts _ ↔ _
    refine (xh_link (s := (T.setTop (F0 (xf_m z) pc lz stC)).pushFrame (.throwing a)) (f := F0 (xf_m z) pc lz stC) (a := a) (x := ⟨q.1, q.2.1, q.2.2.1, q.2.2.2⟩) (c := cT) (cell := cell) (by simp [covers, hcov.1, hcov.2]) h0 hcl₀ (by show T.heap[a]? = _; rw [hT]; exact hcell) (by rw [hvm]; intro k h; cases h) (Vm.classAt_of_assignable hfit' ⟨kt', hkt'⟩) ⟨kt', hkt'⟩).trans ?_
    rw [if_pos (show ((T.setTop (F0 (xf_m z) pc lz stC)).pushFrame (.throwing a)).vm.assignable cell.cls cT = true from hfit')]
    exact Iff.rfl
  have hlv0 : lv_has lz (xf_c z).maxLocals (ls.map (fun q => (q.1, xj_v (xf_g z) ad q.2))) := hlv
  have hcont : ∀ lz' : Array Slot, lv_has lz' (xf_c z).maxLocals ((i, Value.ref a) :: ls'.map (fun q => (q.1, xj_v (xf_g z) ad q.2))) → W (xf_p z) l (xf_e z) (xf_R z) (xf_s z) (xf_m z) (xf_a z) (xf_b z) (xf_t z) (xf_c z) H locs cells slots (xj_Q z) (F0 (xf_m z) (q.2.2.1 + n) lz' []) := fun lz' h' =>
    k ad H locs cells slots lz' hI (fun w hw => hls w (by rw [← he] at hw; exact (List.mem_filter.mp hw).1)) trivial ⟨h'.1, h'.2.1, fun w hw => h'.2.2 w (List.mem_cons_of_mem _ hw)⟩
  have hWh : W (xf_p z) l (xf_e z) (xf_R z) (xf_s z) (xf_m z) (xf_a z) (xf_b z) (xf_t z) (xf_c z) H locs cells slots (xj_Q z) (F0 (xf_m z) q.2.2.1 lz [.ref a]) := by
    rcases hig with ⟨kk, rfl, hk, rfl⟩ | ⟨rfl, rfl⟩
    · exact lv_astore_n hx hb hd hk hlv0 (by rw [hml]; exact hi) (by rw [xj_f1 _ _ _ hq, he]) hcont
    · exact lv_astore hx hb hd hlv0 (by rw [hml]; exact hi) (by rw [xj_f1 _ _ _ hq, he]) hcont
  obtain ⟨t, ht1, ht2⟩ := hWh (T.setVm (T.vm.noted (xf_m z).cls q.2.2.2 (.cls cT))) hT XV
  exact ⟨t, xh_step X.here hfind ht1, ht2⟩
/-- the first entry passes it on, the second takes it -/
theorem xj_X.catch2 (B : xj_B l y0 cc nL ret hs d z) {x nm1 name : String} {q1 q : Nat × Nat × Nat × Nat} {rest : List (Nat × Nat × Nat × Nat)} (hh : hs = q1 :: q :: rest) (hcov1 : q1.1 ≤ pc ∧ pc < q1.2.1) (hcov : q.1 ≤ pc ∧ pc < q.2.1) (h01 : q1.2.2.2 ≠ 0) (h0 : q.2.2.2 ≠ 0) (wl1 : Cond.classLink y0.cls q1.2.2.2 nm1 ∈ xj_ws) (wl : Cond.classLink y0.cls q.2.2.2 name ∈ xj_ws)
    (wn : ∀ U, (xf_s z).WarmedH U → ∀ c t, U.findClass x = some c → U.findClass nm1 = some t → U.assignable c t = false) (wc : Cond.castable x name ∈ xj_ws)
    {i n : Nat} {ig : Instr} (hd : decode cc q.2.2.1 = .ok (ig, n)) (hig : (∃ k : Fin 4, ig = .astore_n k ∧ (k : Nat) = i ∧ n = 1) ∨ (ig = .astore i ∧ n = 2)) (hi : i < nL) (hq : xj_nl i ls) {ls' : List (Nat × Value)} (he : ls.filter (fun q => !(q.1 == i)) = ls') (k : xj_W l z (q.2.2.1 + n) ls' [] A) : xj_X l z pc ls x A := by
  intro ad H locs cells slots lz stC a cell T hI hls hlv hcell hvm hcls hT X
  obtain ⟨hx, hb, hml, hret, hlo, htab, hown, hnm, hTt, hK, hS, hP0, hR, htr⟩ := B
  subst hh
  have hpl : (xf_e z).platform.magicAccessors = ({} : Platform).magicAccessors := by rw [X.admits.platform]
  obtain ⟨cN, hcN, hclN⟩ := Cond.classLink_spec hown (hTt.1 _ wl1 (xf_a z)) (xf_e z).platform hpl
  obtain ⟨cT, hcT, hcl⟩ := Cond.classLink_spec hown (hTt.1 _ wl (xf_a z)) (xf_e z).platform hpl
  obtain ⟨c3, t3, hc3, ht3, hasg⟩ := Cond.castable_spec (hTt.1 _ wc (xf_a z))
  cases hcls.symm.trans hc3
  cases hcT.symm.trans ht3
  have hclN₀ := X.warmed.classLinks hclN
  obtain ⟨dkN, _, _, ktN, hdkN, _, _, _, _, hktN, _, hopenN⟩ := hclN.here
  obtain ⟨dk, _, _, kt, hdk, _, _, _, _, hkt, _, hopen⟩ := hcl.here
  have hW1 : (xf_s z).WarmedH (T.vm.noted (xf_m z).cls q1.2.2.2 (.cls cN)) := X.warmed.noted hdkN hopenN (State.rightAt_cls hclN)
  have X1 := X.noted hW1
  have hcl₁ := hW1.classLinks hcl
  have hW' : (xf_s z).WarmedH ((T.vm.noted (xf_m z).cls q1.2.2.2 (.cls cN)).noted (xf_m z).cls q.2.2.2 (.cls cT)) := hW1.noted hdk hopen (State.rightAt_cls hcl)
  have XV := X1.noted hW'
  have hal := X.warmed.alike
  have hal1 := hW1.alike
  obtain ⟨ktN', hktN', -⟩ := hal.2.2 _ _ hktN
  obtain ⟨kt', hkt', -⟩ := hal1.2.2 _ _ hkt
  obtain ⟨kt0, hkt0, -⟩ := hal.2.2 _ _ hkt
  have hfit0 : T.vm.assignable cell.cls cT = true := by rw [hal.assignable]; exact hasg
  have hfit' : (T.vm.noted (xf_m z).cls q1.2.2.2 (.cls cN)).assignable cell.cls cT = true := by rw [hal1.assignable]; exact hasg
  have hno : T.vm.assignable cell.cls cN = false := wn T.vm X.warmed cell.cls cN (by rw [hal.findClass]; exact hcls) (by rw [hal.findClass]; exact hcN)
  have hfind : xh_to (xf_e z) ((T.setTop (F0 (xf_m z) pc lz stC)).pushFrame (.throwing a)) (F0 (xf_m z) pc lz stC) a (.found q.2.2.1) ((T.vm.noted (xf_m z).cls q1.2.2.2 (.cls cN)).noted (xf_m z).cls q.2.2.2 (.cls cT)) := by
    intro Q E b acts
    rw [W.findHandler_eq (s := (T.setTop (F0 (xf_m z) pc lz stC)).pushFrame (.throwing a)) (f := F0 (xf_m z) pc lz stC) X.method' X.code, htab]
    show wp (findHandler.go _ _ (⟨q1.1, q1.2.1, q1.2.2.1, q1.2.2.2⟩ :: ⟨q.1, q.2.1, q.2.2.1, q.2.2.2⟩ :: tableOf rest)) Q E _ b acts _ ↔ _
    refine (xh_link (s := (T.setTop (F0 (xf_m z) pc lz stC)).pushFrame (.throwing a)) (f := F0 (xf_m z) pc lz stC) (a := a) (x := ⟨q1.1, q1.2.1, q1.2.2.1, q1.2.2.2⟩) (c := cN) (cell := cell) (by simp [covers, hcov1.1, hcov1.2]) h01 hclN₀ (by show T.heap[a]? = _; rw [hT]; exact hcell) (by rw [hvm]; intro k h; cases h) (Vm.classAt_of_assignable hfit0 ⟨kt0, hkt0⟩) ⟨ktN', hktN'⟩).trans ?_
    rw [if_neg (show ¬ ((T.setTop (F0 (xf_m z) pc lz stC)).pushFrame (.throwing a)).vm.assignable cell.cls cN = true from by show ¬ T.vm.assignable cell.cls cN = true; rw [hno]; decide)]
    refine (xh_link (s := ((T.setTop (F0 (xf_m z) pc lz stC)).pushFrame (.throwing a)).setVm (T.vm.noted (xf_m z).cls q1.2.2.2 (.cls cN))) (f := F0 (xf_m z) pc lz stC) (a := a) (x := ⟨q.1, q.2.1, q.2.2.1, q.2.2.2⟩) (c := cT) (cell := cell) (by simp [covers, hcov.1, hcov.2]) h0 hcl₁ (by show T.heap[a]? = _; rw [hT]; exact hcell) (by rw [hvm]; intro k h; cases h) (Vm.classAt_of_assignable hfit' ⟨kt', hkt'⟩) ⟨kt', hkt'⟩).trans ?_
    rw [if_pos (show ((((T.setTop (F0 (xf_m z) pc lz stC)).pushFrame (.throwing a)).setVm (T.vm.noted (xf_m z).cls q1.2.2.2 (.cls cN))).vm).assignable cell.cls cT = true from hfit')]
    exact Iff.rfl
  have hlv0 : lv_has lz (xf_c z).maxLocals (ls.map (fun q => (q.1, xj_v (xf_g z) ad q.2))) := hlv
  have hcont : ∀ lz' : Array Slot, lv_has lz' (xf_c z).maxLocals ((i, Value.ref a) :: ls'.map (fun q => (q.1, xj_v (xf_g z) ad q.2))) → W (xf_p z) l (xf_e z) (xf_R z) (xf_s z) (xf_m z) (xf_a z) (xf_b z) (xf_t z) (xf_c z) H locs cells slots (xj_Q z) (F0 (xf_m z) (q.2.2.1 + n) lz' []) := fun lz' h' =>
    k ad H locs cells slots lz' hI (fun w hw => hls w (by rw [← he] at hw; exact (List.mem_filter.mp hw).1)) trivial ⟨h'.1, h'.2.1, fun w hw => h'.2.2 w (List.mem_cons_of_mem _ hw)⟩
  have hWh : W (xf_p z) l (xf_e z) (xf_R z) (xf_s z) (xf_m z) (xf_a z) (xf_b z) (xf_t z) (xf_c z) H locs cells slots (xj_Q z) (F0 (xf_m z) q.2.2.1 lz [.ref a]) := by
    rcases hig with ⟨kk, rfl, hk, rfl⟩ | ⟨rfl, rfl⟩
    · exact lv_astore_n hx hb hd hk hlv0 (by rw [hml]; exact hi) (by rw [xj_f1 _ _ _ hq, he]) hcont
    · exact lv_astore hx hb hd hlv0 (by rw [hml]; exact hi) (by rw [xj_f1 _ _ _ hq, he]) hcont
  obtain ⟨t, ht1, ht2⟩ := hWh (T.setVm ((T.vm.noted (xf_m z).cls q1.2.2.2 (.cls cN)).noted (xf_m z).cls q.2.2.2 (.cls cT))) hT XV
  exact ⟨t, xh_step X.here hfind ht1, ht2⟩
end Xcatch
end
section
section Xspecial
variable {l : Launch} {z : xj_F} {y0 : MethodName} {cc : ByteArray} {nL : Nat} {ret : Option FieldType} {hs : List (Nat × Nat × Nat × Nat)} {d pc : Nat} {ls : List (Nat × Value)} {st : List Value} {A : xj_H}
theorem xj_B.S (B : xj_B l y0 cc nL ret hs d z) : xj_S (xf_g z) (xj_al (xf_g z) (xf_d z) (xf_H z) (xf_s z)) (xf_s z) (xf_s z).heap := B.2.2.2.2.2.2.2.2.2.2.1
theorem xj_B.T (B : xj_B l y0 cc nL ret hs d z) : xj_T (xf_s z) := B.2.2.2.2.2.2.2.2.1
theorem xj_B.own (B : xj_B l y0 cc nL ret hs d z) : (xf_s z).vm.findClass y0.cls = some (xf_m z).cls := B.2.2.2.2.2.2.1
/-- a string constant -/
theorem xg_ldcS (B : xj_B l y0 cc nL ret hs d z) {index i : Nat} (hd : decode cc pc = .ok (.ldc index, 2)) (hw : ∃ tx, (y0.cls, index, i, tx) ∈ xj_sr) (k : xj_W l z (pc + 2) ls (xj_rv (some (.inr (100 + i))) :: st) A) : xj_W l z pc ls st A := by
  intro ad H locs cells slots lz hI hls hst hlv
  obtain ⟨tx, hw⟩ := hw
  exact va_ldcS B.1 B.2.1 B.own (xj_S.str B.S hw) hd (k ad H locs cells slots lz hI hls ⟨trivial, hst⟩ hlv)
/-- an enum constant -/
theorem xg_gete (B : xj_B l y0 cc nL ret hs d z) {index i : Nat} (hd : decode cc pc = .ok (.getstatic index, 3)) (hi : i < 4) (hw : Cond.fieldLink y0.cls index xj_fq (xj_fn.getD i "") "LRecurrenceBook$Frequency;" ∈ xj_ws) (k : xj_W l z (pc + 3) ls (xj_rv (some (.inr i)) :: st) A) : xj_W l z pc ls st A := by
  intro ad H locs cells slots lz hI hls hst hlv
  exact va_gets B.1 B.2.1 (B.S.2.2.2.2.1.1 i hi).1 hI.2.2.2.2.2.1 B.own (B.T.1 _ hw _) (fun _ h => h) hd (k ad H locs cells slots lz hI hls ⟨trivial, hst⟩ hlv)
/-- the static table -/
theorem xg_gett (B : xj_B l y0 cc nL ret hs d z) {index : Nat} (hd : decode cc pc = .ok (.getstatic index, 3)) (hw : Cond.fieldLink y0.cls index "RecurrenceBook$Dates" "DAYS_BEFORE_MONTH" "[I" ∈ xj_ws) (k : xj_W l z (pc + 3) ls (xj_rv (some (.inr 50)) :: st) A) : xj_W l z pc ls st A := by
  intro ad H locs cells slots lz hI hls hst hlv
  exact va_gets B.1 B.2.1 B.S.2.2.2.2.2.1 hI.2.2.2.2.2.1 B.own (B.T.1 _ hw _) (fun _ h => h) hd (k ad H locs cells slots lz hI hls ⟨trivial, hst⟩ hlv)
def xj_tb (i : Int32) : Option Int32 := if i < 0 ∨ 12 ≤ i.toNatClampNeg then none else some (xj_dm.getD i.toNatClampNeg 0)
theorem xg_tload (B : xj_B l y0 cc nL ret hs d z) {i : Int32} {K : Int32 → Option xj_R} (hd : decode cc pc = .ok (.iaload, 1)) (h : (xj_tb i).bind K = some (xf_r z)) (kk : ∀ x, xj_tb i = some x → K x = some (xf_r z) → xj_W l z (pc + 1) ls (.int x :: st) A) : xj_W l z pc ls (.int i :: xj_rv (some (.inr 50)) :: st) A := by
  obtain ⟨x, h1, h2⟩ := Option.bind_eq_some_iff.mp h
  have k := kk x h1 h2
  unfold xj_tb at h1
  by_cases hc : i < 0 ∨ 12 ≤ i.toNatClampNeg
  · rw [if_pos hc] at h1; cases h1
  · rw [if_neg hc] at h1
    cases h1
    intro ad H locs cells slots lz hI hls hst hlv
    exact va_ti B.1 B.2.1 B.S.2.2.2.2.2.2.1 hI.2.2.2.2.2.1 hc rfl hd (k ad H locs cells slots lz hI hls ⟨trivial, hst.2.2⟩ hlv)
/-- the script -/
def xj_sc (xs : Nat → Int32) (L : Nat) (i : Int32) : Option Int32 := if i < 0 ∨ L ≤ i.toNatClampNeg then none else some (xs i.toNatClampNeg)
theorem xg_sload (B : xj_B l y0 cc nL ret hs d z) {i : Int32} {K : Int32 → Option xj_R} (hd : decode cc pc = .ok (.iaload, 1)) (h : (xj_sc (xf_g z).2.2.2.1 (xf_g z).2.2.2.2 i).bind K = some (xf_r z)) (kk : ∀ x, xj_sc (xf_g z).2.2.2.1 (xf_g z).2.2.2.2 i = some x → K x = some (xf_r z) → xj_W l z (pc + 1) ls (.int x :: st) A) : xj_W l z pc ls (.int i :: xj_rv (some (.inr 200)) :: st) A := by
  obtain ⟨x, h1, h2⟩ := Option.bind_eq_some_iff.mp h
  have k := kk x h1 h2
  unfold xj_sc at h1
  by_cases hc : i < 0 ∨ (xf_g z).2.2.2.2 ≤ i.toNatClampNeg
  · rw [if_pos hc] at h1; cases h1
  · rw [if_neg hc] at h1
    cases h1
    intro ad H locs cells slots lz hI hls hst hlv
    obtain ⟨⟨scr, s1, s2, s3, s4, s5⟩, hna⟩ := B.S.2.2.2.2.2.2.2.2.2.2.1
    have hH : H[(xf_g z).2.2.1 200]? = some scr := by rw [hI.2.2.2.2.2.1.2.1 _ (Array.getElem?_eq_some_iff.mp s1).1 hna]; exact s1
    exact W.iald B.1 B.2.1 hH s2 s3 (by rw [s4]; exact hc) (s5 _ (by omega)) (g := F0 (xf_m z) pc lz _) rfl rfl hd (k ad H locs cells slots lz hI hls ⟨trivial, hst.2.2⟩ hlv)
theorem xg_slen (B : xj_B l y0 cc nL ret hs d z) (hd : decode cc pc = .ok (.arraylength, 1)) (k : xj_W l z (pc + 1) ls (.int (Int32.ofNat (xf_g z).2.2.2.2) :: st) A) : xj_W l z pc ls (xj_rv (some (.inr 200)) :: st) A := by
  intro ad H locs cells slots lz hI hls hst hlv
  obtain ⟨⟨scr, s1, s2, s3, s4, s5⟩, hna⟩ := B.S.2.2.2.2.2.2.2.2.2.2.1
  have hH : H[(xf_g z).2.2.1 200]? = some scr := by rw [hI.2.2.2.2.2.1.2.1 _ (Array.getElem?_eq_some_iff.mp s1).1 hna]; exact s1
  exact W.alen B.1 B.2.1 hH s2 (n := Int32.ofNat (xf_g z).2.2.2.2) (by rw [s4]) (g := F0 (xf_m z) pc lz _) rfl rfl hd (k ad H locs cells slots lz hI hls ⟨trivial, hst.2⟩ hlv)
/-! What String's own methods read. -/
def xj_si (o : xj_Rf) (b : Nat) : Option Nat := match o with
  | some (.inr j) => if b ≤ j ∧ j < b + 22 then some (j - b) else none
  | _ => none
theorem xj_si_inv {o : xj_Rf} {b i : Nat} (h : xj_si o b = some i) : i < 22 ∧ o = some (.inr (b + i)) := by
  unfold xj_si at h
  split at h
  · rename_i j
    by_cases hc : b ≤ j ∧ j < b + 22
    · rw [if_pos hc] at h
      cases h
      exact ⟨by omega, by congr 2; omega⟩
    · rw [if_neg hc] at h; cases h
  · cases h
def xj_sv (o : xj_Rf) : Option xj_Rf := (xj_si o 100).bind fun i => some (some (.inr (300 + i)))
def xj_sk (o : xj_Rf) : Option Int32 := (xj_si o 100).bind fun _ => some 0
def xj_sn (o : xj_Rf) : Option Int32 := (xj_si o 300).bind fun i => some (Int32.ofNat (xj_sl.getD i 0))
def xj_sx (o : xj_Rf) (k : Int32) : Option Int32 := (xj_si o 300).bind fun i => if k < 0 ∨ xj_sl.getD i 0 ≤ k.toNatClampNeg then none else some ((xj_sb.getD i []).getD k.toNatClampNeg 0)
theorem xg_sval (B : xj_B l y0 cc nL ret hs d z) {o : xj_Rf} {K : xj_Rf → Option xj_R} {index : Nat} (hd : decode cc pc = .ok (.getfield index, 3)) (hw : Cond.fieldLink y0.cls index "java/lang/String" "value" "[B" ∈ xj_ws) (h : (xj_sv o).bind K = some (xf_r z)) (kk : ∀ x, xj_sv o = some x → K x = some (xf_r z) → xj_W l z (pc + 3) ls (xj_rv x :: st) A) : xj_W l z pc ls (xj_rv o :: st) A := by
  obtain ⟨x, h1, h2⟩ := Option.bind_eq_some_iff.mp h
  have k := kk x h1 h2
  obtain ⟨i, h3, h4⟩ := Option.bind_eq_some_iff.mp h1
  cases h4
  obtain ⟨hi, rfl⟩ := xj_si_inv h3
  intro ad H locs cells slots lz hI hls hst hlv
  exact vk_getf B.1 B.2.1 (B.S.1.1 i hi).2.2.1 hI.2.2.2.2.2.1 B.own (B.T.1 _ hw _) (fun _ h => h) hd (k ad H locs cells slots lz hI hls ⟨trivial, hst.2⟩ hlv)
theorem xg_scod (B : xj_B l y0 cc nL ret hs d z) {o : xj_Rf} {K : Int32 → Option xj_R} {index : Nat} (hd : decode cc pc = .ok (.getfield index, 3)) (hw : Cond.fieldLink y0.cls index "java/lang/String" "coder" "B" ∈ xj_ws) (h : (xj_sk o).bind K = some (xf_r z)) (kk : ∀ x, xj_sk o = some x → K x = some (xf_r z) → xj_W l z (pc + 3) ls (.int x :: st) A) : xj_W l z pc ls (xj_rv o :: st) A := by
  obtain ⟨x, h1, h2⟩ := Option.bind_eq_some_iff.mp h
  have k := kk x h1 h2
  obtain ⟨i, h3, h4⟩ := Option.bind_eq_some_iff.mp h1
  cases h4
  obtain ⟨hi, rfl⟩ := xj_si_inv h3
  intro ad H locs cells slots lz hI hls hst hlv
  exact vk_getf B.1 B.2.1 (B.S.1.1 i hi).2.1 hI.2.2.2.2.2.1 B.own (B.T.1 _ hw _) (fun _ h => h) hd (k ad H locs cells slots lz hI hls ⟨trivial, hst.2⟩ hlv)
theorem xg_sblen (B : xj_B l y0 cc nL ret hs d z) {o : xj_Rf} {K : Int32 → Option xj_R} (hd : decode cc pc = .ok (.arraylength, 1)) (h : (xj_sn o).bind K = some (xf_r z)) (kk : ∀ x, xj_sn o = some x → K x = some (xf_r z) → xj_W l z (pc + 1) ls (.int x :: st) A) : xj_W l z pc ls (xj_rv o :: st) A := by
  obtain ⟨x, h1, h2⟩ := Option.bind_eq_some_iff.mp h
  have k := kk x h1 h2
  obtain ⟨i, h3, h4⟩ := Option.bind_eq_some_iff.mp h1
  cases h4
  obtain ⟨hi, rfl⟩ := xj_si_inv h3
  intro ad H locs cells slots lz hI hls hst hlv
  exact va_tlen B.1 B.2.1 (B.S.1.1 i hi).2.2.2 hI.2.2.2.2.2.1 rfl hd (k ad H locs cells slots lz hI hls ⟨trivial, hst.2⟩ hlv)
theorem xg_sbload (B : xj_B l y0 cc nL ret hs d z) {o : xj_Rf} {i0 : Int32} {K : Int32 → Option xj_R} (hd : decode cc pc = .ok (.baload, 1)) (h : (xj_sx o i0).bind K = some (xf_r z)) (kk : ∀ x, xj_sx o i0 = some x → K x = some (xf_r z) → xj_W l z (pc + 1) ls (.int x :: st) A) : xj_W l z pc ls (.int i0 :: xj_rv o :: st) A := by
  obtain ⟨x, h1, h2⟩ := Option.bind_eq_some_iff.mp h
  have k := kk x h1 h2
  obtain ⟨i, h3, h4⟩ := Option.bind_eq_some_iff.mp h1
  obtain ⟨hi, rfl⟩ := xj_si_inv h3
  by_cases hc : i0 < 0 ∨ xj_sl.getD i 0 ≤ i0.toNatClampNeg
  · rw [if_pos hc] at h4; cases h4
  · rw [if_neg hc] at h4
    cases h4
    intro ad H locs cells slots lz hI hls hst hlv
    exact va_tb B.1 B.2.1 (B.S.1.1 i hi).2.2.2 hI.2.2.2.2.2.1 hc rfl hd (k ad H locs cells slots lz hI hls ⟨trivial, hst.2.2⟩ hlv)
theorem xg_getcs (B : xj_B l y0 cc nL ret hs d z) {index : Nat} (hd : decode cc pc = .ok (.getstatic index, 3)) (hw : Cond.fieldLink y0.cls index "java/lang/String" "COMPACT_STRINGS" "Z" ∈ xj_ws) (k : xj_W l z (pc + 3) ls (.int 1 :: st) A) : xj_W l z pc ls st A := by
  intro ad H locs cells slots lz hI hls hst hlv
  exact va_gets B.1 B.2.1 B.S.2.2.2.2.2.2.2.2.1 hI.2.2.2.2.2.1 B.own (B.T.1 _ hw _) (fun _ h => h) hd (k ad H locs cells slots lz hI hls ⟨trivial, hst⟩ hlv)
theorem xg_getsf (B : xj_B l y0 cc nL ret hs d z) {index : Nat} (hd : decode cc pc = .ok (.getstatic index, 3)) (hw : Cond.fieldLink y0.cls index xj_jp "SIOOBE_FORMATTER" xj_jf ∈ xj_ws) (k : ∀ r : xj_Rf, xj_W l z (pc + 3) ls (xj_rv r :: st) A) : xj_W l z pc ls st A := by
  intro ad H locs cells slots lz hI hls hst hlv
  rcases B.S.2.2.2.2.2.2.2.2.2.1 with h | h
  · exact va_gets B.1 B.2.1 h hI.2.2.2.2.2.1 B.own (B.T.1 _ hw _) (fun _ h => h) hd (k none ad H locs cells slots lz hI hls ⟨trivial, hst⟩ hlv)
  · exact va_gets B.1 B.2.1 h hI.2.2.2.2.2.1 B.own (B.T.1 _ hw _) (fun _ h => h) hd (k (some (.inr 60)) ad H locs cells slots lz hI hls ⟨trivial, hst⟩ hlv)
/-! References compared: null and enum constants. -/
def xj_e4 (r : xj_Rf) : Bool := match r with
  | none => true
  | some (.inr i) => decide (i < 4)
  | _ => false
def xj_on (g : xj_G) (r : xj_Rf) : Option Nat := match r with
  | some (.inr i) => some (g.2.2.1 i)
  | _ => none
theorem xj_on_v {g : xj_G} {ad : Nat → Nat} {r : xj_Rf} (h : xj_e4 r = true) : xj_v g ad (xj_rv r) = va_rf (xj_on g r) := by
  match r, h with
  | none, _ => rfl
  | some (.inr i), _ => rfl
theorem xj_on_inj (B : xj_B l y0 cc nL ret hs d z) {r q : xj_Rf} (h : xj_e4 r = true) (h' : xj_e4 q = true) : xj_on (xf_g z) r = xj_on (xf_g z) q ↔ r = q := by
  match r, q, h, h' with
  | none, none, _, _ => simp
  | none, some (.inr j), _, _ => simp [xj_on]
  | some (.inr i), none, _, _ => simp [xj_on]
  | some (.inr i), some (.inr j), h, h' =>
    constructor
    · intro e
      have := B.S.2.2.2.2.1.2 i j (of_decide_eq_true h) (of_decide_eq_true h') (Option.some.inj e)
      rw [this]
    · intro e; rw [e]
theorem xg_acmp_eq (B : xj_B l y0 cc nL ret hs d z) {r q : xj_Rf} {off : Int} {tgt : Nat} {P P' : Option xj_R} (hd : decode cc pc = .ok (.if_acmp .eq off, 3)) (ht : (pc : Int) + off = (tgt : Int)) (h : (if (xj_e4 r && xj_e4 q) = true then (if r = q then P else P') else none) = some (xf_r z)) (kt : r = q → P = some (xf_r z) → xj_W l z tgt ls st A) (kf : ¬ r = q → P' = some (xf_r z) → xj_W l z (pc + 3) ls st A) : xj_W l z pc ls (xj_rv q :: xj_rv r :: st) A := by
  by_cases he : (xj_e4 r && xj_e4 q) = true
  · rw [if_pos he] at h
    obtain ⟨h1, h2⟩ := Bool.and_eq_true_iff.mp he
    intro ad H locs cells slots lz hI hls hst hlv
    show W _ _ _ _ _ _ _ _ _ _ _ _ _ _ _ (F0 _ _ _ (xj_v (xf_g z) ad (xj_rv q) :: xj_v (xf_g z) ad (xj_rv r) :: _))
    rw [xj_on_v h1, xj_on_v h2]
    refine lv_acmp_eq B.1 B.2.1 hd ht (fun e => ?_) (fun e => ?_)
    · have e := (xj_on_inj B h1 h2).mp e
      exact kt e (by rw [if_pos e] at h; exact h) ad H locs cells slots lz hI hls hst.2.2 hlv
    · have e : ¬ r = q := fun q => e ((xj_on_inj B h1 h2).mpr q)
      exact kf e (by rw [if_neg e] at h; exact h) ad H locs cells slots lz hI hls hst.2.2 hlv
  · rw [if_neg he] at h; cases h
theorem xg_acmp_ne (B : xj_B l y0 cc nL ret hs d z) {r q : xj_Rf} {off : Int} {tgt : Nat} {P P' : Option xj_R} (hd : decode cc pc = .ok (.if_acmp .ne off, 3)) (ht : (pc : Int) + off = (tgt : Int)) (h : (if (xj_e4 r && xj_e4 q) = true then (if ¬ r = q then P else P') else none) = some (xf_r z)) (kt : ¬ r = q → P = some (xf_r z) → xj_W l z tgt ls st A) (kf : ¬ ¬ r = q → P' = some (xf_r z) → xj_W l z (pc + 3) ls st A) : xj_W l z pc ls (xj_rv q :: xj_rv r :: st) A := by
  by_cases he : (xj_e4 r && xj_e4 q) = true
  · rw [if_pos he] at h
    obtain ⟨h1, h2⟩ := Bool.and_eq_true_iff.mp he
    intro ad H locs cells slots lz hI hls hst hlv
    show W _ _ _ _ _ _ _ _ _ _ _ _ _ _ _ (F0 _ _ _ (xj_v (xf_g z) ad (xj_rv q) :: xj_v (xf_g z) ad (xj_rv r) :: _))
    rw [xj_on_v h1, xj_on_v h2]
    refine lv_acmp_ne B.1 B.2.1 hd ht (fun e => ?_) (fun e => ?_)
    · have e : ¬ r = q := fun q => e ((xj_on_inj B h1 h2).mpr q)
      exact kt e (by rw [if_pos e] at h; exact h) ad H locs cells slots lz hI hls hst.2.2 hlv
    · have e := (xj_on_inj B h1 h2).mp e
      exact kf (fun q => q e) (by rw [if_neg (fun q => q e)] at h; exact h) ad H locs cells slots lz hI hls hst.2.2 hlv
  · rw [if_neg he] at h; cases h
def xj_isw (o : xj_Rf) : Bool := match o with
  | some (.inl _) => true
  | _ => false
theorem xj_isw_inv {o : xj_Rf} {P : Option xj_R} {r : xj_R} (h : (if xj_isw o = true then P else none) = some r) : ∃ a, o = some (.inl a) ∧ P = some r := by
  by_cases hc : xj_isw o = true
  · rw [if_pos hc] at h
    match o, hc with
    | some (.inl a), _ => exact ⟨a, rfl, h⟩
  · rw [if_neg hc] at h; cases h
/-! Calls whose exceptions the method catches. -/
def xj_ki (F : Option xj_R) (K : Int32 → xj_H → Option xj_R) (X : String → xj_H → Option xj_R) : Option xj_R := match F with
  | some (.inl (some (.int v)), A) => K v A
  | some (.inr x, A) => X x A
  | _ => none
def xj_kv (F : Option xj_R) (K : xj_H → Option xj_R) (X : String → xj_H → Option xj_R) : Option xj_R := match F with
  | some (.inl none, A) => K A
  | some (.inr x, A) => X x A
  | _ => none
theorem xj_rq_ki {o : xj_Rf} {ci : Nat} {F : Option xj_R} {K : Int32 → xj_H → Option xj_R} {X : String → xj_H → Option xj_R} {r : xj_R} (h : xj_ki (xj_rq A o ci F) K X = some r) : xj_is A o ci = true ∧ xj_ki F K X = some r := by
  unfold xj_rq at h
  by_cases hc : xj_is A o ci = true
  · rw [if_pos hc] at h; exact ⟨hc, h⟩
  · rw [if_neg hc] at h; cases h
theorem xj_rq_kv {o : xj_Rf} {ci : Nat} {F : Option xj_R} {K : xj_H → Option xj_R} {X : String → xj_H → Option xj_R} {r : xj_R} (h : xj_kv (xj_rq A o ci F) K X = some r) : xj_is A o ci = true ∧ xj_kv F K X = some r := by
  unfold xj_rq at h
  by_cases hc : xj_is A o ci = true
  · rw [if_pos hc] at h; exact ⟨hc, h⟩
  · rw [if_neg hc] at h; cases h
theorem xg_ki (B : xj_B l y0 cc nL ret hs d z) {y : MethodName} {cy : ByteArray} {nLy d' : Nat} {rety : Option FieldType} {hsy : List (Nat × Nat × Nat × Nat)} {av : List Value} {F : Option xj_R} {K : Int32 → xj_H → Option xj_R} {X : String → xj_H → Option xj_R} {ig : Instr} (hd : decode cc pc = .ok (ig, 3)) (hgo : xj_go l z pc A y av) (hwy : xj_cw y cy nLy rety hsy ∈ xj_ws) (hwi : Cond.initialized y.cls ∈ xj_ws) (hdd : d' + 1 ≤ d) (hnLy : nLy ≤ 21) (hst8 : (st.map fun v => v.category).sum ≤ 8)
    (hM : ∀ r', F = some r' → xj_M l y cy nLy rety hsy d' av A r') (h : xj_ki F K X = some (xf_r z)) (kk : ∀ v A', F = some (.inl (some (.int v)), A') → K v A' = some (xf_r z) → xj_W l z (pc + 3) ls (.int v :: st) A') (kx : ∀ x A', F = some (.inr x, A') → X x A' = some (xf_r z) → xj_X l z pc ls x A') : xj_W l z pc ls (av.reverse ++ st) A := by
  obtain ⟨need, hinv, hneed⟩ := hgo
  unfold xj_ki at h
  split at h
  · rename_i v A'
    exact xg_core B hd hinv hneed (hM _ rfl) hwy hwi hdd hnLy hst8 (fun w hw => by cases hw; exact kk v A' rfl h) (fun x hx => by cases hx)
  · rename_i x A'
    exact xg_core B hd hinv hneed (hM _ rfl) hwy hwi hdd hnLy hst8 (fun w hw => by cases hw) (fun w hx => by cases hx; exact kx x A' rfl h)
  · cases h
theorem xg_kv (B : xj_B l y0 cc nL ret hs d z) {y : MethodName} {cy : ByteArray} {nLy d' : Nat} {rety : Option FieldType} {hsy : List (Nat × Nat × Nat × Nat)} {av : List Value} {F : Option xj_R} {K : xj_H → Option xj_R} {X : String → xj_H → Option xj_R} {ig : Instr} (hd : decode cc pc = .ok (ig, 3)) (hgo : xj_go l z pc A y av) (hwy : xj_cw y cy nLy rety hsy ∈ xj_ws) (hwi : Cond.initialized y.cls ∈ xj_ws) (hdd : d' + 1 ≤ d) (hnLy : nLy ≤ 21) (hst8 : (st.map fun v => v.category).sum ≤ 8)
    (hM : ∀ r', F = some r' → xj_M l y cy nLy rety hsy d' av A r') (h : xj_kv F K X = some (xf_r z)) (kk : ∀ A', F = some (.inl none, A') → K A' = some (xf_r z) → xj_W l z (pc + 3) ls st A') (kx : ∀ x A', F = some (.inr x, A') → X x A' = some (xf_r z) → xj_X l z pc ls x A') : xj_W l z pc ls (av.reverse ++ st) A := by
  obtain ⟨need, hinv, hneed⟩ := hgo
  unfold xj_kv at h
  split at h
  · rename_i A'
    exact xg_core B hd hinv hneed (hM _ rfl) hwy hwi hdd hnLy hst8 (fun w hw => by cases hw; exact kk A' rfl h) (fun x hx => by cases hx)
  · rename_i x A'
    exact xg_core B hd hinv hneed (hM _ rfl) hwy hwi hdd hnLy hst8 (fun w hw => by cases hw) (fun w hx => by cases hx; exact kx x A' rfl h)
  · cases h
theorem xj_nc (B : xj_B l y0 cc nL ret hs d z) : ∀ U, (xf_s z).WarmedH U → ∀ c t, U.findClass "java/lang/IllegalArgumentException" = some c → U.findClass "java/lang/IllegalStateException" = some t → U.assignable c t = false := by
  intro U hW c t h1 h2
  obtain ⟨c', t', g1, g2, g3⟩ := B.S.2.2.2.2.2.2.2.2.2.2.2
  have ha := hW.alike
  rw [ha.findClass] at h1 h2
  cases h1.symm.trans g1
  cases h2.symm.trans g2
  rw [ha.assignable]; exact g3
theorem xj_vw_c {own : String} {index ci n nLy : Nat} {y : MethodName} {cy : ByteArray} {rety : Option FieldType} {hsy : List (Nat × Nat × Nat × Nat)} (h : xj_vw own index ci y cy nLy rety hsy n) : xj_cw y cy nLy rety hsy ∈ xj_ws := by
  obtain ⟨C, T, N, w0, w1, w2, w3, w4, w5, w6, w7⟩ := h
  exact w4
theorem xj_vw_i {own : String} {index ci n nLy : Nat} {y : MethodName} {cy : ByteArray} {rety : Option FieldType} {hsy : List (Nat × Nat × Nat × Nat)} (h : xj_vw own index ci y cy nLy rety hsy n) : Cond.initialized y.cls ∈ xj_ws := by
  obtain ⟨C, T, N, w0, w1, w2, w3, w4, w5, w6, w7⟩ := h
  exact w5
/-- virtual calls on String constants -/
def xj_zw (own : String) (index : Nat) (y : MethodName) (cy : ByteArray) (nLy : Nat) (rety : Option FieldType) (n : Nat) : Prop :=
  Cond.methodLink own index y ∈ xj_ws ∧ Cond.instanceMethod y ∈ xj_ws ∧ Cond.selects "java/lang/String" y y ∈ xj_ws ∧ Cond.code y cy nLy rety ∈ xj_ws ∧ Cond.initialized y.cls ∈ xj_ws ∧ (y.cls ≠ "java/lang/invoke/MethodHandle" ∧ y.cls ≠ "java/lang/invoke/VarHandle") ∧ (parseMethodDescriptor y.desc).map (fun q => q.parameters.length) = some n
def xj_zq (o : xj_Rf) (F : Option xj_R) : Option xj_R := (xj_si o 100).bind fun _ => F
theorem xj_zq_i {o : xj_Rf} {F : Option xj_R} {K : Int32 → xj_H → Option xj_R} {r : xj_R} (h : xj_bi (xj_zq o F) K = some r) : (∃ i, xj_si o 100 = some i) ∧ xj_bi F K = some r := by
  unfold xj_zq at h
  cases hc : xj_si o 100 with
  | none => rw [hc] at h; cases h
  | some i => rw [hc] at h; exact ⟨⟨i, rfl⟩, h⟩
theorem xj_go_z (B : xj_B l y0 cc nL ret hs d z) {y : MethodName} {cy : ByteArray} {nLy n index : Nat} {rety : Option FieldType} {o : xj_Rf} {as : List Value} (hd : decode cc pc = .ok (.invokevirtual index, 3)) (hw : xj_zw y0.cls index y cy nLy rety n) (hn : as.length = n) (hq : ∃ i, xj_si o 100 = some i) : xj_go l z pc A y (xj_rv o :: as) := by
  obtain ⟨w1, w2, w3, w4, w5, w6, w7⟩ := hw
  refine ⟨_, by rw [List.length_cons, hn]; exact xj_inv_virtual B hd (Or.inl w1) w2 w3 w6 w7 ⟨_, w4, cy, nLy, rety, [], rfl⟩, fun ad H locs cells slots hI => ?_⟩
  obtain ⟨i, hi0⟩ := hq
  obtain ⟨hi, rfl⟩ := xj_si_inv hi0
  obtain ⟨cl0, h1, h2, h3⟩ := vk_recv B.S.1 hi hI.2.2.2.2.2.1
  exact ⟨(xf_g z).2.2.1 (100 + i), as.map (xj_v (xf_g z) ad), cl0, rfl, h1, h2, h3⟩
end Xspecial
end
section
section Xmore
variable {l : Launch} {z : xj_F} {y0 : MethodName} {cc : ByteArray} {nL : Nat} {ret : Option FieldType} {hs : List (Nat × Nat × Nat × Nat)} {d pc : Nat} {ls : List (Nat × Value)} {st : List Value} {A : xj_H}
def xj_fu : Nat := 100000
def xj_rn (ty : FieldType) (v : Int32) (A : xj_H) : Option xj_R := if vp_nar ty v = v then some (.inl (some (.int v)), A) else none
theorem xg_cret (B : xj_B l y0 cc nL (some .char) hs d z) {x : Int32} (hd : decode cc pc = .ok (.ireturn, 1)) (h : xj_rn .char x A = some (xf_r z)) : xj_W l z pc ls [.int x] A := by
  intro ad H locs cells slots lz hI hls hst hlv
  unfold xj_rn at h
  by_cases hz : vp_nar .char x = x
  · rw [if_pos hz] at h
    have hr := (Option.some.inj h).symm
    have hn : narrow .char (.int x) = .int x := by
      have h9 : narrow .char (.int x) = .int (vp_nar .char x) := rfl
      rw [h9, hz]
    refine xw_mono (W.zret (ty := .char) (Qc := fun _ _ o t => o = .returned ((some (Value.int x)).map (xj_v (xf_g z) ad)) ∧ t.heap = H) (free := xj_al (xf_g z) (xf_d z) (xf_H z) (xf_s z)) B.1 B.2.1 B.2.2.2.1 hn (fun t ht _ => ⟨rfl, ht⟩) hI.2.2.2.2.2.1.2.2 hd B.2.2.2.2.1) (fun t ht => ?_)
    exact xj_ends hI hr (fun w hw => by cases hw; trivial) ht
  · rw [if_neg hz] at h
    cases h
theorem xg_bret (B : xj_B l y0 cc nL (some .byte) hs d z) {x : Int32} (hd : decode cc pc = .ok (.ireturn, 1)) (h : xj_rn .byte x A = some (xf_r z)) : xj_W l z pc ls [.int x] A := by
  intro ad H locs cells slots lz hI hls hst hlv
  unfold xj_rn at h
  by_cases hz : vp_nar .byte x = x
  · rw [if_pos hz] at h
    have hr := (Option.some.inj h).symm
    have hn : narrow .byte (.int x) = .int x := by
      have h9 : narrow .byte (.int x) = .int (vp_nar .byte x) := rfl
      rw [h9, hz]
    refine xw_mono (W.zret (ty := .byte) (Qc := fun _ _ o t => o = .returned ((some (Value.int x)).map (xj_v (xf_g z) ad)) ∧ t.heap = H) (free := xj_al (xf_g z) (xf_d z) (xf_H z) (xf_s z)) B.1 B.2.1 B.2.2.2.1 hn (fun t ht _ => ⟨rfl, ht⟩) hI.2.2.2.2.2.1.2.2 hd B.2.2.2.2.1) (fun t ht => ?_)
    exact xj_ends hI hr (fun w hw => by cases hw; trivial) ht
  · rw [if_neg hz] at h
    cases h
theorem xg_tsIn (B : xj_B l y0 cc nL ret hs d z) {dflt lo hi : Int} {offs : Array Int} {len : Nat} {x : Int32} {off : Int} {tgt : Nat} (hd : decode cc pc = .ok (.tableswitch dflt lo hi offs, len)) (h1 : ¬ x.toInt < lo) (h2 : ¬ hi < x.toInt) (ho : offs[(x.toInt - lo).toNat]? = some off) (ht : (pc : Int) + off = (tgt : Int)) (k : xj_W l z tgt ls st A) : xj_W l z pc ls (.int x :: st) A := by
  intro ad H locs cells slots lz hI hls hst hlv
  exact lv_tableIn B.1 B.2.1 hd h1 h2 ho ht (k ad H locs cells slots lz hI hls hst.2 hlv)
theorem xg_tsOut (B : xj_B l y0 cc nL ret hs d z) {dflt lo hi : Int} {offs : Array Int} {len : Nat} {x : Int32} {tgt : Nat} (hd : decode cc pc = .ok (.tableswitch dflt lo hi offs, len)) (h1 : x.toInt < lo ∨ hi < x.toInt) (ht : (pc : Int) + dflt = (tgt : Int)) (k : xj_W l z tgt ls st A) : xj_W l z pc ls (.int x :: st) A := by
  intro ad H locs cells slots lz hI hls hst hlv
  exact lv_tableOut B.1 B.2.1 hd h1 ht (k ad H locs cells slots lz hI hls hst.2 hlv)
theorem xj_ifn {x y : String} {P : Option xj_R} {r : xj_R} (h : (if x = y then P else none) = some r) : x = y ∧ P = some r := by
  by_cases hc : x = y
  · rw [if_pos hc] at h; exact ⟨hc, h⟩
  · rw [if_neg hc] at h; cases h
theorem xj_inc_1 (x : Int32) : x + Int32.ofInt 1 = x + 1 := rfl
theorem xj_inc_7 (x : Int32) : x + Int32.ofInt 7 = x + 7 := rfl
theorem xj_inc_m1 (x : Int32) : x + Int32.ofInt (-1) = x - 1 := by
  rw [show Int32.ofInt (-1) = -1 from by decide, Int32.sub_eq_add_neg]
end Xmore
end
