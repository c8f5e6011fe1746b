-- ===== PART A: goes FIRST, ahead of the names: the tables' words, and 'selects' of the private methods out of them =====
/-- a private method of a class that the tables say can be made, by its rows of tables_1 -/
def lw_okq (q : MethodName × Nat) : Prop := (q.1.cls ≠ "java/lang/invoke/MethodHandle" ∧ q.1.cls ≠ "java/lang/invoke/VarHandle") ∧ Cond.instantiable q.1.cls q.2 ∈ tables_1 ∧ Cond.privateMethod q.1 ∈ tables_1 ∧ Cond.instanceMethod q.1 ∈ tables_1
theorem lw_p0 : lw_okq (⟨"OperandStacks$Names", "meetAll", "(Ljava/lang/String;)V"⟩, 7) := ⟨⟨by decide +kernel, by decide +kernel⟩, List.mem_of_getElem? (i := 34) (by decide +kernel), List.mem_of_getElem? (i := 41) (by decide +kernel), List.mem_of_getElem? (i := 42) (by decide +kernel)⟩
theorem lw_p1 : lw_okq (⟨"java/lang/Throwable", "fillInStackTrace", "(I)Ljava/lang/Throwable;"⟩, 6) := ⟨⟨by decide +kernel, by decide +kernel⟩, List.mem_of_getElem? (i := 538) (by decide +kernel), List.mem_of_getElem? (i := 536) (by decide +kernel), List.mem_of_getElem? (i := 537) (by decide +kernel)⟩
theorem lw_p2 : lw_okq (⟨"OperandStacks$Machine", "doOperator", "(I)V"⟩, 16) := ⟨⟨by decide +kernel, by decide +kernel⟩, List.mem_of_getElem? (i := 288) (by decide +kernel), List.mem_of_getElem? (i := 584) (by decide +kernel), List.mem_of_getElem? (i := 585) (by decide +kernel)⟩
theorem lw_p3 : lw_okq (⟨"OperandStacks$Machine", "checkOperands", "(I)I"⟩, 16) := ⟨⟨by decide +kernel, by decide +kernel⟩, List.mem_of_getElem? (i := 288) (by decide +kernel), List.mem_of_getElem? (i := 588) (by decide +kernel), List.mem_of_getElem? (i := 589) (by decide +kernel)⟩
theorem lw_p4 : lw_okq (⟨"OperandStacks$Machine", "control", "(I)I"⟩, 16) := ⟨⟨by decide +kernel, by decide +kernel⟩, List.mem_of_getElem? (i := 288) (by decide +kernel), List.mem_of_getElem? (i := 610) (by decide +kernel), List.mem_of_getElem? (i := 611) (by decide +kernel)⟩
theorem lw_p5 : lw_okq (⟨"OperandStacks$Machine", "exec", "()I"⟩, 16) := ⟨⟨by decide +kernel, by decide +kernel⟩, List.mem_of_getElem? (i := 288) (by decide +kernel), List.mem_of_getElem? (i := 614) (by decide +kernel), List.mem_of_getElem? (i := 615) (by decide +kernel)⟩
theorem lw_p6 : lw_okq (⟨"OperandStacks$Machine", "handOn", "(JI)V"⟩, 16) := ⟨⟨by decide +kernel, by decide +kernel⟩, List.mem_of_getElem? (i := 288) (by decide +kernel), List.mem_of_getElem? (i := 622) (by decide +kernel), List.mem_of_getElem? (i := 623) (by decide +kernel)⟩
theorem lw_p7 : lw_okq (⟨"OperandStacks$Machine", "branch", "(IJ)I"⟩, 16) := ⟨⟨by decide +kernel, by decide +kernel⟩, List.mem_of_getElem? (i := 288) (by decide +kernel), List.mem_of_getElem? (i := 635) (by decide +kernel), List.mem_of_getElem? (i := 636) (by decide +kernel)⟩
theorem lw_p8 : lw_okq (⟨"OperandStacks$Machine", "loopFor", "()I"⟩, 16) := ⟨⟨by decide +kernel, by decide +kernel⟩, List.mem_of_getElem? (i := 288) (by decide +kernel), List.mem_of_getElem? (i := 644) (by decide +kernel), List.mem_of_getElem? (i := 645) (by decide +kernel)⟩
theorem lw_p9 : lw_okq (⟨"OperandStacks$Machine", "enterLoop", "(II)I"⟩, 16) := ⟨⟨by decide +kernel, by decide +kernel⟩, List.mem_of_getElem? (i := 288) (by decide +kernel), List.mem_of_getElem? (i := 648) (by decide +kernel), List.mem_of_getElem? (i := 649) (by decide +kernel)⟩
theorem lw_p10 : lw_okq (⟨"OperandStacks$Execution", "topFrame", "()I"⟩, 8) := ⟨⟨by decide +kernel, by decide +kernel⟩, List.mem_of_getElem? (i := 294) (by decide +kernel), List.mem_of_getElem? (i := 656) (by decide +kernel), List.mem_of_getElem? (i := 657) (by decide +kernel)⟩
theorem lw_p11 : lw_okq (⟨"OperandStacks$Machine", "repeat", "()I"⟩, 16) := ⟨⟨by decide +kernel, by decide +kernel⟩, List.mem_of_getElem? (i := 288) (by decide +kernel), List.mem_of_getElem? (i := 660) (by decide +kernel), List.mem_of_getElem? (i := 661) (by decide +kernel)⟩
theorem lw_p12 : lw_okq (⟨"OperandStacks$Machine", "forall", "()I"⟩, 16) := ⟨⟨by decide +kernel, by decide +kernel⟩, List.mem_of_getElem? (i := 288) (by decide +kernel), List.mem_of_getElem? (i := 668) (by decide +kernel), List.mem_of_getElem? (i := 669) (by decide +kernel)⟩
theorem lw_p13 : lw_okq (⟨"OperandStacks$Machine", "unwind", "(I)V"⟩, 16) := ⟨⟨by decide +kernel, by decide +kernel⟩, List.mem_of_getElem? (i := 288) (by decide +kernel), List.mem_of_getElem? (i := 697) (by decide +kernel), List.mem_of_getElem? (i := 698) (by decide +kernel)⟩
theorem lw_p14 : lw_okq (⟨"OperandStacks$Machine", "stopped", "()I"⟩, 16) := ⟨⟨by decide +kernel, by decide +kernel⟩, List.mem_of_getElem? (i := 288) (by decide +kernel), List.mem_of_getElem? (i := 710) (by decide +kernel), List.mem_of_getElem? (i := 711) (by decide +kernel)⟩
theorem lw_p15 : lw_okq (⟨"OperandStacks$Machine", "takesFromDictionary", "(I)Z"⟩, 16) := ⟨⟨by decide +kernel, by decide +kernel⟩, List.mem_of_getElem? (i := 288) (by decide +kernel), List.mem_of_getElem? (i := 714) (by decide +kernel), List.mem_of_getElem? (i := 715) (by decide +kernel)⟩
def lw_privs_1 : List (MethodName × Nat) := [(⟨"OperandStacks$Names", "meetAll", "(Ljava/lang/String;)V"⟩, 7), (⟨"java/lang/Throwable", "fillInStackTrace", "(I)Ljava/lang/Throwable;"⟩, 6), (⟨"OperandStacks$Machine", "doOperator", "(I)V"⟩, 16), (⟨"OperandStacks$Machine", "checkOperands", "(I)I"⟩, 16), (⟨"OperandStacks$Machine", "control", "(I)I"⟩, 16), (⟨"OperandStacks$Machine", "exec", "()I"⟩, 16), (⟨"OperandStacks$Machine", "handOn", "(JI)V"⟩, 16), (⟨"OperandStacks$Machine", "branch", "(IJ)I"⟩, 16), (⟨"OperandStacks$Machine", "loopFor", "()I"⟩, 16), (⟨"OperandStacks$Machine", "enterLoop", "(II)I"⟩, 16), (⟨"OperandStacks$Execution", "topFrame", "()I"⟩, 8), (⟨"OperandStacks$Machine", "repeat", "()I"⟩, 16), (⟨"OperandStacks$Machine", "forall", "()I"⟩, 16), (⟨"OperandStacks$Machine", "unwind", "(I)V"⟩, 16), (⟨"OperandStacks$Machine", "stopped", "()I"⟩, 16), (⟨"OperandStacks$Machine", "takesFromDictionary", "(I)Z"⟩, 16)]
theorem lw_r1 : ∀ q ∈ lw_privs_1, lw_okq q := List.forall_mem_cons.mpr ⟨lw_p0, List.forall_mem_cons.mpr ⟨lw_p1, List.forall_mem_cons.mpr ⟨lw_p2, List.forall_mem_cons.mpr ⟨lw_p3, List.forall_mem_cons.mpr ⟨lw_p4, List.forall_mem_cons.mpr ⟨lw_p5, List.forall_mem_cons.mpr ⟨lw_p6, List.forall_mem_cons.mpr ⟨lw_p7, List.forall_mem_cons.mpr ⟨lw_p8, List.forall_mem_cons.mpr ⟨lw_p9, List.forall_mem_cons.mpr ⟨lw_p10, List.forall_mem_cons.mpr ⟨lw_p11, List.forall_mem_cons.mpr ⟨lw_p12, List.forall_mem_cons.mpr ⟨lw_p13, List.forall_mem_cons.mpr ⟨lw_p14, List.forall_mem_cons.mpr ⟨lw_p15, fun _ h => absurd h List.not_mem_nil⟩⟩⟩⟩⟩⟩⟩⟩⟩⟩⟩⟩⟩⟩⟩⟩
theorem lw_p16 : lw_okq (⟨"OperandStacks$DictionaryOperators", "fetch", "()I"⟩, 5) := ⟨⟨by decide +kernel, by decide +kernel⟩, List.mem_of_getElem? (i := 369) (by decide +kernel), List.mem_of_getElem? (i := 732) (by decide +kernel), List.mem_of_getElem? (i := 733) (by decide +kernel)⟩
theorem lw_p17 : lw_okq (⟨"OperandStacks$DictionaryOperators", "takeKey", "(J)I"⟩, 5) := ⟨⟨by decide +kernel, by decide +kernel⟩, List.mem_of_getElem? (i := 369) (by decide +kernel), List.mem_of_getElem? (i := 737) (by decide +kernel), List.mem_of_getElem? (i := 738) (by decide +kernel)⟩
theorem lw_p18 : lw_okq (⟨"OperandStacks$DictionaryOperators", "put", "()I"⟩, 5) := ⟨⟨by decide +kernel, by decide +kernel⟩, List.mem_of_getElem? (i := 369) (by decide +kernel), List.mem_of_getElem? (i := 762) (by decide +kernel), List.mem_of_getElem? (i := 763) (by decide +kernel)⟩
theorem lw_p19 : lw_okq (⟨"OperandStacks$DictionaryOperators", "finish", "(II)I"⟩, 5) := ⟨⟨by decide +kernel, by decide +kernel⟩, List.mem_of_getElem? (i := 369) (by decide +kernel), List.mem_of_getElem? (i := 771) (by decide +kernel), List.mem_of_getElem? (i := 772) (by decide +kernel)⟩
theorem lw_p20 : lw_okq (⟨"OperandStacks$DictionaryOperators", "closePairs", "()I"⟩, 5) := ⟨⟨by decide +kernel, by decide +kernel⟩, List.mem_of_getElem? (i := 369) (by decide +kernel), List.mem_of_getElem? (i := 776) (by decide +kernel), List.mem_of_getElem? (i := 777) (by decide +kernel)⟩
theorem lw_p21 : lw_okq (⟨"OperandStacks$DictionaryOperators", "checkKeys", "(I)I"⟩, 5) := ⟨⟨by decide +kernel, by decide +kernel⟩, List.mem_of_getElem? (i := 369) (by decide +kernel), List.mem_of_getElem? (i := 785) (by decide +kernel), List.mem_of_getElem? (i := 786) (by decide +kernel)⟩
theorem lw_p22 : lw_okq (⟨"OperandStacks$DictionaryOperators", "make", "(I)I"⟩, 5) := ⟨⟨by decide +kernel, by decide +kernel⟩, List.mem_of_getElem? (i := 369) (by decide +kernel), List.mem_of_getElem? (i := 797) (by decide +kernel), List.mem_of_getElem? (i := 798) (by decide +kernel)⟩
theorem lw_p23 : lw_okq (⟨"OperandStacks$DictionaryOperators", "begin", "()I"⟩, 5) := ⟨⟨by decide +kernel, by decide +kernel⟩, List.mem_of_getElem? (i := 369) (by decide +kernel), List.mem_of_getElem? (i := 801) (by decide +kernel), List.mem_of_getElem? (i := 802) (by decide +kernel)⟩
theorem lw_p24 : lw_okq (⟨"OperandStacks$DictionaryOperators", "define", "()I"⟩, 5) := ⟨⟨by decide +kernel, by decide +kernel⟩, List.mem_of_getElem? (i := 369) (by decide +kernel), List.mem_of_getElem? (i := 810) (by decide +kernel), List.mem_of_getElem? (i := 811) (by decide +kernel)⟩
theorem lw_p25 : lw_okq (⟨"OperandStacks$DictionaryOperators", "load", "()I"⟩, 5) := ⟨⟨by decide +kernel, by decide +kernel⟩, List.mem_of_getElem? (i := 369) (by decide +kernel), List.mem_of_getElem? (i := 818) (by decide +kernel), List.mem_of_getElem? (i := 819) (by decide +kernel)⟩
theorem lw_p26 : lw_okq (⟨"OperandStacks$DictionaryOperators", "store", "()I"⟩, 5) := ⟨⟨by decide +kernel, by decide +kernel⟩, List.mem_of_getElem? (i := 369) (by decide +kernel), List.mem_of_getElem? (i := 828) (by decide +kernel), List.mem_of_getElem? (i := 829) (by decide +kernel)⟩
theorem lw_p27 : lw_okq (⟨"OperandStacks$DictionaryOperators", "known", "()I"⟩, 5) := ⟨⟨by decide +kernel, by decide +kernel⟩, List.mem_of_getElem? (i := 369) (by decide +kernel), List.mem_of_getElem? (i := 836) (by decide +kernel), List.mem_of_getElem? (i := 837) (by decide +kernel)⟩
theorem lw_p28 : lw_okq (⟨"OperandStacks$DictionaryOperators", "where", "()I"⟩, 5) := ⟨⟨by decide +kernel, by decide +kernel⟩, List.mem_of_getElem? (i := 369) (by decide +kernel), List.mem_of_getElem? (i := 845) (by decide +kernel), List.mem_of_getElem? (i := 846) (by decide +kernel)⟩
theorem lw_p29 : lw_okq (⟨"OperandStacks$DictionaryOperators", "undefine", "()I"⟩, 5) := ⟨⟨by decide +kernel, by decide +kernel⟩, List.mem_of_getElem? (i := 369) (by decide +kernel), List.mem_of_getElem? (i := 855) (by decide +kernel), List.mem_of_getElem? (i := 856) (by decide +kernel)⟩
theorem lw_p30 : lw_okq (⟨"OperandStacks$RowOperators", "makeArray", "(I)I"⟩, 7) := ⟨⟨by decide +kernel, by decide +kernel⟩, List.mem_of_getElem? (i := 341) (by decide +kernel), List.mem_of_getElem? (i := 872) (by decide +kernel), List.mem_of_getElem? (i := 873) (by decide +kernel)⟩
theorem lw_p31 : lw_okq (⟨"OperandStacks$RowOperators", "makeString", "(I)I"⟩, 7) := ⟨⟨by decide +kernel, by decide +kernel⟩, List.mem_of_getElem? (i := 341) (by decide +kernel), List.mem_of_getElem? (i := 889) (by decide +kernel), List.mem_of_getElem? (i := 890) (by decide +kernel)⟩
def lw_privs_2 : List (MethodName × Nat) := [(⟨"OperandStacks$DictionaryOperators", "fetch", "()I"⟩, 5), (⟨"OperandStacks$DictionaryOperators", "takeKey", "(J)I"⟩, 5), (⟨"OperandStacks$DictionaryOperators", "put", "()I"⟩, 5), (⟨"OperandStacks$DictionaryOperators", "finish", "(II)I"⟩, 5), (⟨"OperandStacks$DictionaryOperators", "closePairs", "()I"⟩, 5), (⟨"OperandStacks$DictionaryOperators", "checkKeys", "(I)I"⟩, 5), (⟨"OperandStacks$DictionaryOperators", "make", "(I)I"⟩, 5), (⟨"OperandStacks$DictionaryOperators", "begin", "()I"⟩, 5), (⟨"OperandStacks$DictionaryOperators", "define", "()I"⟩, 5), (⟨"OperandStacks$DictionaryOperators", "load", "()I"⟩, 5), (⟨"OperandStacks$DictionaryOperators", "store", "()I"⟩, 5), (⟨"OperandStacks$DictionaryOperators", "known", "()I"⟩, 5), (⟨"OperandStacks$DictionaryOperators", "where", "()I"⟩, 5), (⟨"OperandStacks$DictionaryOperators", "undefine", "()I"⟩, 5), (⟨"OperandStacks$RowOperators", "makeArray", "(I)I"⟩, 7), (⟨"OperandStacks$RowOperators", "makeString", "(I)I"⟩, 7)]
theorem lw_r2 : ∀ q ∈ lw_privs_2, lw_okq q := List.forall_mem_cons.mpr ⟨lw_p16, List.forall_mem_cons.mpr ⟨lw_p17, List.forall_mem_cons.mpr ⟨lw_p18, List.forall_mem_cons.mpr ⟨lw_p19, List.forall_mem_cons.mpr ⟨lw_p20, List.forall_mem_cons.mpr ⟨lw_p21, List.forall_mem_cons.mpr ⟨lw_p22, List.forall_mem_cons.mpr ⟨lw_p23, List.forall_mem_cons.mpr ⟨lw_p24, List.forall_mem_cons.mpr ⟨lw_p25, List.forall_mem_cons.mpr ⟨lw_p26, List.forall_mem_cons.mpr ⟨lw_p27, List.forall_mem_cons.mpr ⟨lw_p28, List.forall_mem_cons.mpr ⟨lw_p29, List.forall_mem_cons.mpr ⟨lw_p30, List.forall_mem_cons.mpr ⟨lw_p31, fun _ h => absurd h List.not_mem_nil⟩⟩⟩⟩⟩⟩⟩⟩⟩⟩⟩⟩⟩⟩⟩⟩
theorem lw_p32 : lw_okq (⟨"OperandStacks$RowOperators", "measure", "()I"⟩, 7) := ⟨⟨by decide +kernel, by decide +kernel⟩, List.mem_of_getElem? (i := 341) (by decide +kernel), List.mem_of_getElem? (i := 905) (by decide +kernel), List.mem_of_getElem? (i := 906) (by decide +kernel)⟩
theorem lw_p33 : lw_okq (⟨"OperandStacks$RowOperators", "fetch", "()I"⟩, 7) := ⟨⟨by decide +kernel, by decide +kernel⟩, List.mem_of_getElem? (i := 341) (by decide +kernel), List.mem_of_getElem? (i := 917) (by decide +kernel), List.mem_of_getElem? (i := 918) (by decide +kernel)⟩
theorem lw_p34 : lw_okq (⟨"OperandStacks$RowOperators", "put", "()I"⟩, 7) := ⟨⟨by decide +kernel, by decide +kernel⟩, List.mem_of_getElem? (i := 341) (by decide +kernel), List.mem_of_getElem? (i := 929) (by decide +kernel), List.mem_of_getElem? (i := 930) (by decide +kernel)⟩
theorem lw_p35 : lw_okq (⟨"OperandStacks$RowOperators", "takeInterval", "()I"⟩, 7) := ⟨⟨by decide +kernel, by decide +kernel⟩, List.mem_of_getElem? (i := 341) (by decide +kernel), List.mem_of_getElem? (i := 936) (by decide +kernel), List.mem_of_getElem? (i := 937) (by decide +kernel)⟩
theorem lw_p36 : lw_okq (⟨"OperandStacks$RowOperators", "putInterval", "()I"⟩, 7) := ⟨⟨by decide +kernel, by decide +kernel⟩, List.mem_of_getElem? (i := 341) (by decide +kernel), List.mem_of_getElem? (i := 944) (by decide +kernel), List.mem_of_getElem? (i := 945) (by decide +kernel)⟩
theorem lw_p37 : lw_okq (⟨"OperandStacks$RowOperators", "moveCells", "(III)V"⟩, 7) := ⟨⟨by decide +kernel, by decide +kernel⟩, List.mem_of_getElem? (i := 341) (by decide +kernel), List.mem_of_getElem? (i := 948) (by decide +kernel), List.mem_of_getElem? (i := 949) (by decide +kernel)⟩
theorem lw_p38 : lw_okq (⟨"OperandStacks$RowOperators", "moveOctets", "(III)V"⟩, 7) := ⟨⟨by decide +kernel, by decide +kernel⟩, List.mem_of_getElem? (i := 341) (by decide +kernel), List.mem_of_getElem? (i := 952) (by decide +kernel), List.mem_of_getElem? (i := 953) (by decide +kernel)⟩
theorem lw_p39 : lw_okq (⟨"OperandStacks$RowOperators", "load", "()I"⟩, 7) := ⟨⟨by decide +kernel, by decide +kernel⟩, List.mem_of_getElem? (i := 341) (by decide +kernel), List.mem_of_getElem? (i := 956) (by decide +kernel), List.mem_of_getElem? (i := 957) (by decide +kernel)⟩
theorem lw_p40 : lw_okq (⟨"OperandStacks$RowOperators", "store", "()I"⟩, 7) := ⟨⟨by decide +kernel, by decide +kernel⟩, List.mem_of_getElem? (i := 341) (by decide +kernel), List.mem_of_getElem? (i := 962) (by decide +kernel), List.mem_of_getElem? (i := 963) (by decide +kernel)⟩
theorem lw_p41 : lw_okq (⟨"OperandStacks$RowOperators", "closeArray", "()I"⟩, 7) := ⟨⟨by decide +kernel, by decide +kernel⟩, List.mem_of_getElem? (i := 341) (by decide +kernel), List.mem_of_getElem? (i := 966) (by decide +kernel), List.mem_of_getElem? (i := 967) (by decide +kernel)⟩
theorem lw_p42 : lw_okq (⟨"OperandStacks$RowOperators", "bind", "()I"⟩, 7) := ⟨⟨by decide +kernel, by decide +kernel⟩, List.mem_of_getElem? (i := 341) (by decide +kernel), List.mem_of_getElem? (i := 971) (by decide +kernel), List.mem_of_getElem? (i := 972) (by decide +kernel)⟩
theorem lw_p43 : lw_okq (⟨"OperandStacks$RowOperators", "noteArray", "(J)V"⟩, 7) := ⟨⟨by decide +kernel, by decide +kernel⟩, List.mem_of_getElem? (i := 341) (by decide +kernel), List.mem_of_getElem? (i := 975) (by decide +kernel), List.mem_of_getElem? (i := 976) (by decide +kernel)⟩
theorem lw_p44 : lw_okq (⟨"OperandStacks$RowOperators", "bindArray", "(J)V"⟩, 7) := ⟨⟨by decide +kernel, by decide +kernel⟩, List.mem_of_getElem? (i := 341) (by decide +kernel), List.mem_of_getElem? (i := 979) (by decide +kernel), List.mem_of_getElem? (i := 980) (by decide +kernel)⟩
theorem lw_p45 : lw_okq (⟨"OperandStacks$PlainOperators", "arrange", "(I)I"⟩, 3) := ⟨⟨by decide +kernel, by decide +kernel⟩, List.mem_of_getElem? (i := 325) (by decide +kernel), List.mem_of_getElem? (i := 994) (by decide +kernel), List.mem_of_getElem? (i := 995) (by decide +kernel)⟩
theorem lw_p46 : lw_okq (⟨"OperandStacks$PlainOperators", "copy", "(I)I"⟩, 3) := ⟨⟨by decide +kernel, by decide +kernel⟩, List.mem_of_getElem? (i := 325) (by decide +kernel), List.mem_of_getElem? (i := 1006) (by decide +kernel), List.mem_of_getElem? (i := 1007) (by decide +kernel)⟩
theorem lw_p47 : lw_okq (⟨"OperandStacks$PlainOperators", "index", "(I)I"⟩, 3) := ⟨⟨by decide +kernel, by decide +kernel⟩, List.mem_of_getElem? (i := 325) (by decide +kernel), List.mem_of_getElem? (i := 1015) (by decide +kernel), List.mem_of_getElem? (i := 1016) (by decide +kernel)⟩
def lw_privs_3 : List (MethodName × Nat) := [(⟨"OperandStacks$RowOperators", "measure", "()I"⟩, 7), (⟨"OperandStacks$RowOperators", "fetch", "()I"⟩, 7), (⟨"OperandStacks$RowOperators", "put", "()I"⟩, 7), (⟨"OperandStacks$RowOperators", "takeInterval", "()I"⟩, 7), (⟨"OperandStacks$RowOperators", "putInterval", "()I"⟩, 7), (⟨"OperandStacks$RowOperators", "moveCells", "(III)V"⟩, 7), (⟨"OperandStacks$RowOperators", "moveOctets", "(III)V"⟩, 7), (⟨"OperandStacks$RowOperators", "load", "()I"⟩, 7), (⟨"OperandStacks$RowOperators", "store", "()I"⟩, 7), (⟨"OperandStacks$RowOperators", "closeArray", "()I"⟩, 7), (⟨"OperandStacks$RowOperators", "bind", "()I"⟩, 7), (⟨"OperandStacks$RowOperators", "noteArray", "(J)V"⟩, 7), (⟨"OperandStacks$RowOperators", "bindArray", "(J)V"⟩, 7), (⟨"OperandStacks$PlainOperators", "arrange", "(I)I"⟩, 3), (⟨"OperandStacks$PlainOperators", "copy", "(I)I"⟩, 3), (⟨"OperandStacks$PlainOperators", "index", "(I)I"⟩, 3)]
theorem lw_r3 : ∀ q ∈ lw_privs_3, lw_okq q := List.forall_mem_cons.mpr ⟨lw_p32, List.forall_mem_cons.mpr ⟨lw_p33, List.forall_mem_cons.mpr ⟨lw_p34, List.forall_mem_cons.mpr ⟨lw_p35, List.forall_mem_cons.mpr ⟨lw_p36, List.forall_mem_cons.mpr ⟨lw_p37, List.forall_mem_cons.mpr ⟨lw_p38, List.forall_mem_cons.mpr ⟨lw_p39, List.forall_mem_cons.mpr ⟨lw_p40, List.forall_mem_cons.mpr ⟨lw_p41, List.forall_mem_cons.mpr ⟨lw_p42, List.forall_mem_cons.mpr ⟨lw_p43, List.forall_mem_cons.mpr ⟨lw_p44, List.forall_mem_cons.mpr ⟨lw_p45, List.forall_mem_cons.mpr ⟨lw_p46, List.forall_mem_cons.mpr ⟨lw_p47, fun _ h => absurd h List.not_mem_nil⟩⟩⟩⟩⟩⟩⟩⟩⟩⟩⟩⟩⟩⟩⟩⟩
theorem lw_p48 : lw_okq (⟨"OperandStacks$PlainOperators", "roll", "(II)I"⟩, 3) := ⟨⟨by decide +kernel, by decide +kernel⟩, List.mem_of_getElem? (i := 325) (by decide +kernel), List.mem_of_getElem? (i := 1019) (by decide +kernel), List.mem_of_getElem? (i := 1020) (by decide +kernel)⟩
theorem lw_p49 : lw_okq (⟨"OperandStacks$PlainOperators", "clearToMark", "()I"⟩, 3) := ⟨⟨by decide +kernel, by decide +kernel⟩, List.mem_of_getElem? (i := 325) (by decide +kernel), List.mem_of_getElem? (i := 1033) (by decide +kernel), List.mem_of_getElem? (i := 1034) (by decide +kernel)⟩
theorem lw_p50 : lw_okq (⟨"OperandStacks$PlainOperators", "countToMark", "()I"⟩, 3) := ⟨⟨by decide +kernel, by decide +kernel⟩, List.mem_of_getElem? (i := 325) (by decide +kernel), List.mem_of_getElem? (i := 1038) (by decide +kernel), List.mem_of_getElem? (i := 1039) (by decide +kernel)⟩
theorem lw_p51 : lw_okq (⟨"OperandStacks$PlainOperators", "calculate", "(III)I"⟩, 3) := ⟨⟨by decide +kernel, by decide +kernel⟩, List.mem_of_getElem? (i := 325) (by decide +kernel), List.mem_of_getElem? (i := 1042) (by decide +kernel), List.mem_of_getElem? (i := 1043) (by decide +kernel)⟩
theorem lw_p52 : lw_okq (⟨"OperandStacks$PlainOperators", "compare", "(I)I"⟩, 3) := ⟨⟨by decide +kernel, by decide +kernel⟩, List.mem_of_getElem? (i := 325) (by decide +kernel), List.mem_of_getElem? (i := 1046) (by decide +kernel), List.mem_of_getElem? (i := 1047) (by decide +kernel)⟩
theorem lw_p53 : lw_okq (⟨"OperandStacks$PlainOperators", "areEqual", "(JJ)Z"⟩, 3) := ⟨⟨by decide +kernel, by decide +kernel⟩, List.mem_of_getElem? (i := 325) (by decide +kernel), List.mem_of_getElem? (i := 1050) (by decide +kernel), List.mem_of_getElem? (i := 1051) (by decide +kernel)⟩
theorem lw_p54 : lw_okq (⟨"OperandStacks$PlainOperators", "compareBytes", "(JJ)I"⟩, 3) := ⟨⟨by decide +kernel, by decide +kernel⟩, List.mem_of_getElem? (i := 325) (by decide +kernel), List.mem_of_getElem? (i := 1055) (by decide +kernel), List.mem_of_getElem? (i := 1056) (by decide +kernel)⟩
theorem lw_p55 : lw_okq (⟨"OperandStacks$PlainOperators", "combine", "(I)I"⟩, 3) := ⟨⟨by decide +kernel, by decide +kernel⟩, List.mem_of_getElem? (i := 325) (by decide +kernel), List.mem_of_getElem? (i := 1071) (by decide +kernel), List.mem_of_getElem? (i := 1072) (by decide +kernel)⟩
theorem lw_p56 : lw_okq (⟨"OperandStacks$PlainOperators", "invert", "()I"⟩, 3) := ⟨⟨by decide +kernel, by decide +kernel⟩, List.mem_of_getElem? (i := 325) (by decide +kernel), List.mem_of_getElem? (i := 1075) (by decide +kernel), List.mem_of_getElem? (i := 1076) (by decide +kernel)⟩
theorem lw_p57 : lw_okq (⟨"OperandStacks$PlainOperators", "converted", "(J)J"⟩, 3) := ⟨⟨by decide +kernel, by decide +kernel⟩, List.mem_of_getElem? (i := 325) (by decide +kernel), List.mem_of_getElem? (i := 1081) (by decide +kernel), List.mem_of_getElem? (i := 1082) (by decide +kernel)⟩
theorem lw_p58 : lw_okq (⟨"OperandStacks$PlainOperators", "writeLine", "()I"⟩, 3) := ⟨⟨by decide +kernel, by decide +kernel⟩, List.mem_of_getElem? (i := 325) (by decide +kernel), List.mem_of_getElem? (i := 1090) (by decide +kernel), List.mem_of_getElem? (i := 1091) (by decide +kernel)⟩
theorem lw_p59 : lw_okq (⟨"OperandStacks$PlainOperators", "writeText", "(J)Z"⟩, 3) := ⟨⟨by decide +kernel, by decide +kernel⟩, List.mem_of_getElem? (i := 325) (by decide +kernel), List.mem_of_getElem? (i := 1094) (by decide +kernel), List.mem_of_getElem? (i := 1095) (by decide +kernel)⟩
theorem lw_p60 : lw_okq (⟨"OperandStacks$PlainOperators", "writeNumber", "(I)Z"⟩, 3) := ⟨⟨by decide +kernel, by decide +kernel⟩, List.mem_of_getElem? (i := 325) (by decide +kernel), List.mem_of_getElem? (i := 1098) (by decide +kernel), List.mem_of_getElem? (i := 1099) (by decide +kernel)⟩
theorem lw_p61 : lw_okq (⟨"OperandStacks$PlainOperators", "writeName", "(I)Z"⟩, 3) := ⟨⟨by decide +kernel, by decide +kernel⟩, List.mem_of_getElem? (i := 325) (by decide +kernel), List.mem_of_getElem? (i := 1108) (by decide +kernel), List.mem_of_getElem? (i := 1109) (by decide +kernel)⟩
theorem lw_p62 : lw_okq (⟨"OperandStacks$PlainOperators", "writeString", "(J)Z"⟩, 3) := ⟨⟨by decide +kernel, by decide +kernel⟩, List.mem_of_getElem? (i := 325) (by decide +kernel), List.mem_of_getElem? (i := 1112) (by decide +kernel), List.mem_of_getElem? (i := 1113) (by decide +kernel)⟩
theorem lw_p63 : lw_okq (⟨"OperandStacks$PlainOperators", "writeNoText", "()Z"⟩, 3) := ⟨⟨by decide +kernel, by decide +kernel⟩, List.mem_of_getElem? (i := 325) (by decide +kernel), List.mem_of_getElem? (i := 1116) (by decide +kernel), List.mem_of_getElem? (i := 1117) (by decide +kernel)⟩
def lw_privs_4 : List (MethodName × Nat) := [(⟨"OperandStacks$PlainOperators", "roll", "(II)I"⟩, 3), (⟨"OperandStacks$PlainOperators", "clearToMark", "()I"⟩, 3), (⟨"OperandStacks$PlainOperators", "countToMark", "()I"⟩, 3), (⟨"OperandStacks$PlainOperators", "calculate", "(III)I"⟩, 3), (⟨"OperandStacks$PlainOperators", "compare", "(I)I"⟩, 3), (⟨"OperandStacks$PlainOperators", "areEqual", "(JJ)Z"⟩, 3), (⟨"OperandStacks$PlainOperators", "compareBytes", "(JJ)I"⟩, 3), (⟨"OperandStacks$PlainOperators", "combine", "(I)I"⟩, 3), (⟨"OperandStacks$PlainOperators", "invert", "()I"⟩, 3), (⟨"OperandStacks$PlainOperators", "converted", "(J)J"⟩, 3), (⟨"OperandStacks$PlainOperators", "writeLine", "()I"⟩, 3), (⟨"OperandStacks$PlainOperators", "writeText", "(J)Z"⟩, 3), (⟨"OperandStacks$PlainOperators", "writeNumber", "(I)Z"⟩, 3), (⟨"OperandStacks$PlainOperators", "writeName", "(I)Z"⟩, 3), (⟨"OperandStacks$PlainOperators", "writeString", "(J)Z"⟩, 3), (⟨"OperandStacks$PlainOperators", "writeNoText", "()Z"⟩, 3)]
theorem lw_r4 : ∀ q ∈ lw_privs_4, lw_okq q := List.forall_mem_cons.mpr ⟨lw_p48, List.forall_mem_cons.mpr ⟨lw_p49, List.forall_mem_cons.mpr ⟨lw_p50, List.forall_mem_cons.mpr ⟨lw_p51, List.forall_mem_cons.mpr ⟨lw_p52, List.forall_mem_cons.mpr ⟨lw_p53, List.forall_mem_cons.mpr ⟨lw_p54, List.forall_mem_cons.mpr ⟨lw_p55, List.forall_mem_cons.mpr ⟨lw_p56, List.forall_mem_cons.mpr ⟨lw_p57, List.forall_mem_cons.mpr ⟨lw_p58, List.forall_mem_cons.mpr ⟨lw_p59, List.forall_mem_cons.mpr ⟨lw_p60, List.forall_mem_cons.mpr ⟨lw_p61, List.forall_mem_cons.mpr ⟨lw_p62, List.forall_mem_cons.mpr ⟨lw_p63, fun _ h => absurd h List.not_mem_nil⟩⟩⟩⟩⟩⟩⟩⟩⟩⟩⟩⟩⟩⟩⟩⟩
theorem lw_p64 : lw_okq (⟨"OperandStacks$PlainOperators", "print", "()I"⟩, 3) := ⟨⟨by decide +kernel, by decide +kernel⟩, List.mem_of_getElem? (i := 325) (by decide +kernel), List.mem_of_getElem? (i := 1123) (by decide +kernel), List.mem_of_getElem? (i := 1124) (by decide +kernel)⟩
theorem lw_p65 : lw_okq (⟨"OperandStacks$Machine", "fail", "(II)V"⟩, 16) := ⟨⟨by decide +kernel, by decide +kernel⟩, List.mem_of_getElem? (i := 288) (by decide +kernel), List.mem_of_getElem? (i := 1127) (by decide +kernel), List.mem_of_getElem? (i := 1128) (by decide +kernel)⟩
theorem lw_p66 : lw_okq (⟨"OperandStacks$Machine", "followName", "(I)V"⟩, 16) := ⟨⟨by decide +kernel, by decide +kernel⟩, List.mem_of_getElem? (i := 288) (by decide +kernel), List.mem_of_getElem? (i := 1132) (by decide +kernel), List.mem_of_getElem? (i := 1133) (by decide +kernel)⟩
theorem lw_p67 : lw_okq (⟨"OperandStacks$Machine", "countStep", "()Z"⟩, 16) := ⟨⟨by decide +kernel, by decide +kernel⟩, List.mem_of_getElem? (i := 288) (by decide +kernel), List.mem_of_getElem? (i := 1138) (by decide +kernel), List.mem_of_getElem? (i := 1139) (by decide +kernel)⟩
theorem lw_p68 : lw_okq (⟨"OperandStacks$Machine", "putOrEnter", "()V"⟩, 16) := ⟨⟨by decide +kernel, by decide +kernel⟩, List.mem_of_getElem? (i := 288) (by decide +kernel), List.mem_of_getElem? (i := 1142) (by decide +kernel), List.mem_of_getElem? (i := 1143) (by decide +kernel)⟩
theorem lw_p69 : lw_okq (⟨"OperandStacks$Machine", "takeToken", "()V"⟩, 16) := ⟨⟨by decide +kernel, by decide +kernel⟩, List.mem_of_getElem? (i := 288) (by decide +kernel), List.mem_of_getElem? (i := 1150) (by decide +kernel), List.mem_of_getElem? (i := 1151) (by decide +kernel)⟩
theorem lw_p70 : lw_okq (⟨"OperandStacks$Reader", "byteAt", "(I)I"⟩, 12) := ⟨⟨by decide +kernel, by decide +kernel⟩, List.mem_of_getElem? (i := 245) (by decide +kernel), List.mem_of_getElem? (i := 1158) (by decide +kernel), List.mem_of_getElem? (i := 1159) (by decide +kernel)⟩
theorem lw_p71 : lw_okq (⟨"OperandStacks$Reader", "openProcedure", "()I"⟩, 12) := ⟨⟨by decide +kernel, by decide +kernel⟩, List.mem_of_getElem? (i := 245) (by decide +kernel), List.mem_of_getElem? (i := 1167) (by decide +kernel), List.mem_of_getElem? (i := 1168) (by decide +kernel)⟩
theorem lw_p72 : lw_okq (⟨"OperandStacks$Reader", "closeProcedure", "()I"⟩, 12) := ⟨⟨by decide +kernel, by decide +kernel⟩, List.mem_of_getElem? (i := 245) (by decide +kernel), List.mem_of_getElem? (i := 1171) (by decide +kernel), List.mem_of_getElem? (i := 1172) (by decide +kernel)⟩
theorem lw_p73 : lw_okq (⟨"OperandStacks$Reader", "keep", "(J)I"⟩, 12) := ⟨⟨by decide +kernel, by decide +kernel⟩, List.mem_of_getElem? (i := 245) (by decide +kernel), List.mem_of_getElem? (i := 1179) (by decide +kernel), List.mem_of_getElem? (i := 1180) (by decide +kernel)⟩
theorem lw_p74 : lw_okq (⟨"OperandStacks$Reader", "readString", "()I"⟩, 12) := ⟨⟨by decide +kernel, by decide +kernel⟩, List.mem_of_getElem? (i := 245) (by decide +kernel), List.mem_of_getElem? (i := 1183) (by decide +kernel), List.mem_of_getElem? (i := 1184) (by decide +kernel)⟩
theorem lw_p75 : lw_okq (⟨"OperandStacks$Reader", "keepString", "(I)I"⟩, 12) := ⟨⟨by decide +kernel, by decide +kernel⟩, List.mem_of_getElem? (i := 245) (by decide +kernel), List.mem_of_getElem? (i := 1187) (by decide +kernel), List.mem_of_getElem? (i := 1188) (by decide +kernel)⟩
theorem lw_p76 : lw_okq (⟨"OperandStacks$Reader", "readName", "(IZ)I"⟩, 12) := ⟨⟨by decide +kernel, by decide +kernel⟩, List.mem_of_getElem? (i := 245) (by decide +kernel), List.mem_of_getElem? (i := 1194) (by decide +kernel), List.mem_of_getElem? (i := 1195) (by decide +kernel)⟩
theorem lw_p77 : lw_okq (⟨"OperandStacks$Reader", "readPair", "(II)I"⟩, 12) := ⟨⟨by decide +kernel, by decide +kernel⟩, List.mem_of_getElem? (i := 245) (by decide +kernel), List.mem_of_getElem? (i := 1209) (by decide +kernel), List.mem_of_getElem? (i := 1210) (by decide +kernel)⟩
theorem lw_p78 : lw_okq (⟨"OperandStacks$Reader", "readRegular", "(I)I"⟩, 12) := ⟨⟨by decide +kernel, by decide +kernel⟩, List.mem_of_getElem? (i := 245) (by decide +kernel), List.mem_of_getElem? (i := 1213) (by decide +kernel), List.mem_of_getElem? (i := 1214) (by decide +kernel)⟩
theorem lw_p79 : lw_okq (⟨"OperandStacks$Reader", "isDecimal", "(II)Z"⟩, 12) := ⟨⟨by decide +kernel, by decide +kernel⟩, List.mem_of_getElem? (i := 245) (by decide +kernel), List.mem_of_getElem? (i := 1217) (by decide +kernel), List.mem_of_getElem? (i := 1218) (by decide +kernel)⟩
def lw_privs_5 : List (MethodName × Nat) := [(⟨"OperandStacks$PlainOperators", "print", "()I"⟩, 3), (⟨"OperandStacks$Machine", "fail", "(II)V"⟩, 16), (⟨"OperandStacks$Machine", "followName", "(I)V"⟩, 16), (⟨"OperandStacks$Machine", "countStep", "()Z"⟩, 16), (⟨"OperandStacks$Machine", "putOrEnter", "()V"⟩, 16), (⟨"OperandStacks$Machine", "takeToken", "()V"⟩, 16), (⟨"OperandStacks$Reader", "byteAt", "(I)I"⟩, 12), (⟨"OperandStacks$Reader", "openProcedure", "()I"⟩, 12), (⟨"OperandStacks$Reader", "closeProcedure", "()I"⟩, 12), (⟨"OperandStacks$Reader", "keep", "(J)I"⟩, 12), (⟨"OperandStacks$Reader", "readString", "()I"⟩, 12), (⟨"OperandStacks$Reader", "keepString", "(I)I"⟩, 12), (⟨"OperandStacks$Reader", "readName", "(IZ)I"⟩, 12), (⟨"OperandStacks$Reader", "readPair", "(II)I"⟩, 12), (⟨"OperandStacks$Reader", "readRegular", "(I)I"⟩, 12), (⟨"OperandStacks$Reader", "isDecimal", "(II)Z"⟩, 12)]
theorem lw_r5 : ∀ q ∈ lw_privs_5, lw_okq q := List.forall_mem_cons.mpr ⟨lw_p64, List.forall_mem_cons.mpr ⟨lw_p65, List.forall_mem_cons.mpr ⟨lw_p66, List.forall_mem_cons.mpr ⟨lw_p67, List.forall_mem_cons.mpr ⟨lw_p68, List.forall_mem_cons.mpr ⟨lw_p69, List.forall_mem_cons.mpr ⟨lw_p70, List.forall_mem_cons.mpr ⟨lw_p71, List.forall_mem_cons.mpr ⟨lw_p72, List.forall_mem_cons.mpr ⟨lw_p73, List.forall_mem_cons.mpr ⟨lw_p74, List.forall_mem_cons.mpr ⟨lw_p75, List.forall_mem_cons.mpr ⟨lw_p76, List.forall_mem_cons.mpr ⟨lw_p77, List.forall_mem_cons.mpr ⟨lw_p78, List.forall_mem_cons.mpr ⟨lw_p79, fun _ h => absurd h List.not_mem_nil⟩⟩⟩⟩⟩⟩⟩⟩⟩⟩⟩⟩⟩⟩⟩⟩
theorem lw_p80 : lw_okq (⟨"OperandStacks$Reader", "readDigits", "(III)Z"⟩, 12) := ⟨⟨by decide +kernel, by decide +kernel⟩, List.mem_of_getElem? (i := 245) (by decide +kernel), List.mem_of_getElem? (i := 1221) (by decide +kernel), List.mem_of_getElem? (i := 1222) (by decide +kernel)⟩
theorem lw_p81 : lw_okq (⟨"OperandStacks$Reader", "isToBase", "(II)Z"⟩, 12) := ⟨⟨by decide +kernel, by decide +kernel⟩, List.mem_of_getElem? (i := 245) (by decide +kernel), List.mem_of_getElem? (i := 1228) (by decide +kernel), List.mem_of_getElem? (i := 1229) (by decide +kernel)⟩
theorem lw_p82 : lw_okq (⟨"OperandStacks$Machine", "meet", "(J)V"⟩, 16) := ⟨⟨by decide +kernel, by decide +kernel⟩, List.mem_of_getElem? (i := 288) (by decide +kernel), List.mem_of_getElem? (i := 1237) (by decide +kernel), List.mem_of_getElem? (i := 1238) (by decide +kernel)⟩
theorem lw_p83 : lw_okq (⟨"OperandStacks$Machine", "takeValue", "()V"⟩, 16) := ⟨⟨by decide +kernel, by decide +kernel⟩, List.mem_of_getElem? (i := 288) (by decide +kernel), List.mem_of_getElem? (i := 1241) (by decide +kernel), List.mem_of_getElem? (i := 1242) (by decide +kernel)⟩
theorem lw_p84 : lw_okq (⟨"OperandStacks$Machine", "endStopped", "()V"⟩, 16) := ⟨⟨by decide +kernel, by decide +kernel⟩, List.mem_of_getElem? (i := 288) (by decide +kernel), List.mem_of_getElem? (i := 1258) (by decide +kernel), List.mem_of_getElem? (i := 1259) (by decide +kernel)⟩
theorem lw_p85 : lw_okq (⟨"OperandStacks$Machine", "beginForRound", "()V"⟩, 16) := ⟨⟨by decide +kernel, by decide +kernel⟩, List.mem_of_getElem? (i := 288) (by decide +kernel), List.mem_of_getElem? (i := 1263) (by decide +kernel), List.mem_of_getElem? (i := 1264) (by decide +kernel)⟩
theorem lw_p86 : lw_okq (⟨"OperandStacks$Machine", "putForRound", "(IJ)V"⟩, 16) := ⟨⟨by decide +kernel, by decide +kernel⟩, List.mem_of_getElem? (i := 288) (by decide +kernel), List.mem_of_getElem? (i := 1276) (by decide +kernel), List.mem_of_getElem? (i := 1277) (by decide +kernel)⟩
theorem lw_p87 : lw_okq (⟨"OperandStacks$Machine", "beginRepeatRound", "()V"⟩, 16) := ⟨⟨by decide +kernel, by decide +kernel⟩, List.mem_of_getElem? (i := 288) (by decide +kernel), List.mem_of_getElem? (i := 1280) (by decide +kernel), List.mem_of_getElem? (i := 1281) (by decide +kernel)⟩
theorem lw_p88 : lw_okq (⟨"OperandStacks$Machine", "beginLoopRound", "()V"⟩, 16) := ⟨⟨by decide +kernel, by decide +kernel⟩, List.mem_of_getElem? (i := 288) (by decide +kernel), List.mem_of_getElem? (i := 1284) (by decide +kernel), List.mem_of_getElem? (i := 1285) (by decide +kernel)⟩
theorem lw_p89 : lw_okq (⟨"OperandStacks$Machine", "beginForallRound", "()V"⟩, 16) := ⟨⟨by decide +kernel, by decide +kernel⟩, List.mem_of_getElem? (i := 288) (by decide +kernel), List.mem_of_getElem? (i := 1288) (by decide +kernel), List.mem_of_getElem? (i := 1289) (by decide +kernel)⟩
theorem lw_p90 : lw_okq (⟨"OperandStacks$Machine", "beginPairRound", "(I)V"⟩, 16) := ⟨⟨by decide +kernel, by decide +kernel⟩, List.mem_of_getElem? (i := 288) (by decide +kernel), List.mem_of_getElem? (i := 1296) (by decide +kernel), List.mem_of_getElem? (i := 1297) (by decide +kernel)⟩
theorem lw_p91 : lw_okq (⟨"OperandStacksModel", "clearAll", "()V"⟩, 43) := ⟨⟨by decide +kernel, by decide +kernel⟩, List.mem_of_getElem? (i := 1413) (by decide +kernel), List.mem_of_getElem? (i := 1419) (by decide +kernel), List.mem_of_getElem? (i := 1420) (by decide +kernel)⟩
theorem lw_p92 : lw_okq (⟨"OperandStacksModel", "addFirst", "()V"⟩, 43) := ⟨⟨by decide +kernel, by decide +kernel⟩, List.mem_of_getElem? (i := 1413) (by decide +kernel), List.mem_of_getElem? (i := 1423) (by decide +kernel), List.mem_of_getElem? (i := 1424) (by decide +kernel)⟩
theorem lw_p93 : lw_okq (⟨"OperandStacksModel", "addName", "(JJI)V"⟩, 43) := ⟨⟨by decide +kernel, by decide +kernel⟩, List.mem_of_getElem? (i := 1413) (by decide +kernel), List.mem_of_getElem? (i := 1428) (by decide +kernel), List.mem_of_getElem? (i := 1429) (by decide +kernel)⟩
theorem lw_p94 : lw_okq (⟨"OperandStacksModel", "addSecond", "()V"⟩, 43) := ⟨⟨by decide +kernel, by decide +kernel⟩, List.mem_of_getElem? (i := 1413) (by decide +kernel), List.mem_of_getElem? (i := 1461) (by decide +kernel), List.mem_of_getElem? (i := 1462) (by decide +kernel)⟩
theorem lw_p95 : lw_okq (⟨"OperandStacksModel", "addThird", "()V"⟩, 43) := ⟨⟨by decide +kernel, by decide +kernel⟩, List.mem_of_getElem? (i := 1413) (by decide +kernel), List.mem_of_getElem? (i := 1497) (by decide +kernel), List.mem_of_getElem? (i := 1498) (by decide +kernel)⟩
def lw_privs_6 : List (MethodName × Nat) := [(⟨"OperandStacks$Reader", "readDigits", "(III)Z"⟩, 12), (⟨"OperandStacks$Reader", "isToBase", "(II)Z"⟩, 12), (⟨"OperandStacks$Machine", "meet", "(J)V"⟩, 16), (⟨"OperandStacks$Machine", "takeValue", "()V"⟩, 16), (⟨"OperandStacks$Machine", "endStopped", "()V"⟩, 16), (⟨"OperandStacks$Machine", "beginForRound", "()V"⟩, 16), (⟨"OperandStacks$Machine", "putForRound", "(IJ)V"⟩, 16), (⟨"OperandStacks$Machine", "beginRepeatRound", "()V"⟩, 16), (⟨"OperandStacks$Machine", "beginLoopRound", "()V"⟩, 16), (⟨"OperandStacks$Machine", "beginForallRound", "()V"⟩, 16), (⟨"OperandStacks$Machine", "beginPairRound", "(I)V"⟩, 16), (⟨"OperandStacksModel", "clearAll", "()V"⟩, 43), (⟨"OperandStacksModel", "addFirst", "()V"⟩, 43), (⟨"OperandStacksModel", "addName", "(JJI)V"⟩, 43), (⟨"OperandStacksModel", "addSecond", "()V"⟩, 43), (⟨"OperandStacksModel", "addThird", "()V"⟩, 43)]
theorem lw_r6 : ∀ q ∈ lw_privs_6, lw_okq q := List.forall_mem_cons.mpr ⟨lw_p80, List.forall_mem_cons.mpr ⟨lw_p81, List.forall_mem_cons.mpr ⟨lw_p82, List.forall_mem_cons.mpr ⟨lw_p83, List.forall_mem_cons.mpr ⟨lw_p84, List.forall_mem_cons.mpr ⟨lw_p85, List.forall_mem_cons.mpr ⟨lw_p86, List.forall_mem_cons.mpr ⟨lw_p87, List.forall_mem_cons.mpr ⟨lw_p88, List.forall_mem_cons.mpr ⟨lw_p89, List.forall_mem_cons.mpr ⟨lw_p90, List.forall_mem_cons.mpr ⟨lw_p91, List.forall_mem_cons.mpr ⟨lw_p92, List.forall_mem_cons.mpr ⟨lw_p93, List.forall_mem_cons.mpr ⟨lw_p94, List.forall_mem_cons.mpr ⟨lw_p95, fun _ h => absurd h List.not_mem_nil⟩⟩⟩⟩⟩⟩⟩⟩⟩⟩⟩⟩⟩⟩⟩⟩
theorem lw_p96 : lw_okq (⟨"OperandStacksModel", "nextToken", "()V"⟩, 43) := ⟨⟨by decide +kernel, by decide +kernel⟩, List.mem_of_getElem? (i := 1413) (by decide +kernel), List.mem_of_getElem? (i := 1680) (by decide +kernel), List.mem_of_getElem? (i := 1681) (by decide +kernel)⟩
theorem lw_p97 : lw_okq (⟨"OperandStacksModel", "passBlanks", "()V"⟩, 43) := ⟨⟨by decide +kernel, by decide +kernel⟩, List.mem_of_getElem? (i := 1413) (by decide +kernel), List.mem_of_getElem? (i := 1684) (by decide +kernel), List.mem_of_getElem? (i := 1685) (by decide +kernel)⟩
theorem lw_p98 : lw_okq (⟨"OperandStacksModel", "readToken", "()V"⟩, 43) := ⟨⟨by decide +kernel, by decide +kernel⟩, List.mem_of_getElem? (i := 1413) (by decide +kernel), List.mem_of_getElem? (i := 1688) (by decide +kernel), List.mem_of_getElem? (i := 1689) (by decide +kernel)⟩
theorem lw_p99 : lw_okq (⟨"OperandStacksModel", "readPart", "()V"⟩, 43) := ⟨⟨by decide +kernel, by decide +kernel⟩, List.mem_of_getElem? (i := 1413) (by decide +kernel), List.mem_of_getElem? (i := 1692) (by decide +kernel), List.mem_of_getElem? (i := 1693) (by decide +kernel)⟩
theorem lw_p100 : lw_okq (⟨"OperandStacksModel", "closeProcedure", "()V"⟩, 43) := ⟨⟨by decide +kernel, by decide +kernel⟩, List.mem_of_getElem? (i := 1413) (by decide +kernel), List.mem_of_getElem? (i := 1696) (by decide +kernel), List.mem_of_getElem? (i := 1697) (by decide +kernel)⟩
theorem lw_p101 : lw_okq (⟨"OperandStacksModel", "keep", "(IIIII)V"⟩, 43) := ⟨⟨by decide +kernel, by decide +kernel⟩, List.mem_of_getElem? (i := 1413) (by decide +kernel), List.mem_of_getElem? (i := 1703) (by decide +kernel), List.mem_of_getElem? (i := 1704) (by decide +kernel)⟩
theorem lw_p102 : lw_okq (⟨"OperandStacksModel", "readString", "()V"⟩, 43) := ⟨⟨by decide +kernel, by decide +kernel⟩, List.mem_of_getElem? (i := 1413) (by decide +kernel), List.mem_of_getElem? (i := 1707) (by decide +kernel), List.mem_of_getElem? (i := 1708) (by decide +kernel)⟩
theorem lw_p103 : lw_okq (⟨"OperandStacksModel", "keepName", "(III)V"⟩, 43) := ⟨⟨by decide +kernel, by decide +kernel⟩, List.mem_of_getElem? (i := 1413) (by decide +kernel), List.mem_of_getElem? (i := 1711) (by decide +kernel), List.mem_of_getElem? (i := 1712) (by decide +kernel)⟩
theorem lw_p104 : lw_okq (⟨"OperandStacksModel", "nameOf", "([III)I"⟩, 43) := ⟨⟨by decide +kernel, by decide +kernel⟩, List.mem_of_getElem? (i := 1413) (by decide +kernel), List.mem_of_getElem? (i := 1715) (by decide +kernel), List.mem_of_getElem? (i := 1716) (by decide +kernel)⟩
theorem lw_p105 : lw_okq (⟨"OperandStacksModel", "findName", "([III)I"⟩, 43) := ⟨⟨by decide +kernel, by decide +kernel⟩, List.mem_of_getElem? (i := 1413) (by decide +kernel), List.mem_of_getElem? (i := 1719) (by decide +kernel), List.mem_of_getElem? (i := 1720) (by decide +kernel)⟩
theorem lw_p106 : lw_okq (⟨"OperandStacksModel", "isAt", "(I)Z"⟩, 43) := ⟨⟨by decide +kernel, by decide +kernel⟩, List.mem_of_getElem? (i := 1413) (by decide +kernel), List.mem_of_getElem? (i := 1723) (by decide +kernel), List.mem_of_getElem? (i := 1724) (by decide +kernel)⟩
theorem lw_p107 : lw_okq (⟨"OperandStacksModel", "passRegular", "()I"⟩, 43) := ⟨⟨by decide +kernel, by decide +kernel⟩, List.mem_of_getElem? (i := 1413) (by decide +kernel), List.mem_of_getElem? (i := 1727) (by decide +kernel), List.mem_of_getElem? (i := 1728) (by decide +kernel)⟩
theorem lw_p108 : lw_okq (⟨"OperandStacksModel", "readWord", "()V"⟩, 43) := ⟨⟨by decide +kernel, by decide +kernel⟩, List.mem_of_getElem? (i := 1413) (by decide +kernel), List.mem_of_getElem? (i := 1734) (by decide +kernel), List.mem_of_getElem? (i := 1735) (by decide +kernel)⟩
theorem lw_p109 : lw_okq (⟨"OperandStacksModel", "areDigits", "(III)Z"⟩, 43) := ⟨⟨by decide +kernel, by decide +kernel⟩, List.mem_of_getElem? (i := 1413) (by decide +kernel), List.mem_of_getElem? (i := 1738) (by decide +kernel), List.mem_of_getElem? (i := 1739) (by decide +kernel)⟩
theorem lw_p110 : lw_okq (⟨"OperandStacksModel", "numberOf", "(III)I"⟩, 43) := ⟨⟨by decide +kernel, by decide +kernel⟩, List.mem_of_getElem? (i := 1413) (by decide +kernel), List.mem_of_getElem? (i := 1745) (by decide +kernel), List.mem_of_getElem? (i := 1746) (by decide +kernel)⟩
theorem lw_p111 : lw_okq (⟨"OperandStacksModel", "fail", "(II)V"⟩, 43) := ⟨⟨by decide +kernel, by decide +kernel⟩, List.mem_of_getElem? (i := 1413) (by decide +kernel), List.mem_of_getElem? (i := 1749) (by decide +kernel), List.mem_of_getElem? (i := 1750) (by decide +kernel)⟩
def lw_privs_7 : List (MethodName × Nat) := [(⟨"OperandStacksModel", "nextToken", "()V"⟩, 43), (⟨"OperandStacksModel", "passBlanks", "()V"⟩, 43), (⟨"OperandStacksModel", "readToken", "()V"⟩, 43), (⟨"OperandStacksModel", "readPart", "()V"⟩, 43), (⟨"OperandStacksModel", "closeProcedure", "()V"⟩, 43), (⟨"OperandStacksModel", "keep", "(IIIII)V"⟩, 43), (⟨"OperandStacksModel", "readString", "()V"⟩, 43), (⟨"OperandStacksModel", "keepName", "(III)V"⟩, 43), (⟨"OperandStacksModel", "nameOf", "([III)I"⟩, 43), (⟨"OperandStacksModel", "findName", "([III)I"⟩, 43), (⟨"OperandStacksModel", "isAt", "(I)Z"⟩, 43), (⟨"OperandStacksModel", "passRegular", "()I"⟩, 43), (⟨"OperandStacksModel", "readWord", "()V"⟩, 43), (⟨"OperandStacksModel", "areDigits", "(III)Z"⟩, 43), (⟨"OperandStacksModel", "numberOf", "(III)I"⟩, 43), (⟨"OperandStacksModel", "fail", "(II)V"⟩, 43)]
theorem lw_r7 : ∀ q ∈ lw_privs_7, lw_okq q := List.forall_mem_cons.mpr ⟨lw_p96, List.forall_mem_cons.mpr ⟨lw_p97, List.forall_mem_cons.mpr ⟨lw_p98, List.forall_mem_cons.mpr ⟨lw_p99, List.forall_mem_cons.mpr ⟨lw_p100, List.forall_mem_cons.mpr ⟨lw_p101, List.forall_mem_cons.mpr ⟨lw_p102, List.forall_mem_cons.mpr ⟨lw_p103, List.forall_mem_cons.mpr ⟨lw_p104, List.forall_mem_cons.mpr ⟨lw_p105, List.forall_mem_cons.mpr ⟨lw_p106, List.forall_mem_cons.mpr ⟨lw_p107, List.forall_mem_cons.mpr ⟨lw_p108, List.forall_mem_cons.mpr ⟨lw_p109, List.forall_mem_cons.mpr ⟨lw_p110, List.forall_mem_cons.mpr ⟨lw_p111, fun _ h => absurd h List.not_mem_nil⟩⟩⟩⟩⟩⟩⟩⟩⟩⟩⟩⟩⟩⟩⟩⟩
theorem lw_p112 : lw_okq (⟨"OperandStacksModel", "unwind", "(I)V"⟩, 43) := ⟨⟨by decide +kernel, by decide +kernel⟩, List.mem_of_getElem? (i := 1413) (by decide +kernel), List.mem_of_getElem? (i := 1753) (by decide +kernel), List.mem_of_getElem? (i := 1754) (by decide +kernel)⟩
theorem lw_p113 : lw_okq (⟨"OperandStacksModel", "isFull", "(I)Z"⟩, 43) := ⟨⟨by decide +kernel, by decide +kernel⟩, List.mem_of_getElem? (i := 1413) (by decide +kernel), List.mem_of_getElem? (i := 1757) (by decide +kernel), List.mem_of_getElem? (i := 1758) (by decide +kernel)⟩
theorem lw_p114 : lw_okq (⟨"OperandStacksModel", "pushBool", "(Z)V"⟩, 43) := ⟨⟨by decide +kernel, by decide +kernel⟩, List.mem_of_getElem? (i := 1413) (by decide +kernel), List.mem_of_getElem? (i := 1761) (by decide +kernel), List.mem_of_getElem? (i := 1762) (by decide +kernel)⟩
theorem lw_p115 : lw_okq (⟨"OperandStacksModel", "push", "(IIIII)V"⟩, 43) := ⟨⟨by decide +kernel, by decide +kernel⟩, List.mem_of_getElem? (i := 1413) (by decide +kernel), List.mem_of_getElem? (i := 1765) (by decide +kernel), List.mem_of_getElem? (i := 1766) (by decide +kernel)⟩
theorem lw_p116 : lw_okq (⟨"OperandStacksModel", "handle", "()V"⟩, 43) := ⟨⟨by decide +kernel, by decide +kernel⟩, List.mem_of_getElem? (i := 1413) (by decide +kernel), List.mem_of_getElem? (i := 1769) (by decide +kernel), List.mem_of_getElem? (i := 1770) (by decide +kernel)⟩
theorem lw_p117 : lw_okq (⟨"OperandStacksModel", "operate", "(I)I"⟩, 43) := ⟨⟨by decide +kernel, by decide +kernel⟩, List.mem_of_getElem? (i := 1413) (by decide +kernel), List.mem_of_getElem? (i := 1773) (by decide +kernel), List.mem_of_getElem? (i := 1774) (by decide +kernel)⟩
theorem lw_p118 : lw_okq (⟨"OperandStacksModel", "onStack", "(I)I"⟩, 43) := ⟨⟨by decide +kernel, by decide +kernel⟩, List.mem_of_getElem? (i := 1413) (by decide +kernel), List.mem_of_getElem? (i := 1777) (by decide +kernel), List.mem_of_getElem? (i := 1778) (by decide +kernel)⟩
theorem lw_p119 : lw_okq (⟨"OperandStacksModel", "top", "(I)I"⟩, 43) := ⟨⟨by decide +kernel, by decide +kernel⟩, List.mem_of_getElem? (i := 1413) (by decide +kernel), List.mem_of_getElem? (i := 1781) (by decide +kernel), List.mem_of_getElem? (i := 1782) (by decide +kernel)⟩
theorem lw_p120 : lw_okq (⟨"OperandStacksModel", "swap", "(II)V"⟩, 43) := ⟨⟨by decide +kernel, by decide +kernel⟩, List.mem_of_getElem? (i := 1413) (by decide +kernel), List.mem_of_getElem? (i := 1785) (by decide +kernel), List.mem_of_getElem? (i := 1786) (by decide +kernel)⟩
theorem lw_p121 : lw_okq (⟨"OperandStacksModel", "roll", "()I"⟩, 43) := ⟨⟨by decide +kernel, by decide +kernel⟩, List.mem_of_getElem? (i := 1413) (by decide +kernel), List.mem_of_getElem? (i := 1789) (by decide +kernel), List.mem_of_getElem? (i := 1790) (by decide +kernel)⟩
theorem lw_p122 : lw_okq (⟨"OperandStacksModel", "kindAt", "(I)I"⟩, 43) := ⟨⟨by decide +kernel, by decide +kernel⟩, List.mem_of_getElem? (i := 1413) (by decide +kernel), List.mem_of_getElem? (i := 1793) (by decide +kernel), List.mem_of_getElem? (i := 1794) (by decide +kernel)⟩
theorem lw_p123 : lw_okq (⟨"OperandStacksModel", "valueAt", "(I)I"⟩, 43) := ⟨⟨by decide +kernel, by decide +kernel⟩, List.mem_of_getElem? (i := 1413) (by decide +kernel), List.mem_of_getElem? (i := 1797) (by decide +kernel), List.mem_of_getElem? (i := 1798) (by decide +kernel)⟩
theorem lw_p124 : lw_okq (⟨"OperandStacksModel", "copyOrIndex", "(Z)I"⟩, 43) := ⟨⟨by decide +kernel, by decide +kernel⟩, List.mem_of_getElem? (i := 1413) (by decide +kernel), List.mem_of_getElem? (i := 1801) (by decide +kernel), List.mem_of_getElem? (i := 1802) (by decide +kernel)⟩
theorem lw_p125 : lw_okq (⟨"OperandStacksModel", "topMark", "()I"⟩, 43) := ⟨⟨by decide +kernel, by decide +kernel⟩, List.mem_of_getElem? (i := 1413) (by decide +kernel), List.mem_of_getElem? (i := 1805) (by decide +kernel), List.mem_of_getElem? (i := 1806) (by decide +kernel)⟩
theorem lw_p126 : lw_okq (⟨"OperandStacksModel", "pushNumber", "(I)V"⟩, 43) := ⟨⟨by decide +kernel, by decide +kernel⟩, List.mem_of_getElem? (i := 1413) (by decide +kernel), List.mem_of_getElem? (i := 1809) (by decide +kernel), List.mem_of_getElem? (i := 1810) (by decide +kernel)⟩
theorem lw_p127 : lw_okq (⟨"OperandStacksModel", "twoNumbers", "(I)I"⟩, 43) := ⟨⟨by decide +kernel, by decide +kernel⟩, List.mem_of_getElem? (i := 1413) (by decide +kernel), List.mem_of_getElem? (i := 1813) (by decide +kernel), List.mem_of_getElem? (i := 1814) (by decide +kernel)⟩
def lw_privs_8 : List (MethodName × Nat) := [(⟨"OperandStacksModel", "unwind", "(I)V"⟩, 43), (⟨"OperandStacksModel", "isFull", "(I)Z"⟩, 43), (⟨"OperandStacksModel", "pushBool", "(Z)V"⟩, 43), (⟨"OperandStacksModel", "push", "(IIIII)V"⟩, 43), (⟨"OperandStacksModel", "handle", "()V"⟩, 43), (⟨"OperandStacksModel", "operate", "(I)I"⟩, 43), (⟨"OperandStacksModel", "onStack", "(I)I"⟩, 43), (⟨"OperandStacksModel", "top", "(I)I"⟩, 43), (⟨"OperandStacksModel", "swap", "(II)V"⟩, 43), (⟨"OperandStacksModel", "roll", "()I"⟩, 43), (⟨"OperandStacksModel", "kindAt", "(I)I"⟩, 43), (⟨"OperandStacksModel", "valueAt", "(I)I"⟩, 43), (⟨"OperandStacksModel", "copyOrIndex", "(Z)I"⟩, 43), (⟨"OperandStacksModel", "topMark", "()I"⟩, 43), (⟨"OperandStacksModel", "pushNumber", "(I)V"⟩, 43), (⟨"OperandStacksModel", "twoNumbers", "(I)I"⟩, 43)]
theorem lw_r8 : ∀ q ∈ lw_privs_8, lw_okq q := List.forall_mem_cons.mpr ⟨lw_p112, List.forall_mem_cons.mpr ⟨lw_p113, List.forall_mem_cons.mpr ⟨lw_p114, List.forall_mem_cons.mpr ⟨lw_p115, List.forall_mem_cons.mpr ⟨lw_p116, List.forall_mem_cons.mpr ⟨lw_p117, List.forall_mem_cons.mpr ⟨lw_p118, List.forall_mem_cons.mpr ⟨lw_p119, List.forall_mem_cons.mpr ⟨lw_p120, List.forall_mem_cons.mpr ⟨lw_p121, List.forall_mem_cons.mpr ⟨lw_p122, List.forall_mem_cons.mpr ⟨lw_p123, List.forall_mem_cons.mpr ⟨lw_p124, List.forall_mem_cons.mpr ⟨lw_p125, List.forall_mem_cons.mpr ⟨lw_p126, List.forall_mem_cons.mpr ⟨lw_p127, fun _ h => absurd h List.not_mem_nil⟩⟩⟩⟩⟩⟩⟩⟩⟩⟩⟩⟩⟩⟩⟩⟩
theorem lw_p128 : lw_okq (⟨"OperandStacksModel", "oneNumber", "(I)I"⟩, 43) := ⟨⟨by decide +kernel, by decide +kernel⟩, List.mem_of_getElem? (i := 1413) (by decide +kernel), List.mem_of_getElem? (i := 1817) (by decide +kernel), List.mem_of_getElem? (i := 1818) (by decide +kernel)⟩
theorem lw_p129 : lw_okq (⟨"OperandStacksModel", "compare", "(I)I"⟩, 43) := ⟨⟨by decide +kernel, by decide +kernel⟩, List.mem_of_getElem? (i := 1413) (by decide +kernel), List.mem_of_getElem? (i := 1821) (by decide +kernel), List.mem_of_getElem? (i := 1822) (by decide +kernel)⟩
theorem lw_p130 : lw_okq (⟨"OperandStacksModel", "areEqual", "()Z"⟩, 43) := ⟨⟨by decide +kernel, by decide +kernel⟩, List.mem_of_getElem? (i := 1413) (by decide +kernel), List.mem_of_getElem? (i := 1825) (by decide +kernel), List.mem_of_getElem? (i := 1826) (by decide +kernel)⟩
theorem lw_p131 : lw_okq (⟨"OperandStacksModel", "isWord", "(I)Z"⟩, 43) := ⟨⟨by decide +kernel, by decide +kernel⟩, List.mem_of_getElem? (i := 1413) (by decide +kernel), List.mem_of_getElem? (i := 1829) (by decide +kernel), List.mem_of_getElem? (i := 1830) (by decide +kernel)⟩
theorem lw_p132 : lw_okq (⟨"OperandStacksModel", "order", "()I"⟩, 43) := ⟨⟨by decide +kernel, by decide +kernel⟩, List.mem_of_getElem? (i := 1413) (by decide +kernel), List.mem_of_getElem? (i := 1833) (by decide +kernel), List.mem_of_getElem? (i := 1834) (by decide +kernel)⟩
theorem lw_p133 : lw_okq (⟨"OperandStacksModel", "bytesOf", "(I)I"⟩, 43) := ⟨⟨by decide +kernel, by decide +kernel⟩, List.mem_of_getElem? (i := 1413) (by decide +kernel), List.mem_of_getElem? (i := 1837) (by decide +kernel), List.mem_of_getElem? (i := 1838) (by decide +kernel)⟩
theorem lw_p134 : lw_okq (⟨"OperandStacksModel", "lengthAt", "(I)I"⟩, 43) := ⟨⟨by decide +kernel, by decide +kernel⟩, List.mem_of_getElem? (i := 1413) (by decide +kernel), List.mem_of_getElem? (i := 1841) (by decide +kernel), List.mem_of_getElem? (i := 1842) (by decide +kernel)⟩
theorem lw_p135 : lw_okq (⟨"OperandStacksModel", "byteOf", "(II)I"⟩, 43) := ⟨⟨by decide +kernel, by decide +kernel⟩, List.mem_of_getElem? (i := 1413) (by decide +kernel), List.mem_of_getElem? (i := 1845) (by decide +kernel), List.mem_of_getElem? (i := 1846) (by decide +kernel)⟩
theorem lw_p136 : lw_okq (⟨"OperandStacksModel", "logic", "(I)I"⟩, 43) := ⟨⟨by decide +kernel, by decide +kernel⟩, List.mem_of_getElem? (i := 1413) (by decide +kernel), List.mem_of_getElem? (i := 1849) (by decide +kernel), List.mem_of_getElem? (i := 1850) (by decide +kernel)⟩
theorem lw_p137 : lw_okq (⟨"OperandStacksModel", "constant", "(I)I"⟩, 43) := ⟨⟨by decide +kernel, by decide +kernel⟩, List.mem_of_getElem? (i := 1413) (by decide +kernel), List.mem_of_getElem? (i := 1853) (by decide +kernel), List.mem_of_getElem? (i := 1854) (by decide +kernel)⟩
theorem lw_p138 : lw_okq (⟨"OperandStacksModel", "make", "(I)I"⟩, 43) := ⟨⟨by decide +kernel, by decide +kernel⟩, List.mem_of_getElem? (i := 1413) (by decide +kernel), List.mem_of_getElem? (i := 1857) (by decide +kernel), List.mem_of_getElem? (i := 1858) (by decide +kernel)⟩
theorem lw_p139 : lw_okq (⟨"OperandStacksModel", "access", "(I)I"⟩, 43) := ⟨⟨by decide +kernel, by decide +kernel⟩, List.mem_of_getElem? (i := 1413) (by decide +kernel), List.mem_of_getElem? (i := 1861) (by decide +kernel), List.mem_of_getElem? (i := 1862) (by decide +kernel)⟩
theorem lw_p140 : lw_okq (⟨"OperandStacksModel", "length", "()I"⟩, 43) := ⟨⟨by decide +kernel, by decide +kernel⟩, List.mem_of_getElem? (i := 1413) (by decide +kernel), List.mem_of_getElem? (i := 1865) (by decide +kernel), List.mem_of_getElem? (i := 1866) (by decide +kernel)⟩
theorem lw_p141 : lw_okq (⟨"OperandStacksModel", "get", "()I"⟩, 43) := ⟨⟨by decide +kernel, by decide +kernel⟩, List.mem_of_getElem? (i := 1413) (by decide +kernel), List.mem_of_getElem? (i := 1869) (by decide +kernel), List.mem_of_getElem? (i := 1870) (by decide +kernel)⟩
theorem lw_p142 : lw_okq (⟨"OperandStacksModel", "takeKey", "([II)I"⟩, 43) := ⟨⟨by decide +kernel, by decide +kernel⟩, List.mem_of_getElem? (i := 1413) (by decide +kernel), List.mem_of_getElem? (i := 1876) (by decide +kernel), List.mem_of_getElem? (i := 1877) (by decide +kernel)⟩
theorem lw_p143 : lw_okq (⟨"OperandStacksModel", "pairOf", "(III)I"⟩, 43) := ⟨⟨by decide +kernel, by decide +kernel⟩, List.mem_of_getElem? (i := 1413) (by decide +kernel), List.mem_of_getElem? (i := 1880) (by decide +kernel), List.mem_of_getElem? (i := 1881) (by decide +kernel)⟩
def lw_privs_9 : List (MethodName × Nat) := [(⟨"OperandStacksModel", "oneNumber", "(I)I"⟩, 43), (⟨"OperandStacksModel", "compare", "(I)I"⟩, 43), (⟨"OperandStacksModel", "areEqual", "()Z"⟩, 43), (⟨"OperandStacksModel", "isWord", "(I)Z"⟩, 43), (⟨"OperandStacksModel", "order", "()I"⟩, 43), (⟨"OperandStacksModel", "bytesOf", "(I)I"⟩, 43), (⟨"OperandStacksModel", "lengthAt", "(I)I"⟩, 43), (⟨"OperandStacksModel", "byteOf", "(II)I"⟩, 43), (⟨"OperandStacksModel", "logic", "(I)I"⟩, 43), (⟨"OperandStacksModel", "constant", "(I)I"⟩, 43), (⟨"OperandStacksModel", "make", "(I)I"⟩, 43), (⟨"OperandStacksModel", "access", "(I)I"⟩, 43), (⟨"OperandStacksModel", "length", "()I"⟩, 43), (⟨"OperandStacksModel", "get", "()I"⟩, 43), (⟨"OperandStacksModel", "takeKey", "([II)I"⟩, 43), (⟨"OperandStacksModel", "pairOf", "(III)I"⟩, 43)]
theorem lw_r9 : ∀ q ∈ lw_privs_9, lw_okq q := List.forall_mem_cons.mpr ⟨lw_p128, List.forall_mem_cons.mpr ⟨lw_p129, List.forall_mem_cons.mpr ⟨lw_p130, List.forall_mem_cons.mpr ⟨lw_p131, List.forall_mem_cons.mpr ⟨lw_p132, List.forall_mem_cons.mpr ⟨lw_p133, List.forall_mem_cons.mpr ⟨lw_p134, List.forall_mem_cons.mpr ⟨lw_p135, List.forall_mem_cons.mpr ⟨lw_p136, List.forall_mem_cons.mpr ⟨lw_p137, List.forall_mem_cons.mpr ⟨lw_p138, List.forall_mem_cons.mpr ⟨lw_p139, List.forall_mem_cons.mpr ⟨lw_p140, List.forall_mem_cons.mpr ⟨lw_p141, List.forall_mem_cons.mpr ⟨lw_p142, List.forall_mem_cons.mpr ⟨lw_p143, fun _ h => absurd h List.not_mem_nil⟩⟩⟩⟩⟩⟩⟩⟩⟩⟩⟩⟩⟩⟩⟩⟩
theorem lw_p144 : lw_okq (⟨"OperandStacksModel", "isRow", "(I)Z"⟩, 43) := ⟨⟨by decide +kernel, by decide +kernel⟩, List.mem_of_getElem? (i := 1413) (by decide +kernel), List.mem_of_getElem? (i := 1884) (by decide +kernel), List.mem_of_getElem? (i := 1885) (by decide +kernel)⟩
theorem lw_p145 : lw_okq (⟨"OperandStacksModel", "putIn", "()I"⟩, 43) := ⟨⟨by decide +kernel, by decide +kernel⟩, List.mem_of_getElem? (i := 1413) (by decide +kernel), List.mem_of_getElem? (i := 1888) (by decide +kernel), List.mem_of_getElem? (i := 1889) (by decide +kernel)⟩
theorem lw_p146 : lw_okq (⟨"OperandStacksModel", "hasRoom", "(I)Z"⟩, 43) := ⟨⟨by decide +kernel, by decide +kernel⟩, List.mem_of_getElem? (i := 1413) (by decide +kernel), List.mem_of_getElem? (i := 1892) (by decide +kernel), List.mem_of_getElem? (i := 1893) (by decide +kernel)⟩
theorem lw_p147 : lw_okq (⟨"OperandStacksModel", "define", "(I[II)V"⟩, 43) := ⟨⟨by decide +kernel, by decide +kernel⟩, List.mem_of_getElem? (i := 1413) (by decide +kernel), List.mem_of_getElem? (i := 1896) (by decide +kernel), List.mem_of_getElem? (i := 1897) (by decide +kernel)⟩
theorem lw_p148 : lw_okq (⟨"OperandStacksModel", "part", "()I"⟩, 43) := ⟨⟨by decide +kernel, by decide +kernel⟩, List.mem_of_getElem? (i := 1413) (by decide +kernel), List.mem_of_getElem? (i := 1900) (by decide +kernel), List.mem_of_getElem? (i := 1901) (by decide +kernel)⟩
theorem lw_p149 : lw_okq (⟨"OperandStacksModel", "putPart", "()I"⟩, 43) := ⟨⟨by decide +kernel, by decide +kernel⟩, List.mem_of_getElem? (i := 1413) (by decide +kernel), List.mem_of_getElem? (i := 1904) (by decide +kernel), List.mem_of_getElem? (i := 1905) (by decide +kernel)⟩
theorem lw_p150 : lw_okq (⟨"OperandStacksModel", "gather", "(I)I"⟩, 43) := ⟨⟨by decide +kernel, by decide +kernel⟩, List.mem_of_getElem? (i := 1413) (by decide +kernel), List.mem_of_getElem? (i := 1908) (by decide +kernel), List.mem_of_getElem? (i := 1909) (by decide +kernel)⟩
theorem lw_p151 : lw_okq (⟨"OperandStacksModel", "load", "()I"⟩, 43) := ⟨⟨by decide +kernel, by decide +kernel⟩, List.mem_of_getElem? (i := 1413) (by decide +kernel), List.mem_of_getElem? (i := 1912) (by decide +kernel), List.mem_of_getElem? (i := 1913) (by decide +kernel)⟩
theorem lw_p152 : lw_okq (⟨"OperandStacksModel", "store", "()I"⟩, 43) := ⟨⟨by decide +kernel, by decide +kernel⟩, List.mem_of_getElem? (i := 1413) (by decide +kernel), List.mem_of_getElem? (i := 1916) (by decide +kernel), List.mem_of_getElem? (i := 1917) (by decide +kernel)⟩
theorem lw_p153 : lw_okq (⟨"OperandStacksModel", "close", "()I"⟩, 43) := ⟨⟨by decide +kernel, by decide +kernel⟩, List.mem_of_getElem? (i := 1413) (by decide +kernel), List.mem_of_getElem? (i := 1920) (by decide +kernel), List.mem_of_getElem? (i := 1921) (by decide +kernel)⟩
theorem lw_p154 : lw_okq (⟨"OperandStacksModel", "closePairs", "()I"⟩, 43) := ⟨⟨by decide +kernel, by decide +kernel⟩, List.mem_of_getElem? (i := 1413) (by decide +kernel), List.mem_of_getElem? (i := 1924) (by decide +kernel), List.mem_of_getElem? (i := 1925) (by decide +kernel)⟩
theorem lw_p155 : lw_okq (⟨"OperandStacksModel", "makeDictionary", "(I)I"⟩, 43) := ⟨⟨by decide +kernel, by decide +kernel⟩, List.mem_of_getElem? (i := 1413) (by decide +kernel), List.mem_of_getElem? (i := 1928) (by decide +kernel), List.mem_of_getElem? (i := 1929) (by decide +kernel)⟩
theorem lw_p156 : lw_okq (⟨"OperandStacksModel", "makePairs", "()I"⟩, 43) := ⟨⟨by decide +kernel, by decide +kernel⟩, List.mem_of_getElem? (i := 1413) (by decide +kernel), List.mem_of_getElem? (i := 1932) (by decide +kernel), List.mem_of_getElem? (i := 1933) (by decide +kernel)⟩
theorem lw_p157 : lw_okq (⟨"OperandStacksModel", "onDictionaryStack", "(I)I"⟩, 43) := ⟨⟨by decide +kernel, by decide +kernel⟩, List.mem_of_getElem? (i := 1413) (by decide +kernel), List.mem_of_getElem? (i := 1936) (by decide +kernel), List.mem_of_getElem? (i := 1937) (by decide +kernel)⟩
theorem lw_p158 : lw_okq (⟨"OperandStacksModel", "withKey", "(I)I"⟩, 43) := ⟨⟨by decide +kernel, by decide +kernel⟩, List.mem_of_getElem? (i := 1413) (by decide +kernel), List.mem_of_getElem? (i := 1940) (by decide +kernel), List.mem_of_getElem? (i := 1941) (by decide +kernel)⟩
theorem lw_p159 : lw_okq (⟨"OperandStacksModel", "defineIn", "(I)I"⟩, 43) := ⟨⟨by decide +kernel, by decide +kernel⟩, List.mem_of_getElem? (i := 1413) (by decide +kernel), List.mem_of_getElem? (i := 1944) (by decide +kernel), List.mem_of_getElem? (i := 1945) (by decide +kernel)⟩
def lw_privs_10 : List (MethodName × Nat) := [(⟨"OperandStacksModel", "isRow", "(I)Z"⟩, 43), (⟨"OperandStacksModel", "putIn", "()I"⟩, 43), (⟨"OperandStacksModel", "hasRoom", "(I)Z"⟩, 43), (⟨"OperandStacksModel", "define", "(I[II)V"⟩, 43), (⟨"OperandStacksModel", "part", "()I"⟩, 43), (⟨"OperandStacksModel", "putPart", "()I"⟩, 43), (⟨"OperandStacksModel", "gather", "(I)I"⟩, 43), (⟨"OperandStacksModel", "load", "()I"⟩, 43), (⟨"OperandStacksModel", "store", "()I"⟩, 43), (⟨"OperandStacksModel", "close", "()I"⟩, 43), (⟨"OperandStacksModel", "closePairs", "()I"⟩, 43), (⟨"OperandStacksModel", "makeDictionary", "(I)I"⟩, 43), (⟨"OperandStacksModel", "makePairs", "()I"⟩, 43), (⟨"OperandStacksModel", "onDictionaryStack", "(I)I"⟩, 43), (⟨"OperandStacksModel", "withKey", "(I)I"⟩, 43), (⟨"OperandStacksModel", "defineIn", "(I)I"⟩, 43)]
theorem lw_r10 : ∀ q ∈ lw_privs_10, lw_okq q := List.forall_mem_cons.mpr ⟨lw_p144, List.forall_mem_cons.mpr ⟨lw_p145, List.forall_mem_cons.mpr ⟨lw_p146, List.forall_mem_cons.mpr ⟨lw_p147, List.forall_mem_cons.mpr ⟨lw_p148, List.forall_mem_cons.mpr ⟨lw_p149, List.forall_mem_cons.mpr ⟨lw_p150, List.forall_mem_cons.mpr ⟨lw_p151, List.forall_mem_cons.mpr ⟨lw_p152, List.forall_mem_cons.mpr ⟨lw_p153, List.forall_mem_cons.mpr ⟨lw_p154, List.forall_mem_cons.mpr ⟨lw_p155, List.forall_mem_cons.mpr ⟨lw_p156, List.forall_mem_cons.mpr ⟨lw_p157, List.forall_mem_cons.mpr ⟨lw_p158, List.forall_mem_cons.mpr ⟨lw_p159, fun _ h => absurd h List.not_mem_nil⟩⟩⟩⟩⟩⟩⟩⟩⟩⟩⟩⟩⟩⟩⟩⟩
theorem lw_p160 : lw_okq (⟨"OperandStacksModel", "find", "(II)I"⟩, 43) := ⟨⟨by decide +kernel, by decide +kernel⟩, List.mem_of_getElem? (i := 1413) (by decide +kernel), List.mem_of_getElem? (i := 1948) (by decide +kernel), List.mem_of_getElem? (i := 1949) (by decide +kernel)⟩
theorem lw_p161 : lw_okq (⟨"OperandStacksModel", "remove", "(I)V"⟩, 43) := ⟨⟨by decide +kernel, by decide +kernel⟩, List.mem_of_getElem? (i := 1413) (by decide +kernel), List.mem_of_getElem? (i := 1952) (by decide +kernel), List.mem_of_getElem? (i := 1953) (by decide +kernel)⟩
theorem lw_p162 : lw_okq (⟨"OperandStacksModel", "loadKey", "(I)I"⟩, 43) := ⟨⟨by decide +kernel, by decide +kernel⟩, List.mem_of_getElem? (i := 1413) (by decide +kernel), List.mem_of_getElem? (i := 1956) (by decide +kernel), List.mem_of_getElem? (i := 1957) (by decide +kernel)⟩
theorem lw_p163 : lw_okq (⟨"OperandStacksModel", "where", "(I)I"⟩, 43) := ⟨⟨by decide +kernel, by decide +kernel⟩, List.mem_of_getElem? (i := 1413) (by decide +kernel), List.mem_of_getElem? (i := 1960) (by decide +kernel), List.mem_of_getElem? (i := 1961) (by decide +kernel)⟩
theorem lw_p164 : lw_okq (⟨"OperandStacksModel", "aboutDictionaries", "(I)I"⟩, 43) := ⟨⟨by decide +kernel, by decide +kernel⟩, List.mem_of_getElem? (i := 1413) (by decide +kernel), List.mem_of_getElem? (i := 1964) (by decide +kernel), List.mem_of_getElem? (i := 1965) (by decide +kernel)⟩
theorem lw_p165 : lw_okq (⟨"OperandStacksModel", "control", "(I)I"⟩, 43) := ⟨⟨by decide +kernel, by decide +kernel⟩, List.mem_of_getElem? (i := 1413) (by decide +kernel), List.mem_of_getElem? (i := 1968) (by decide +kernel), List.mem_of_getElem? (i := 1969) (by decide +kernel)⟩
theorem lw_p166 : lw_okq (⟨"OperandStacksModel", "exec", "()I"⟩, 43) := ⟨⟨by decide +kernel, by decide +kernel⟩, List.mem_of_getElem? (i := 1413) (by decide +kernel), List.mem_of_getElem? (i := 1972) (by decide +kernel), List.mem_of_getElem? (i := 1973) (by decide +kernel)⟩
theorem lw_p167 : lw_okq (⟨"OperandStacksModel", "isProcedure", "(I)Z"⟩, 43) := ⟨⟨by decide +kernel, by decide +kernel⟩, List.mem_of_getElem? (i := 1413) (by decide +kernel), List.mem_of_getElem? (i := 1976) (by decide +kernel), List.mem_of_getElem? (i := 1977) (by decide +kernel)⟩
theorem lw_p168 : lw_okq (⟨"OperandStacksModel", "hasDepth", "(I)Z"⟩, 43) := ⟨⟨by decide +kernel, by decide +kernel⟩, List.mem_of_getElem? (i := 1413) (by decide +kernel), List.mem_of_getElem? (i := 1980) (by decide +kernel), List.mem_of_getElem? (i := 1981) (by decide +kernel)⟩
theorem lw_p169 : lw_okq (⟨"OperandStacksModel", "choose", "(Z)I"⟩, 43) := ⟨⟨by decide +kernel, by decide +kernel⟩, List.mem_of_getElem? (i := 1413) (by decide +kernel), List.mem_of_getElem? (i := 1984) (by decide +kernel), List.mem_of_getElem? (i := 1985) (by decide +kernel)⟩
theorem lw_p170 : lw_okq (⟨"OperandStacksModel", "enter", "([II)V"⟩, 43) := ⟨⟨by decide +kernel, by decide +kernel⟩, List.mem_of_getElem? (i := 1413) (by decide +kernel), List.mem_of_getElem? (i := 1988) (by decide +kernel), List.mem_of_getElem? (i := 1989) (by decide +kernel)⟩
theorem lw_p171 : lw_okq (⟨"OperandStacksModel", "startFor", "()I"⟩, 43) := ⟨⟨by decide +kernel, by decide +kernel⟩, List.mem_of_getElem? (i := 1413) (by decide +kernel), List.mem_of_getElem? (i := 1992) (by decide +kernel), List.mem_of_getElem? (i := 1993) (by decide +kernel)⟩
theorem lw_p172 : lw_okq (⟨"OperandStacksModel", "begin", "(II)V"⟩, 43) := ⟨⟨by decide +kernel, by decide +kernel⟩, List.mem_of_getElem? (i := 1413) (by decide +kernel), List.mem_of_getElem? (i := 1996) (by decide +kernel), List.mem_of_getElem? (i := 1997) (by decide +kernel)⟩
theorem lw_p173 : lw_okq (⟨"OperandStacksModel", "startRepeat", "()I"⟩, 43) := ⟨⟨by decide +kernel, by decide +kernel⟩, List.mem_of_getElem? (i := 1413) (by decide +kernel), List.mem_of_getElem? (i := 2000) (by decide +kernel), List.mem_of_getElem? (i := 2001) (by decide +kernel)⟩
theorem lw_p174 : lw_okq (⟨"OperandStacksModel", "startLoop", "()I"⟩, 43) := ⟨⟨by decide +kernel, by decide +kernel⟩, List.mem_of_getElem? (i := 1413) (by decide +kernel), List.mem_of_getElem? (i := 2004) (by decide +kernel), List.mem_of_getElem? (i := 2005) (by decide +kernel)⟩
theorem lw_p175 : lw_okq (⟨"OperandStacksModel", "startForall", "()I"⟩, 43) := ⟨⟨by decide +kernel, by decide +kernel⟩, List.mem_of_getElem? (i := 1413) (by decide +kernel), List.mem_of_getElem? (i := 2008) (by decide +kernel), List.mem_of_getElem? (i := 2009) (by decide +kernel)⟩
def lw_privs_11 : List (MethodName × Nat) := [(⟨"OperandStacksModel", "find", "(II)I"⟩, 43), (⟨"OperandStacksModel", "remove", "(I)V"⟩, 43), (⟨"OperandStacksModel", "loadKey", "(I)I"⟩, 43), (⟨"OperandStacksModel", "where", "(I)I"⟩, 43), (⟨"OperandStacksModel", "aboutDictionaries", "(I)I"⟩, 43), (⟨"OperandStacksModel", "control", "(I)I"⟩, 43), (⟨"OperandStacksModel", "exec", "()I"⟩, 43), (⟨"OperandStacksModel", "isProcedure", "(I)Z"⟩, 43), (⟨"OperandStacksModel", "hasDepth", "(I)Z"⟩, 43), (⟨"OperandStacksModel", "choose", "(Z)I"⟩, 43), (⟨"OperandStacksModel", "enter", "([II)V"⟩, 43), (⟨"OperandStacksModel", "startFor", "()I"⟩, 43), (⟨"OperandStacksModel", "begin", "(II)V"⟩, 43), (⟨"OperandStacksModel", "startRepeat", "()I"⟩, 43), (⟨"OperandStacksModel", "startLoop", "()I"⟩, 43), (⟨"OperandStacksModel", "startForall", "()I"⟩, 43)]
theorem lw_r11 : ∀ q ∈ lw_privs_11, lw_okq q := List.forall_mem_cons.mpr ⟨lw_p160, List.forall_mem_cons.mpr ⟨lw_p161, List.forall_mem_cons.mpr ⟨lw_p162, List.forall_mem_cons.mpr ⟨lw_p163, List.forall_mem_cons.mpr ⟨lw_p164, List.forall_mem_cons.mpr ⟨lw_p165, List.forall_mem_cons.mpr ⟨lw_p166, List.forall_mem_cons.mpr ⟨lw_p167, List.forall_mem_cons.mpr ⟨lw_p168, List.forall_mem_cons.mpr ⟨lw_p169, List.forall_mem_cons.mpr ⟨lw_p170, List.forall_mem_cons.mpr ⟨lw_p171, List.forall_mem_cons.mpr ⟨lw_p172, List.forall_mem_cons.mpr ⟨lw_p173, List.forall_mem_cons.mpr ⟨lw_p174, List.forall_mem_cons.mpr ⟨lw_p175, fun _ h => absurd h List.not_mem_nil⟩⟩⟩⟩⟩⟩⟩⟩⟩⟩⟩⟩⟩⟩⟩⟩
theorem lw_p176 : lw_okq (⟨"OperandStacksModel", "exit", "()I"⟩, 43) := ⟨⟨by decide +kernel, by decide +kernel⟩, List.mem_of_getElem? (i := 1413) (by decide +kernel), List.mem_of_getElem? (i := 2012) (by decide +kernel), List.mem_of_getElem? (i := 2013) (by decide +kernel)⟩
theorem lw_p177 : lw_okq (⟨"OperandStacksModel", "stopped", "()I"⟩, 43) := ⟨⟨by decide +kernel, by decide +kernel⟩, List.mem_of_getElem? (i := 1413) (by decide +kernel), List.mem_of_getElem? (i := 2016) (by decide +kernel), List.mem_of_getElem? (i := 2017) (by decide +kernel)⟩
theorem lw_p178 : lw_okq (⟨"OperandStacksModel", "tell", "(I)I"⟩, 43) := ⟨⟨by decide +kernel, by decide +kernel⟩, List.mem_of_getElem? (i := 1413) (by decide +kernel), List.mem_of_getElem? (i := 2020) (by decide +kernel), List.mem_of_getElem? (i := 2021) (by decide +kernel)⟩
theorem lw_p179 : lw_okq (⟨"OperandStacksModel", "bindAll", "(II)V"⟩, 43) := ⟨⟨by decide +kernel, by decide +kernel⟩, List.mem_of_getElem? (i := 1413) (by decide +kernel), List.mem_of_getElem? (i := 2024) (by decide +kernel), List.mem_of_getElem? (i := 2025) (by decide +kernel)⟩
theorem lw_p180 : lw_okq (⟨"OperandStacksModel", "isIn", "(III)Z"⟩, 43) := ⟨⟨by decide +kernel, by decide +kernel⟩, List.mem_of_getElem? (i := 1413) (by decide +kernel), List.mem_of_getElem? (i := 2028) (by decide +kernel), List.mem_of_getElem? (i := 2029) (by decide +kernel)⟩
theorem lw_p181 : lw_okq (⟨"OperandStacksModel", "write", "(Z)I"⟩, 43) := ⟨⟨by decide +kernel, by decide +kernel⟩, List.mem_of_getElem? (i := 1413) (by decide +kernel), List.mem_of_getElem? (i := 2032) (by decide +kernel), List.mem_of_getElem? (i := 2033) (by decide +kernel)⟩
theorem lw_p182 : lw_okq (⟨"OperandStacksModel", "putNumber", "(I)V"⟩, 43) := ⟨⟨by decide +kernel, by decide +kernel⟩, List.mem_of_getElem? (i := 1413) (by decide +kernel), List.mem_of_getElem? (i := 2036) (by decide +kernel), List.mem_of_getElem? (i := 2037) (by decide +kernel)⟩
theorem lw_p183 : lw_okq (⟨"OperandStacksModel", "putOut", "(I)V"⟩, 43) := ⟨⟨by decide +kernel, by decide +kernel⟩, List.mem_of_getElem? (i := 1413) (by decide +kernel), List.mem_of_getElem? (i := 2040) (by decide +kernel), List.mem_of_getElem? (i := 2041) (by decide +kernel)⟩
theorem lw_p184 : lw_okq (⟨"OperandStacksModel", "putName", "(I)V"⟩, 43) := ⟨⟨by decide +kernel, by decide +kernel⟩, List.mem_of_getElem? (i := 1413) (by decide +kernel), List.mem_of_getElem? (i := 2046) (by decide +kernel), List.mem_of_getElem? (i := 2047) (by decide +kernel)⟩
theorem lw_p185 : lw_okq (⟨"OperandStacksModel", "putNone", "()V"⟩, 43) := ⟨⟨by decide +kernel, by decide +kernel⟩, List.mem_of_getElem? (i := 1413) (by decide +kernel), List.mem_of_getElem? (i := 2050) (by decide +kernel), List.mem_of_getElem? (i := 2051) (by decide +kernel)⟩
theorem lw_p186 : lw_okq (⟨"OperandStacksModel", "follow", "()Z"⟩, 43) := ⟨⟨by decide +kernel, by decide +kernel⟩, List.mem_of_getElem? (i := 1413) (by decide +kernel), List.mem_of_getElem? (i := 2056) (by decide +kernel), List.mem_of_getElem? (i := 2057) (by decide +kernel)⟩
theorem lw_p187 : lw_okq (⟨"OperandStacksModel", "put", "([III)V"⟩, 43) := ⟨⟨by decide +kernel, by decide +kernel⟩, List.mem_of_getElem? (i := 1413) (by decide +kernel), List.mem_of_getElem? (i := 2060) (by decide +kernel), List.mem_of_getElem? (i := 2061) (by decide +kernel)⟩
theorem lw_p188 : lw_okq (⟨"OperandStacksModel", "nextValue", "(I)V"⟩, 43) := ⟨⟨by decide +kernel, by decide +kernel⟩, List.mem_of_getElem? (i := 1413) (by decide +kernel), List.mem_of_getElem? (i := 2064) (by decide +kernel), List.mem_of_getElem? (i := 2065) (by decide +kernel)⟩
theorem lw_p189 : lw_okq (⟨"OperandStacksModel", "round", "(II)V"⟩, 43) := ⟨⟨by decide +kernel, by decide +kernel⟩, List.mem_of_getElem? (i := 1413) (by decide +kernel), List.mem_of_getElem? (i := 2068) (by decide +kernel), List.mem_of_getElem? (i := 2069) (by decide +kernel)⟩
theorem lw_p190 : lw_okq (⟨"OperandStacksModel", "keyAt", "(II)I"⟩, 43) := ⟨⟨by decide +kernel, by decide +kernel⟩, List.mem_of_getElem? (i := 1413) (by decide +kernel), List.mem_of_getElem? (i := 2072) (by decide +kernel), List.mem_of_getElem? (i := 2073) (by decide +kernel)⟩
theorem lw_p191 : lw_okq (⟨"OperandStacksModel", "give", "(III)V"⟩, 43) := ⟨⟨by decide +kernel, by decide +kernel⟩, List.mem_of_getElem? (i := 1413) (by decide +kernel), List.mem_of_getElem? (i := 2076) (by decide +kernel), List.mem_of_getElem? (i := 2077) (by decide +kernel)⟩
def lw_privs_12 : List (MethodName × Nat) := [(⟨"OperandStacksModel", "exit", "()I"⟩, 43), (⟨"OperandStacksModel", "stopped", "()I"⟩, 43), (⟨"OperandStacksModel", "tell", "(I)I"⟩, 43), (⟨"OperandStacksModel", "bindAll", "(II)V"⟩, 43), (⟨"OperandStacksModel", "isIn", "(III)Z"⟩, 43), (⟨"OperandStacksModel", "write", "(Z)I"⟩, 43), (⟨"OperandStacksModel", "putNumber", "(I)V"⟩, 43), (⟨"OperandStacksModel", "putOut", "(I)V"⟩, 43), (⟨"OperandStacksModel", "putName", "(I)V"⟩, 43), (⟨"OperandStacksModel", "putNone", "()V"⟩, 43), (⟨"OperandStacksModel", "follow", "()Z"⟩, 43), (⟨"OperandStacksModel", "put", "([III)V"⟩, 43), (⟨"OperandStacksModel", "nextValue", "(I)V"⟩, 43), (⟨"OperandStacksModel", "round", "(II)V"⟩, 43), (⟨"OperandStacksModel", "keyAt", "(II)I"⟩, 43), (⟨"OperandStacksModel", "give", "(III)V"⟩, 43)]
theorem lw_r12 : ∀ q ∈ lw_privs_12, lw_okq q := List.forall_mem_cons.mpr ⟨lw_p176, List.forall_mem_cons.mpr ⟨lw_p177, List.forall_mem_cons.mpr ⟨lw_p178, List.forall_mem_cons.mpr ⟨lw_p179, List.forall_mem_cons.mpr ⟨lw_p180, List.forall_mem_cons.mpr ⟨lw_p181, List.forall_mem_cons.mpr ⟨lw_p182, List.forall_mem_cons.mpr ⟨lw_p183, List.forall_mem_cons.mpr ⟨lw_p184, List.forall_mem_cons.mpr ⟨lw_p185, List.forall_mem_cons.mpr ⟨lw_p186, List.forall_mem_cons.mpr ⟨lw_p187, List.forall_mem_cons.mpr ⟨lw_p188, List.forall_mem_cons.mpr ⟨lw_p189, List.forall_mem_cons.mpr ⟨lw_p190, List.forall_mem_cons.mpr ⟨lw_p191, fun _ h => absurd h List.not_mem_nil⟩⟩⟩⟩⟩⟩⟩⟩⟩⟩⟩⟩⟩⟩⟩⟩
def lw_privs : List (MethodName × Nat) := lw_privs_1 ++ (lw_privs_2 ++ (lw_privs_3 ++ (lw_privs_4 ++ (lw_privs_5 ++ (lw_privs_6 ++ (lw_privs_7 ++ (lw_privs_8 ++ (lw_privs_9 ++ (lw_privs_10 ++ (lw_privs_11 ++ (lw_privs_12)))))))))))
def lw_tbl : List Cond := k2_sels lw_privs ++ tables_1
theorem lw_privs_ok : ∀ q ∈ lw_privs, lw_okq q := by
  show ∀ q ∈ lw_privs_1 ++ (lw_privs_2 ++ (lw_privs_3 ++ (lw_privs_4 ++ (lw_privs_5 ++ (lw_privs_6 ++ (lw_privs_7 ++ (lw_privs_8 ++ (lw_privs_9 ++ (lw_privs_10 ++ (lw_privs_11 ++ (lw_privs_12))))))))))), lw_okq q
  exact List.forall_mem_append.mpr ⟨lw_r1, List.forall_mem_append.mpr ⟨lw_r2, List.forall_mem_append.mpr ⟨lw_r3, List.forall_mem_append.mpr ⟨lw_r4, List.forall_mem_append.mpr ⟨lw_r5, List.forall_mem_append.mpr ⟨lw_r6, List.forall_mem_append.mpr ⟨lw_r7, List.forall_mem_append.mpr ⟨lw_r8, List.forall_mem_append.mpr ⟨lw_r9, List.forall_mem_append.mpr ⟨lw_r10, List.forall_mem_append.mpr ⟨lw_r11, lw_r12⟩⟩⟩⟩⟩⟩⟩⟩⟩⟩⟩

def RX0 : String := "OperandStacks$Dictionaries"
def TX0 : u_T := fun k => match k with
  | 0 => ("OperandStacks$Dictionaries", "keys", "[J", true)
  | 1 => ("OperandStacks$Dictionaries", "values", "[J", true)
  | 2 => ("OperandStacks$Dictionaries", "starts", "[I", true)
  | 3 => ("OperandStacks$Dictionaries", "rooms", "[I", true)
  | 4 => ("OperandStacks$Dictionaries", "pairs", "[I", true)
  | 5 => ("OperandStacks$Dictionaries", "stack", "[I", true)
  | 6 => ("OperandStacks$Dictionaries", "poolUsed", "I", false)
  | 7 => ("OperandStacks$Dictionaries", "made", "I", false)
  | _ => ("OperandStacks$Dictionaries", "depth", "I", false)
def tyX0 : Nat → FieldType := fun k => match k with
  | 0 => .array .long
  | 1 => .array .long
  | 2 => .array .int
  | 3 => .array .int
  | 4 => .array .int
  | 5 => .array .int
  | 6 => .int
  | 7 => .int
  | _ => .int
abbrev wsX00 : List Cond := u_ws RX0 TX0 9
theorem nmX0 : ∀ a, a < 9 → ∀ b, b < 9 → a ≠ b → (TX0 a).2.1 ≠ (TX0 b).2.1 := by decide +kernel
theorem tyX0_ok : ∀ k, k < 9 → parseFieldDescriptor (TX0 k).2.2.1 = some (tyX0 k) := by decide +kernel
abbrev cX0_init : ByteArray := prog_2_method_1_code
def yX0_init : MethodName := ⟨RX0, "<init>", "()V"⟩
abbrev cX0_forget : ByteArray := prog_2_method_2_code
def yX0_forget : MethodName := ⟨RX0, "forget", "()V"⟩
abbrev cX0_make : ByteArray := prog_2_method_3_code
def yX0_make : MethodName := ⟨RX0, "make", "(I)I"⟩
abbrev cX0_begin : ByteArray := prog_2_method_4_code
def yX0_begin : MethodName := ⟨RX0, "begin", "(I)Z"⟩
abbrev cX0_end : ByteArray := prog_2_method_5_code
def yX0_end : MethodName := ⟨RX0, "end", "()Z"⟩
abbrev cX0_current : ByteArray := prog_2_method_6_code
def yX0_current : MethodName := ⟨RX0, "current", "()I"⟩
abbrev cX0_roomOf : ByteArray := prog_2_method_7_code
def yX0_roomOf : MethodName := ⟨RX0, "roomOf", "(I)I"⟩
abbrev cX0_pairsOf : ByteArray := prog_2_method_8_code
def yX0_pairsOf : MethodName := ⟨RX0, "pairsOf", "(I)I"⟩
abbrev cX0_keyAt : ByteArray := prog_2_method_9_code
def yX0_keyAt : MethodName := ⟨RX0, "keyAt", "(II)J"⟩
abbrev cX0_valueAt : ByteArray := prog_2_method_10_code
def yX0_valueAt : MethodName := ⟨RX0, "valueAt", "(II)J"⟩
abbrev cX0_find : ByteArray := prog_2_method_11_code
def yX0_find : MethodName := ⟨RX0, "find", "(IJ)I"⟩
abbrev cX0_holder : ByteArray := prog_2_method_12_code
def yX0_holder : MethodName := ⟨RX0, "holder", "(J)I"⟩
abbrev cX0_lookUp : ByteArray := prog_2_method_13_code
def yX0_lookUp : MethodName := ⟨RX0, "lookUp", "(J)J"⟩
abbrev cX0_put : ByteArray := prog_2_method_14_code
def yX0_put : MethodName := ⟨RX0, "put", "(IJJ)I"⟩
abbrev cX0_remove : ByteArray := prog_2_method_15_code
def yX0_remove : MethodName := ⟨RX0, "remove", "(IJ)I"⟩
def RX1 : String := "OperandStacks$DictionaryOperators"
def TX1 : u_T := fun k => match k with
  | 0 => ("OperandStacks$DictionaryOperators", "names", "LOperandStacks$Names;", true)
  | 1 => ("OperandStacks$DictionaryOperators", "storage", "LOperandStacks$Storage;", true)
  | 2 => ("OperandStacks$DictionaryOperators", "dictionaries", "LOperandStacks$Dictionaries;", true)
  | 3 => ("OperandStacks$DictionaryOperators", "operands", "LOperandStacks$Operands;", true)
  | _ => ("OperandStacks$DictionaryOperators", "key", "J", false)
def tyX1 : Nat → FieldType := fun k => match k with
  | 0 => .object "OperandStacks$Names"
  | 1 => .object "OperandStacks$Storage"
  | 2 => .object "OperandStacks$Dictionaries"
  | 3 => .object "OperandStacks$Operands"
  | _ => .long
abbrev wsX10 : List Cond := u_ws RX1 TX1 5
theorem nmX1 : ∀ a, a < 5 → ∀ b, b < 5 → a ≠ b → (TX1 a).2.1 ≠ (TX1 b).2.1 := by decide +kernel
theorem tyX1_ok : ∀ k, k < 5 → parseFieldDescriptor (TX1 k).2.2.1 = some (tyX1 k) := by decide +kernel
abbrev cX1_init : ByteArray := prog_3_method_1_code
def yX1_init : MethodName := ⟨RX1, "<init>", "(LOperandStacks$Names;LOperandStacks$Storage;LOperandStacks$Dictionaries;LOperandStacks$Operands;)V"⟩
abbrev cX1_perform : ByteArray := prog_3_method_2_code
def yX1_perform : MethodName := ⟨RX1, "perform", "(I)I"⟩
abbrev cX1_isKey : ByteArray := prog_3_method_3_code
def yX1_isKey : MethodName := ⟨RX1, "isKey", "(J)Z"⟩
abbrev cX1_takeKey : ByteArray := prog_3_method_4_code
def yX1_takeKey : MethodName := ⟨RX1, "takeKey", "(J)I"⟩
abbrev cX1_fetch : ByteArray := prog_3_method_5_code
def yX1_fetch : MethodName := ⟨RX1, "fetch", "()I"⟩
abbrev cX1_finish : ByteArray := prog_3_method_6_code
def yX1_finish : MethodName := ⟨RX1, "finish", "(II)I"⟩
abbrev cX1_put : ByteArray := prog_3_method_7_code
def yX1_put : MethodName := ⟨RX1, "put", "()I"⟩
abbrev cX1_define : ByteArray := prog_3_method_8_code
def yX1_define : MethodName := ⟨RX1, "define", "()I"⟩
abbrev cX1_store : ByteArray := prog_3_method_9_code
def yX1_store : MethodName := ⟨RX1, "store", "()I"⟩
abbrev cX1_undefine : ByteArray := prog_3_method_10_code
def yX1_undefine : MethodName := ⟨RX1, "undefine", "()I"⟩
abbrev cX1_load : ByteArray := prog_3_method_11_code
def yX1_load : MethodName := ⟨RX1, "load", "()I"⟩
abbrev cX1_known : ByteArray := prog_3_method_12_code
def yX1_known : MethodName := ⟨RX1, "known", "()I"⟩
abbrev cX1_where : ByteArray := prog_3_method_13_code
def yX1_where : MethodName := ⟨RX1, "where", "()I"⟩
abbrev cX1_make : ByteArray := prog_3_method_14_code
def yX1_make : MethodName := ⟨RX1, "make", "(I)I"⟩
abbrev cX1_begin : ByteArray := prog_3_method_15_code
def yX1_begin : MethodName := ⟨RX1, "begin", "()I"⟩
abbrev cX1_closePairs : ByteArray := prog_3_method_16_code
def yX1_closePairs : MethodName := ⟨RX1, "closePairs", "()I"⟩
abbrev cX1_checkKeys : ByteArray := prog_3_method_17_code
def yX1_checkKeys : MethodName := ⟨RX1, "checkKeys", "(I)I"⟩
def RX2 : String := "OperandStacks$Execution"
def TX2 : u_T := fun k => match k with
  | 0 => ("OperandStacks$Execution", "sorts", "[I", true)
  | 1 => ("OperandStacks$Execution", "bodies", "[J", true)
  | 2 => ("OperandStacks$Execution", "nexts", "[J", true)
  | 3 => ("OperandStacks$Execution", "lasts", "[J", true)
  | 4 => ("OperandStacks$Execution", "strides", "[J", true)
  | 5 => ("OperandStacks$Execution", "subjects", "[J", true)
  | 6 => ("OperandStacks$Execution", "keys", "[J", true)
  | _ => ("OperandStacks$Execution", "size", "I", false)
def tyX2 : Nat → FieldType := fun k => match k with
  | 0 => .array .int
  | 1 => .array .long
  | 2 => .array .long
  | 3 => .array .long
  | 4 => .array .long
  | 5 => .array .long
  | 6 => .array .long
  | _ => .int
abbrev wsX20 : List Cond := u_ws RX2 TX2 8
theorem nmX2 : ∀ a, a < 8 → ∀ b, b < 8 → a ≠ b → (TX2 a).2.1 ≠ (TX2 b).2.1 := by decide +kernel
theorem tyX2_ok : ∀ k, k < 8 → parseFieldDescriptor (TX2 k).2.2.1 = some (tyX2 k) := by decide +kernel
abbrev cX2_init : ByteArray := prog_4_method_1_code
def yX2_init : MethodName := ⟨RX2, "<init>", "()V"⟩
abbrev cX2_begin : ByteArray := prog_4_method_2_code
def yX2_begin : MethodName := ⟨RX2, "begin", "()V"⟩
abbrev cX2_hasRoom : ByteArray := prog_4_method_3_code
def yX2_hasRoom : MethodName := ⟨RX2, "hasRoom", "(I)Z"⟩
abbrev cX2_topFrame : ByteArray := prog_4_method_4_code
def yX2_topFrame : MethodName := ⟨RX2, "topFrame", "()I"⟩
abbrev cX2_sort : ByteArray := prog_4_method_5_code
def yX2_sort : MethodName := ⟨RX2, "sort", "()I"⟩
abbrev cX2_body : ByteArray := prog_4_method_6_code
def yX2_body : MethodName := ⟨RX2, "body", "()J"⟩
abbrev cX2_next : ByteArray := prog_4_method_7_code
def yX2_next : MethodName := ⟨RX2, "next", "()J"⟩
abbrev cX2_setNext : ByteArray := prog_4_method_8_code
def yX2_setNext : MethodName := ⟨RX2, "setNext", "(J)V"⟩
abbrev cX2_last : ByteArray := prog_4_method_9_code
def yX2_last : MethodName := ⟨RX2, "last", "()J"⟩
abbrev cX2_stride : ByteArray := prog_4_method_10_code
def yX2_stride : MethodName := ⟨RX2, "stride", "()J"⟩
abbrev cX2_subject : ByteArray := prog_4_method_11_code
def yX2_subject : MethodName := ⟨RX2, "subject", "()J"⟩
abbrev cX2_leave : ByteArray := prog_4_method_12_code
def yX2_leave : MethodName := ⟨RX2, "leave", "()V"⟩
abbrev cX2_enter : ByteArray := prog_4_method_13_code
def yX2_enter : MethodName := ⟨RX2, "enter", "(IJ)Z"⟩
abbrev cX2_setBounds : ByteArray := prog_4_method_14_code
def yX2_setBounds : MethodName := ⟨RX2, "setBounds", "(JJJ)V"⟩
abbrev cX2_setSubject : ByteArray := prog_4_method_15_code
def yX2_setSubject : MethodName := ⟨RX2, "setSubject", "(JI)V"⟩
abbrev cX2_keepKey : ByteArray := prog_4_method_16_code
def yX2_keepKey : MethodName := ⟨RX2, "keepKey", "(IJ)V"⟩
abbrev cX2_keptKey : ByteArray := prog_4_method_17_code
def yX2_keptKey : MethodName := ⟨RX2, "keptKey", "(J)J"⟩
abbrev cX2_leaveStopped : ByteArray := prog_4_method_18_code
def yX2_leaveStopped : MethodName := ⟨RX2, "leaveStopped", "()Z"⟩
abbrev cX2_leaveLoop : ByteArray := prog_4_method_19_code
def yX2_leaveLoop : MethodName := ⟨RX2, "leaveLoop", "()Z"⟩
def RX3 : String := "OperandStacks$Machine"
def TX3 : u_T := fun k => match k with
  | 0 => ("OperandStacks$Machine", "storage", "LOperandStacks$Storage;", true)
  | 1 => ("OperandStacks$Machine", "dictionaries", "LOperandStacks$Dictionaries;", true)
  | 2 => ("OperandStacks$Machine", "operands", "LOperandStacks$Operands;", true)
  | 3 => ("OperandStacks$Machine", "reader", "LOperandStacks$Reader;", true)
  | 4 => ("OperandStacks$Machine", "execution", "LOperandStacks$Execution;", true)
  | 5 => ("OperandStacks$Machine", "plain", "LOperandStacks$PlainOperators;", true)
  | 6 => ("OperandStacks$Machine", "rows", "LOperandStacks$RowOperators;", true)
  | 7 => ("OperandStacks$Machine", "pairs", "LOperandStacks$DictionaryOperators;", true)
  | 8 => ("OperandStacks$Machine", "stepsUsed", "I", false)
  | 9 => ("OperandStacks$Machine", "errorNumber", "I", false)
  | 10 => ("OperandStacks$Machine", "errorName", "I", false)
  | 11 => ("OperandStacks$Machine", "stepsAllowed", "I", false)
  | 12 => ("OperandStacks$Machine", "outcome", "I", false)
  | 13 => ("OperandStacks$Machine", "current", "J", false)
  | 14 => ("OperandStacks$Machine", "stands", "Z", false)
  | _ => ("OperandStacks$Machine", "culprit", "I", false)
def tyX3 : Nat → FieldType := fun k => match k with
  | 0 => .object "OperandStacks$Storage"
  | 1 => .object "OperandStacks$Dictionaries"
  | 2 => .object "OperandStacks$Operands"
  | 3 => .object "OperandStacks$Reader"
  | 4 => .object "OperandStacks$Execution"
  | 5 => .object "OperandStacks$PlainOperators"
  | 6 => .object "OperandStacks$RowOperators"
  | 7 => .object "OperandStacks$DictionaryOperators"
  | 8 => .int
  | 9 => .int
  | 10 => .int
  | 11 => .int
  | 12 => .int
  | 13 => .long
  | 14 => .boolean
  | _ => .int
abbrev wsX30 : List Cond := u_ws RX3 TX3 16
theorem nmX3 : ∀ a, a < 16 → ∀ b, b < 16 → a ≠ b → (TX3 a).2.1 ≠ (TX3 b).2.1 := by decide +kernel
theorem tyX3_ok : ∀ k, k < 16 → parseFieldDescriptor (TX3 k).2.2.1 = some (tyX3 k) := by decide +kernel
abbrev cX3_init : ByteArray := prog_5_method_1_code
def yX3_init : MethodName := ⟨RX3, "<init>", "(LOperandStacks$Names;LOperandStacks$Storage;LOperandStacks$Dictionaries;LOperandStacks$Operands;LOperandStacks$Reader;)V"⟩
abbrev cX3_forget : ByteArray := prog_5_method_2_code
def yX3_forget : MethodName := ⟨RX3, "forget", "()V"⟩
abbrev cX3_begin : ByteArray := prog_5_method_3_code
def yX3_begin : MethodName := ⟨RX3, "begin", "(I)V"⟩
abbrev cX3_takeTurn : ByteArray := prog_5_method_4_code
def yX3_takeTurn : MethodName := ⟨RX3, "takeTurn", "()V"⟩
abbrev cX3_countStep : ByteArray := prog_5_method_5_code
def yX3_countStep : MethodName := ⟨RX3, "countStep", "()Z"⟩
abbrev cX3_takeToken : ByteArray := prog_5_method_6_code
def yX3_takeToken : MethodName := ⟨RX3, "takeToken", "()V"⟩
abbrev cX3_takeValue : ByteArray := prog_5_method_7_code
def yX3_takeValue : MethodName := ⟨RX3, "takeValue", "()V"⟩
abbrev cX3_meet : ByteArray := prog_5_method_8_code
def yX3_meet : MethodName := ⟨RX3, "meet", "(J)V"⟩
abbrev cX3_handOn : ByteArray := prog_5_method_9_code
def yX3_handOn : MethodName := ⟨RX3, "handOn", "(JI)V"⟩
abbrev cX3_endStopped : ByteArray := prog_5_method_10_code
def yX3_endStopped : MethodName := ⟨RX3, "endStopped", "()V"⟩
abbrev cX3_beginForRound : ByteArray := prog_5_method_11_code
def yX3_beginForRound : MethodName := ⟨RX3, "beginForRound", "()V"⟩
abbrev cX3_beginRepeatRound : ByteArray := prog_5_method_12_code
def yX3_beginRepeatRound : MethodName := ⟨RX3, "beginRepeatRound", "()V"⟩
abbrev cX3_beginLoopRound : ByteArray := prog_5_method_13_code
def yX3_beginLoopRound : MethodName := ⟨RX3, "beginLoopRound", "()V"⟩
abbrev cX3_beginForallRound : ByteArray := prog_5_method_14_code
def yX3_beginForallRound : MethodName := ⟨RX3, "beginForallRound", "()V"⟩
abbrev cX3_beginPairRound : ByteArray := prog_5_method_15_code
def yX3_beginPairRound : MethodName := ⟨RX3, "beginPairRound", "(I)V"⟩
abbrev cX3_putForRound : ByteArray := prog_5_method_16_code
def yX3_putForRound : MethodName := ⟨RX3, "putForRound", "(IJ)V"⟩
abbrev cX3_fail : ByteArray := prog_5_method_17_code
def yX3_fail : MethodName := ⟨RX3, "fail", "(II)V"⟩
abbrev cX3_unwind : ByteArray := prog_5_method_18_code
def yX3_unwind : MethodName := ⟨RX3, "unwind", "(I)V"⟩
abbrev cX3_followName : ByteArray := prog_5_method_19_code
def yX3_followName : MethodName := ⟨RX3, "followName", "(I)V"⟩
abbrev cX3_putOrEnter : ByteArray := prog_5_method_20_code
def yX3_putOrEnter : MethodName := ⟨RX3, "putOrEnter", "()V"⟩
abbrev cX3_doOperator : ByteArray := prog_5_method_21_code
def yX3_doOperator : MethodName := ⟨RX3, "doOperator", "(I)V"⟩
abbrev cX3_takesFromDictionary : ByteArray := prog_5_method_22_code
def yX3_takesFromDictionary : MethodName := ⟨RX3, "takesFromDictionary", "(I)Z"⟩
abbrev cX3_checkOperands : ByteArray := prog_5_method_23_code
def yX3_checkOperands : MethodName := ⟨RX3, "checkOperands", "(I)I"⟩
abbrev cX3_takes : ByteArray := prog_5_method_24_code
def yX3_takes : MethodName := ⟨RX3, "takes", "(IJ)Z"⟩
abbrev cX3_control : ByteArray := prog_5_method_25_code
def yX3_control : MethodName := ⟨RX3, "control", "(I)I"⟩
abbrev cX3_exec : ByteArray := prog_5_method_26_code
def yX3_exec : MethodName := ⟨RX3, "exec", "()I"⟩
abbrev cX3_branch : ByteArray := prog_5_method_27_code
def yX3_branch : MethodName := ⟨RX3, "branch", "(IJ)I"⟩
abbrev cX3_enterLoop : ByteArray := prog_5_method_28_code
def yX3_enterLoop : MethodName := ⟨RX3, "enterLoop", "(II)I"⟩
abbrev cX3_loopFor : ByteArray := prog_5_method_29_code
def yX3_loopFor : MethodName := ⟨RX3, "loopFor", "()I"⟩
abbrev cX3_repeat : ByteArray := prog_5_method_30_code
def yX3_repeat : MethodName := ⟨RX3, "repeat", "()I"⟩
abbrev cX3_forall : ByteArray := prog_5_method_31_code
def yX3_forall : MethodName := ⟨RX3, "forall", "()I"⟩
abbrev cX3_stopped : ByteArray := prog_5_method_32_code
def yX3_stopped : MethodName := ⟨RX3, "stopped", "()I"⟩
def RX4 : String := "OperandStacks$Names"
def TX4 : u_T := fun k => match k with
  | 0 => ("OperandStacks$Names", "lows", "[J", true)
  | 1 => ("OperandStacks$Names", "highs", "[J", true)
  | 2 => ("OperandStacks$Names", "lengths", "[I", true)
  | 3 => ("OperandStacks$Names", "met", "I", false)
  | 4 => ("OperandStacks$Names", "draftLow", "J", false)
  | 5 => ("OperandStacks$Names", "draftHigh", "J", false)
  | _ => ("OperandStacks$Names", "draftLength", "I", false)
def tyX4 : Nat → FieldType := fun k => match k with
  | 0 => .array .long
  | 1 => .array .long
  | 2 => .array .int
  | 3 => .int
  | 4 => .long
  | 5 => .long
  | _ => .int
abbrev wsX40 : List Cond := u_ws RX4 TX4 7
theorem nmX4 : ∀ a, a < 7 → ∀ b, b < 7 → a ≠ b → (TX4 a).2.1 ≠ (TX4 b).2.1 := by decide +kernel
theorem tyX4_ok : ∀ k, k < 7 → parseFieldDescriptor (TX4 k).2.2.1 = some (tyX4 k) := by decide +kernel
abbrev cX4_init : ByteArray := prog_6_method_1_code
def yX4_init : MethodName := ⟨RX4, "<init>", "()V"⟩
abbrev cX4_meetAll : ByteArray := prog_6_method_2_code
def yX4_meetAll : MethodName := ⟨RX4, "meetAll", "(Ljava/lang/String;)V"⟩
abbrev cX4_forget : ByteArray := prog_6_method_3_code
def yX4_forget : MethodName := ⟨RX4, "forget", "()V"⟩
abbrev cX4_startDraft : ByteArray := prog_6_method_4_code
def yX4_startDraft : MethodName := ⟨RX4, "startDraft", "()V"⟩
abbrev cX4_addToDraft : ByteArray := prog_6_method_5_code
def yX4_addToDraft : MethodName := ⟨RX4, "addToDraft", "(I)V"⟩
abbrev cX4_meetDraft : ByteArray := prog_6_method_6_code
def yX4_meetDraft : MethodName := ⟨RX4, "meetDraft", "()I"⟩
abbrev cX4_lengthOf : ByteArray := prog_6_method_7_code
def yX4_lengthOf : MethodName := ⟨RX4, "lengthOf", "(I)I"⟩
abbrev cX4_octetOf : ByteArray := prog_6_method_8_code
def yX4_octetOf : MethodName := ⟨RX4, "octetOf", "(II)I"⟩
def RX5 : String := "OperandStacks$Operands"
def TX5 : u_T := fun k => match k with
  | 0 => ("OperandStacks$Operands", "values", "[J", true)
  | 1 => ("OperandStacks$Operands", "turned", "[J", true)
  | _ => ("OperandStacks$Operands", "size", "I", false)
def tyX5 : Nat → FieldType := fun k => match k with
  | 0 => .array .long
  | 1 => .array .long
  | _ => .int
abbrev wsX50 : List Cond := u_ws RX5 TX5 3
theorem nmX5 : ∀ a, a < 3 → ∀ b, b < 3 → a ≠ b → (TX5 a).2.1 ≠ (TX5 b).2.1 := by decide +kernel
theorem tyX5_ok : ∀ k, k < 3 → parseFieldDescriptor (TX5 k).2.2.1 = some (tyX5 k) := by decide +kernel
abbrev cX5_init : ByteArray := prog_7_method_1_code
def yX5_init : MethodName := ⟨RX5, "<init>", "()V"⟩
abbrev cX5_forget : ByteArray := prog_7_method_2_code
def yX5_forget : MethodName := ⟨RX5, "forget", "()V"⟩
abbrev cX5_top : ByteArray := prog_7_method_3_code
def yX5_top : MethodName := ⟨RX5, "top", "(I)J"⟩
abbrev cX5_numberAt : ByteArray := prog_7_method_4_code
def yX5_numberAt : MethodName := ⟨RX5, "numberAt", "(I)I"⟩
abbrev cX5_hasRoom : ByteArray := prog_7_method_5_code
def yX5_hasRoom : MethodName := ⟨RX5, "hasRoom", "(I)Z"⟩
abbrev cX5_drop : ByteArray := prog_7_method_6_code
def yX5_drop : MethodName := ⟨RX5, "drop", "(I)V"⟩
abbrev cX5_push : ByteArray := prog_7_method_7_code
def yX5_push : MethodName := ⟨RX5, "push", "(J)Z"⟩
abbrev cX5_answer : ByteArray := prog_7_method_8_code
def yX5_answer : MethodName := ⟨RX5, "answer", "(IJ)I"⟩
abbrev cX5_aboveMark : ByteArray := prog_7_method_9_code
def yX5_aboveMark : MethodName := ⟨RX5, "aboveMark", "()I"⟩
abbrev cX5_swap : ByteArray := prog_7_method_10_code
def yX5_swap : MethodName := ⟨RX5, "swap", "()V"⟩
abbrev cX5_copyTop : ByteArray := prog_7_method_11_code
def yX5_copyTop : MethodName := ⟨RX5, "copyTop", "(I)V"⟩
abbrev cX5_roll : ByteArray := prog_7_method_12_code
def yX5_roll : MethodName := ⟨RX5, "roll", "(II)V"⟩
def RX6 : String := "OperandStacks$PlainOperators"
def TX6 : u_T := fun k => match k with
  | 0 => ("OperandStacks$PlainOperators", "names", "LOperandStacks$Names;", true)
  | 1 => ("OperandStacks$PlainOperators", "storage", "LOperandStacks$Storage;", true)
  | _ => ("OperandStacks$PlainOperators", "operands", "LOperandStacks$Operands;", true)
def tyX6 : Nat → FieldType := fun k => match k with
  | 0 => .object "OperandStacks$Names"
  | 1 => .object "OperandStacks$Storage"
  | _ => .object "OperandStacks$Operands"
abbrev wsX60 : List Cond := u_ws RX6 TX6 3
theorem nmX6 : ∀ a, a < 3 → ∀ b, b < 3 → a ≠ b → (TX6 a).2.1 ≠ (TX6 b).2.1 := by decide +kernel
theorem tyX6_ok : ∀ k, k < 3 → parseFieldDescriptor (TX6 k).2.2.1 = some (tyX6 k) := by decide +kernel
abbrev cX6_init : ByteArray := prog_8_method_1_code
def yX6_init : MethodName := ⟨RX6, "<init>", "(LOperandStacks$Names;LOperandStacks$Storage;LOperandStacks$Operands;)V"⟩
abbrev cX6_perform : ByteArray := prog_8_method_2_code
def yX6_perform : MethodName := ⟨RX6, "perform", "(I)I"⟩
abbrev cX6_arrange : ByteArray := prog_8_method_3_code
def yX6_arrange : MethodName := ⟨RX6, "arrange", "(I)I"⟩
abbrev cX6_copy : ByteArray := prog_8_method_4_code
def yX6_copy : MethodName := ⟨RX6, "copy", "(I)I"⟩
abbrev cX6_index : ByteArray := prog_8_method_5_code
def yX6_index : MethodName := ⟨RX6, "index", "(I)I"⟩
abbrev cX6_roll : ByteArray := prog_8_method_6_code
def yX6_roll : MethodName := ⟨RX6, "roll", "(II)I"⟩
abbrev cX6_clearToMark : ByteArray := prog_8_method_7_code
def yX6_clearToMark : MethodName := ⟨RX6, "clearToMark", "()I"⟩
abbrev cX6_countToMark : ByteArray := prog_8_method_8_code
def yX6_countToMark : MethodName := ⟨RX6, "countToMark", "()I"⟩
abbrev cX6_calculate : ByteArray := prog_8_method_9_code
def yX6_calculate : MethodName := ⟨RX6, "calculate", "(III)I"⟩
abbrev cX6_compare : ByteArray := prog_8_method_10_code
def yX6_compare : MethodName := ⟨RX6, "compare", "(I)I"⟩
abbrev cX6_areEqual : ByteArray := prog_8_method_11_code
def yX6_areEqual : MethodName := ⟨RX6, "areEqual", "(JJ)Z"⟩
abbrev cX6_compareBytes : ByteArray := prog_8_method_12_code
def yX6_compareBytes : MethodName := ⟨RX6, "compareBytes", "(JJ)I"⟩
abbrev cX6_combine : ByteArray := prog_8_method_13_code
def yX6_combine : MethodName := ⟨RX6, "combine", "(I)I"⟩
abbrev cX6_invert : ByteArray := prog_8_method_14_code
def yX6_invert : MethodName := ⟨RX6, "invert", "()I"⟩
abbrev cX6_converted : ByteArray := prog_8_method_15_code
def yX6_converted : MethodName := ⟨RX6, "converted", "(J)J"⟩
abbrev cX6_writeLine : ByteArray := prog_8_method_16_code
def yX6_writeLine : MethodName := ⟨RX6, "writeLine", "()I"⟩
abbrev cX6_print : ByteArray := prog_8_method_17_code
def yX6_print : MethodName := ⟨RX6, "print", "()I"⟩
abbrev cX6_writeText : ByteArray := prog_8_method_18_code
def yX6_writeText : MethodName := ⟨RX6, "writeText", "(J)Z"⟩
abbrev cX6_writeNumber : ByteArray := prog_8_method_19_code
def yX6_writeNumber : MethodName := ⟨RX6, "writeNumber", "(I)Z"⟩
abbrev cX6_writeName : ByteArray := prog_8_method_20_code
def yX6_writeName : MethodName := ⟨RX6, "writeName", "(I)Z"⟩
abbrev cX6_writeString : ByteArray := prog_8_method_21_code
def yX6_writeString : MethodName := ⟨RX6, "writeString", "(J)Z"⟩
abbrev cX6_writeNoText : ByteArray := prog_8_method_22_code
def yX6_writeNoText : MethodName := ⟨RX6, "writeNoText", "()Z"⟩
def RX7 : String := "OperandStacks$Reader"
def TX7 : u_T := fun k => match k with
  | 0 => ("OperandStacks$Reader", "names", "LOperandStacks$Names;", true)
  | 1 => ("OperandStacks$Reader", "storage", "LOperandStacks$Storage;", true)
  | 2 => ("OperandStacks$Reader", "tape", "[B", true)
  | 3 => ("OperandStacks$Reader", "text", "[B", true)
  | 4 => ("OperandStacks$Reader", "typed", "I", false)
  | 5 => ("OperandStacks$Reader", "position", "I", false)
  | 6 => ("OperandStacks$Reader", "parts", "[J", true)
  | 7 => ("OperandStacks$Reader", "partCount", "I", false)
  | 8 => ("OperandStacks$Reader", "firstParts", "[I", true)
  | 9 => ("OperandStacks$Reader", "openCount", "I", false)
  | 10 => ("OperandStacks$Reader", "token", "J", false)
  | _ => ("OperandStacks$Reader", "parsed", "I", false)
def tyX7 : Nat → FieldType := fun k => match k with
  | 0 => .object "OperandStacks$Names"
  | 1 => .object "OperandStacks$Storage"
  | 2 => .array .byte
  | 3 => .array .byte
  | 4 => .int
  | 5 => .int
  | 6 => .array .long
  | 7 => .int
  | 8 => .array .int
  | 9 => .int
  | 10 => .long
  | _ => .int
abbrev wsX70 : List Cond := u_ws RX7 TX7 12
theorem nmX7 : ∀ a, a < 12 → ∀ b, b < 12 → a ≠ b → (TX7 a).2.1 ≠ (TX7 b).2.1 := by decide +kernel
theorem tyX7_ok : ∀ k, k < 12 → parseFieldDescriptor (TX7 k).2.2.1 = some (tyX7 k) := by decide +kernel
abbrev cX7_init : ByteArray := prog_9_method_1_code
def yX7_init : MethodName := ⟨RX7, "<init>", "(LOperandStacks$Names;LOperandStacks$Storage;)V"⟩
abbrev cX7_append : ByteArray := prog_9_method_2_code
def yX7_append : MethodName := ⟨RX7, "append", "(JI)Z"⟩
abbrev cX7_discard : ByteArray := prog_9_method_3_code
def yX7_discard : MethodName := ⟨RX7, "discard", "()V"⟩
abbrev cX7_lastToken : ByteArray := prog_9_method_4_code
def yX7_lastToken : MethodName := ⟨RX7, "lastToken", "()J"⟩
abbrev cX7_byteAt : ByteArray := prog_9_method_5_code
def yX7_byteAt : MethodName := ⟨RX7, "byteAt", "(I)I"⟩
abbrev cX7_findToken : ByteArray := prog_9_method_6_code
def yX7_findToken : MethodName := ⟨RX7, "findToken", "()Z"⟩
abbrev cX7_readToken : ByteArray := prog_9_method_7_code
def yX7_readToken : MethodName := ⟨RX7, "readToken", "()I"⟩
abbrev cX7_keep : ByteArray := prog_9_method_8_code
def yX7_keep : MethodName := ⟨RX7, "keep", "(J)I"⟩
abbrev cX7_readPair : ByteArray := prog_9_method_9_code
def yX7_readPair : MethodName := ⟨RX7, "readPair", "(II)I"⟩
abbrev cX7_openProcedure : ByteArray := prog_9_method_10_code
def yX7_openProcedure : MethodName := ⟨RX7, "openProcedure", "()I"⟩
abbrev cX7_closeProcedure : ByteArray := prog_9_method_11_code
def yX7_closeProcedure : MethodName := ⟨RX7, "closeProcedure", "()I"⟩
abbrev cX7_readString : ByteArray := prog_9_method_12_code
def yX7_readString : MethodName := ⟨RX7, "readString", "()I"⟩
abbrev cX7_keepString : ByteArray := prog_9_method_13_code
def yX7_keepString : MethodName := ⟨RX7, "keepString", "(I)I"⟩
abbrev cX7_isRegular : ByteArray := prog_9_method_14_code
def yX7_isRegular : MethodName := ⟨RX7, "isRegular", "(I)Z"⟩
abbrev cX7_readName : ByteArray := prog_9_method_15_code
def yX7_readName : MethodName := ⟨RX7, "readName", "(IZ)I"⟩
abbrev cX7_readRegular : ByteArray := prog_9_method_16_code
def yX7_readRegular : MethodName := ⟨RX7, "readRegular", "(I)I"⟩
abbrev cX7_isDecimal : ByteArray := prog_9_method_17_code
def yX7_isDecimal : MethodName := ⟨RX7, "isDecimal", "(II)Z"⟩
abbrev cX7_isToBase : ByteArray := prog_9_method_18_code
def yX7_isToBase : MethodName := ⟨RX7, "isToBase", "(II)Z"⟩
abbrev cX7_readDigits : ByteArray := prog_9_method_19_code
def yX7_readDigits : MethodName := ⟨RX7, "readDigits", "(III)Z"⟩
abbrev cX7_digitOf : ByteArray := prog_9_method_20_code
def yX7_digitOf : MethodName := ⟨RX7, "digitOf", "(I)I"⟩
def RX8 : String := "OperandStacks$RowOperators"
def TX8 : u_T := fun k => match k with
  | 0 => ("OperandStacks$RowOperators", "names", "LOperandStacks$Names;", true)
  | 1 => ("OperandStacks$RowOperators", "storage", "LOperandStacks$Storage;", true)
  | 2 => ("OperandStacks$RowOperators", "dictionaries", "LOperandStacks$Dictionaries;", true)
  | 3 => ("OperandStacks$RowOperators", "operands", "LOperandStacks$Operands;", true)
  | 4 => ("OperandStacks$RowOperators", "moved", "[J", true)
  | 5 => ("OperandStacks$RowOperators", "found", "[J", true)
  | _ => ("OperandStacks$RowOperators", "foundCount", "I", false)
def tyX8 : Nat → FieldType := fun k => match k with
  | 0 => .object "OperandStacks$Names"
  | 1 => .object "OperandStacks$Storage"
  | 2 => .object "OperandStacks$Dictionaries"
  | 3 => .object "OperandStacks$Operands"
  | 4 => .array .long
  | 5 => .array .long
  | _ => .int
abbrev wsX80 : List Cond := u_ws RX8 TX8 7
theorem nmX8 : ∀ a, a < 7 → ∀ b, b < 7 → a ≠ b → (TX8 a).2.1 ≠ (TX8 b).2.1 := by decide +kernel
theorem tyX8_ok : ∀ k, k < 7 → parseFieldDescriptor (TX8 k).2.2.1 = some (tyX8 k) := by decide +kernel
abbrev cX8_init : ByteArray := prog_10_method_1_code
def yX8_init : MethodName := ⟨RX8, "<init>", "(LOperandStacks$Names;LOperandStacks$Storage;LOperandStacks$Dictionaries;LOperandStacks$Operands;)V"⟩
abbrev cX8_perform : ByteArray := prog_10_method_2_code
def yX8_perform : MethodName := ⟨RX8, "perform", "(I)I"⟩
abbrev cX8_makeArray : ByteArray := prog_10_method_3_code
def yX8_makeArray : MethodName := ⟨RX8, "makeArray", "(I)I"⟩
abbrev cX8_makeString : ByteArray := prog_10_method_4_code
def yX8_makeString : MethodName := ⟨RX8, "makeString", "(I)I"⟩
abbrev cX8_measure : ByteArray := prog_10_method_5_code
def yX8_measure : MethodName := ⟨RX8, "measure", "()I"⟩
abbrev cX8_isIndex : ByteArray := prog_10_method_6_code
def yX8_isIndex : MethodName := ⟨RX8, "isIndex", "(JI)Z"⟩
abbrev cX8_fetch : ByteArray := prog_10_method_7_code
def yX8_fetch : MethodName := ⟨RX8, "fetch", "()I"⟩
abbrev cX8_put : ByteArray := prog_10_method_8_code
def yX8_put : MethodName := ⟨RX8, "put", "()I"⟩
abbrev cX8_takeInterval : ByteArray := prog_10_method_9_code
def yX8_takeInterval : MethodName := ⟨RX8, "takeInterval", "()I"⟩
abbrev cX8_putInterval : ByteArray := prog_10_method_10_code
def yX8_putInterval : MethodName := ⟨RX8, "putInterval", "()I"⟩
abbrev cX8_moveCells : ByteArray := prog_10_method_11_code
def yX8_moveCells : MethodName := ⟨RX8, "moveCells", "(III)V"⟩
abbrev cX8_moveOctets : ByteArray := prog_10_method_12_code
def yX8_moveOctets : MethodName := ⟨RX8, "moveOctets", "(III)V"⟩
abbrev cX8_load : ByteArray := prog_10_method_13_code
def yX8_load : MethodName := ⟨RX8, "load", "()I"⟩
abbrev cX8_store : ByteArray := prog_10_method_14_code
def yX8_store : MethodName := ⟨RX8, "store", "()I"⟩
abbrev cX8_closeArray : ByteArray := prog_10_method_15_code
def yX8_closeArray : MethodName := ⟨RX8, "closeArray", "()I"⟩
abbrev cX8_bind : ByteArray := prog_10_method_16_code
def yX8_bind : MethodName := ⟨RX8, "bind", "()I"⟩
abbrev cX8_noteArray : ByteArray := prog_10_method_17_code
def yX8_noteArray : MethodName := ⟨RX8, "noteArray", "(J)V"⟩
abbrev cX8_bindArray : ByteArray := prog_10_method_18_code
def yX8_bindArray : MethodName := ⟨RX8, "bindArray", "(J)V"⟩
def RX9 : String := "OperandStacks$Storage"
def TX9 : u_T := fun k => match k with
  | 0 => ("OperandStacks$Storage", "cells", "[J", true)
  | 1 => ("OperandStacks$Storage", "octets", "[B", true)
  | 2 => ("OperandStacks$Storage", "out", "[B", true)
  | 3 => ("OperandStacks$Storage", "cellsUsed", "I", false)
  | 4 => ("OperandStacks$Storage", "octetsUsed", "I", false)
  | _ => ("OperandStacks$Storage", "outUsed", "I", false)
def tyX9 : Nat → FieldType := fun k => match k with
  | 0 => .array .long
  | 1 => .array .byte
  | 2 => .array .byte
  | 3 => .int
  | 4 => .int
  | _ => .int
abbrev wsX90 : List Cond := u_ws RX9 TX9 6
theorem nmX9 : ∀ a, a < 6 → ∀ b, b < 6 → a ≠ b → (TX9 a).2.1 ≠ (TX9 b).2.1 := by decide +kernel
theorem tyX9_ok : ∀ k, k < 6 → parseFieldDescriptor (TX9 k).2.2.1 = some (tyX9 k) := by decide +kernel
abbrev cX9_init : ByteArray := prog_11_method_1_code
def yX9_init : MethodName := ⟨RX9, "<init>", "()V"⟩
abbrev cX9_forget : ByteArray := prog_11_method_2_code
def yX9_forget : MethodName := ⟨RX9, "forget", "()V"⟩
abbrev cX9_makeArray : ByteArray := prog_11_method_3_code
def yX9_makeArray : MethodName := ⟨RX9, "makeArray", "(I)I"⟩
abbrev cX9_makeString : ByteArray := prog_11_method_4_code
def yX9_makeString : MethodName := ⟨RX9, "makeString", "(I)I"⟩
abbrev cX9_cell : ByteArray := prog_11_method_5_code
def yX9_cell : MethodName := ⟨RX9, "cell", "(I)J"⟩
abbrev cX9_setCell : ByteArray := prog_11_method_6_code
def yX9_setCell : MethodName := ⟨RX9, "setCell", "(IJ)V"⟩
abbrev cX9_octetAt : ByteArray := prog_11_method_7_code
def yX9_octetAt : MethodName := ⟨RX9, "octetAt", "(I)I"⟩
abbrev cX9_setOctet : ByteArray := prog_11_method_8_code
def yX9_setOctet : MethodName := ⟨RX9, "setOctet", "(II)V"⟩
abbrev cX9_outAt : ByteArray := prog_11_method_9_code
def yX9_outAt : MethodName := ⟨RX9, "outAt", "(I)I"⟩
abbrev cX9_write : ByteArray := prog_11_method_10_code
def yX9_write : MethodName := ⟨RX9, "write", "(I)Z"⟩
def RX10 : String := "OperandStacks$Value"
def TX10 : u_T := fun k => match k with
  | _ => ("", "", "", false)
def tyX10 : Nat → FieldType := fun k => match k with
  | _ => .int
abbrev wsX100 : List Cond := u_ws RX10 TX10 0
theorem nmX10 : ∀ a, a < 0 → ∀ b, b < 0 → a ≠ b → (TX10 a).2.1 ≠ (TX10 b).2.1 := by decide +kernel
theorem tyX10_ok : ∀ k, k < 0 → parseFieldDescriptor (TX10 k).2.2.1 = some (tyX10 k) := by decide +kernel
abbrev cX10_number : ByteArray := prog_12_method_2_code
def yX10_number : MethodName := ⟨RX10, "number", "(I)J"⟩
abbrev cX10_truth : ByteArray := prog_12_method_3_code
def yX10_truth : MethodName := ⟨RX10, "truth", "(Z)J"⟩
abbrev cX10_literalName : ByteArray := prog_12_method_4_code
def yX10_literalName : MethodName := ⟨RX10, "literalName", "(I)J"⟩
abbrev cX10_executableName : ByteArray := prog_12_method_5_code
def yX10_executableName : MethodName := ⟨RX10, "executableName", "(I)J"⟩
abbrev cX10_operator : ByteArray := prog_12_method_6_code
def yX10_operator : MethodName := ⟨RX10, "operator", "(I)J"⟩
abbrev cX10_dictionaryOf : ByteArray := prog_12_method_7_code
def yX10_dictionaryOf : MethodName := ⟨RX10, "dictionaryOf", "(I)J"⟩
abbrev cX10_array : ByteArray := prog_12_method_8_code
def yX10_array : MethodName := ⟨RX10, "array", "(II)J"⟩
abbrev cX10_string : ByteArray := prog_12_method_9_code
def yX10_string : MethodName := ⟨RX10, "string", "(II)J"⟩
abbrev cX10_kind : ByteArray := prog_12_method_10_code
def yX10_kind : MethodName := ⟨RX10, "kind", "(J)I"⟩
abbrev cX10_length : ByteArray := prog_12_method_11_code
def yX10_length : MethodName := ⟨RX10, "length", "(J)I"⟩
abbrev cX10_isExecutable : ByteArray := prog_12_method_12_code
def yX10_isExecutable : MethodName := ⟨RX10, "isExecutable", "(J)Z"⟩
abbrev cX10_isProcedure : ByteArray := prog_12_method_13_code
def yX10_isProcedure : MethodName := ⟨RX10, "isProcedure", "(J)Z"⟩
abbrev cX10_isExecutableName : ByteArray := prog_12_method_14_code
def yX10_isExecutableName : MethodName := ⟨RX10, "isExecutableName", "(J)Z"⟩
abbrev cX10_partOf : ByteArray := prog_12_method_15_code
def yX10_partOf : MethodName := ⟨RX10, "partOf", "(JII)J"⟩
abbrev cX10_part : ByteArray := prog_12_method_16_code
def yX10_part : MethodName := ⟨RX10, "part", "(JI)I"⟩
def RX11 : String := "OperandStacks"
def TX11 : u_T := fun k => match k with
  | 0 => ("OperandStacks", "names", "LOperandStacks$Names;", true)
  | 1 => ("OperandStacks", "storage", "LOperandStacks$Storage;", true)
  | 2 => ("OperandStacks", "dictionaries", "LOperandStacks$Dictionaries;", true)
  | 3 => ("OperandStacks", "operands", "LOperandStacks$Operands;", true)
  | 4 => ("OperandStacks", "reader", "LOperandStacks$Reader;", true)
  | _ => ("OperandStacks", "machine", "LOperandStacks$Machine;", true)
def tyX11 : Nat → FieldType := fun k => match k with
  | 0 => .object "OperandStacks$Names"
  | 1 => .object "OperandStacks$Storage"
  | 2 => .object "OperandStacks$Dictionaries"
  | 3 => .object "OperandStacks$Operands"
  | 4 => .object "OperandStacks$Reader"
  | _ => .object "OperandStacks$Machine"
abbrev wsX110 : List Cond := u_ws RX11 TX11 6
theorem nmX11 : ∀ a, a < 6 → ∀ b, b < 6 → a ≠ b → (TX11 a).2.1 ≠ (TX11 b).2.1 := by decide +kernel
theorem tyX11_ok : ∀ k, k < 6 → parseFieldDescriptor (TX11 k).2.2.1 = some (tyX11 k) := by decide +kernel
abbrev cX11_init : ByteArray := prog_1_method_1_code
def yX11_init : MethodName := ⟨RX11, "<init>", "()V"⟩
abbrev cX11_type : ByteArray := prog_1_method_2_code
def yX11_type : MethodName := ⟨RX11, "type", "(JI)Z"⟩
abbrev cX11_run : ByteArray := prog_1_method_3_code
def yX11_run : MethodName := ⟨RX11, "run", "(I)I"⟩
abbrev cX11_reset : ByteArray := prog_1_method_4_code
def yX11_reset : MethodName := ⟨RX11, "reset", "()V"⟩
abbrev cX11_count : ByteArray := prog_1_method_5_code
def yX11_count : MethodName := ⟨RX11, "count", "(I)I"⟩
abbrev cX11_at : ByteArray := prog_1_method_6_code
def yX11_at : MethodName := ⟨RX11, "at", "(II)I"⟩
abbrev cX11_value : ByteArray := prog_1_method_7_code
def yX11_value : MethodName := ⟨RX11, "value", "(II)I"⟩
abbrev cX11_octet : ByteArray := prog_1_method_8_code
def yX11_octet : MethodName := ⟨RX11, "octet", "(I)I"⟩
abbrev cX11_dictionary : ByteArray := prog_1_method_9_code
def yX11_dictionary : MethodName := ⟨RX11, "dictionary", "(III)I"⟩
abbrev cX11_name : ByteArray := prog_1_method_10_code
def yX11_name : MethodName := ⟨RX11, "name", "(II)I"⟩
abbrev cX11_error : ByteArray := prog_1_method_11_code
def yX11_error : MethodName := ⟨RX11, "error", "(I)I"⟩
abbrev cX11_out : ByteArray := prog_1_method_12_code
def yX11_out : MethodName := ⟨RX11, "out", "(I)I"⟩
def RX12 : String := "OperandStacksModel"
def TX12 : u_T := fun k => match k with
  | 0 => ("OperandStacksModel", "thrown", "I", false)
  | 1 => ("OperandStacksModel", "taped", "I", false)
  | 2 => ("OperandStacksModel", "tape", "[I", true)
  | 3 => ("OperandStacksModel", "size", "I", false)
  | 4 => ("OperandStacksModel", "place", "I", false)
  | 5 => ("OperandStacksModel", "operands", "I", false)
  | 6 => ("OperandStacksModel", "operand", "[I", true)
  | 7 => ("OperandStacksModel", "dicts", "I", false)
  | 8 => ("OperandStacksModel", "dictHeight", "I", false)
  | 9 => ("OperandStacksModel", "dictStack", "[I", true)
  | 10 => ("OperandStacksModel", "room", "[I", true)
  | 11 => ("OperandStacksModel", "pairs", "[I", true)
  | 12 => ("OperandStacksModel", "keys", "[I", true)
  | 13 => ("OperandStacksModel", "held", "[I", true)
  | 14 => ("OperandStacksModel", "values", "I", false)
  | 15 => ("OperandStacksModel", "storage", "[I", true)
  | 16 => ("OperandStacksModel", "bytes", "I", false)
  | 17 => ("OperandStacksModel", "octets", "[I", true)
  | 18 => ("OperandStacksModel", "rows", "I", false)
  | 19 => ("OperandStacksModel", "names", "I", false)
  | 20 => ("OperandStacksModel", "nameSize", "[I", true)
  | 21 => ("OperandStacksModel", "nameBytes", "[I", true)
  | 22 => ("OperandStacksModel", "outSize", "I", false)
  | 23 => ("OperandStacksModel", "out", "[I", true)
  | 24 => ("OperandStacksModel", "errorNumber", "I", false)
  | 25 => ("OperandStacksModel", "errorName", "I", false)
  | 26 => ("OperandStacksModel", "depth", "I", false)
  | 27 => ("OperandStacksModel", "item", "[I", true)
  | 28 => ("OperandStacksModel", "counter", "[J", true)
  | 29 => ("OperandStacksModel", "itemKeys", "[I", true)
  | 30 => ("OperandStacksModel", "steps", "I", false)
  | 31 => ("OperandStacksModel", "limit", "I", false)
  | 32 => ("OperandStacksModel", "status", "I", false)
  | 33 => ("OperandStacksModel", "read", "I", false)
  | 34 => ("OperandStacksModel", "some", "[I", true)
  | 35 => ("OperandStacksModel", "open", "I", false)
  | 36 => ("OperandStacksModel", "opened", "[I", true)
  | 37 => ("OperandStacksModel", "fault", "I", false)
  | 38 => ("OperandStacksModel", "one", "[I", true)
  | 39 => ("OperandStacksModel", "hasNext", "Z", false)
  | 40 => ("OperandStacksModel", "keyKind", "I", false)
  | 41 => ("OperandStacksModel", "keyValue", "I", false)
  | _ => ("OperandStacksModel", "bound", "[I", true)
def tyX12 : Nat → FieldType := fun k => match k with
  | 0 => .int
  | 1 => .int
  | 2 => .array .int
  | 3 => .int
  | 4 => .int
  | 5 => .int
  | 6 => .array .int
  | 7 => .int
  | 8 => .int
  | 9 => .array .int
  | 10 => .array .int
  | 11 => .array .int
  | 12 => .array .int
  | 13 => .array .int
  | 14 => .int
  | 15 => .array .int
  | 16 => .int
  | 17 => .array .int
  | 18 => .int
  | 19 => .int
  | 20 => .array .int
  | 21 => .array .int
  | 22 => .int
  | 23 => .array .int
  | 24 => .int
  | 25 => .int
  | 26 => .int
  | 27 => .array .int
  | 28 => .array .long
  | 29 => .array .int
  | 30 => .int
  | 31 => .int
  | 32 => .int
  | 33 => .int
  | 34 => .array .int
  | 35 => .int
  | 36 => .array .int
  | 37 => .int
  | 38 => .array .int
  | 39 => .boolean
  | 40 => .int
  | 41 => .int
  | _ => .array .int
abbrev wsX120 : List Cond := u_ws RX12 TX12 43
theorem nmX12 : ∀ a, a < 43 → ∀ b, b < 43 → a ≠ b → (TX12 a).2.1 ≠ (TX12 b).2.1 := by decide +kernel
theorem tyX12_ok : ∀ k, k < 43 → parseFieldDescriptor (TX12 k).2.2.1 = some (tyX12 k) := by decide +kernel
abbrev cX12_init : ByteArray := prog_14_method_1_code
def yX12_init : MethodName := ⟨RX12, "<init>", "()V"⟩
abbrev cX12_thrown : ByteArray := prog_14_method_2_code
def yX12_thrown : MethodName := ⟨RX12, "thrown", "()I"⟩
abbrev cX12_addName : ByteArray := prog_14_method_3_code
def yX12_addName : MethodName := ⟨RX12, "addName", "(JJI)V"⟩
abbrev cX12_addFirst : ByteArray := prog_14_method_4_code
def yX12_addFirst : MethodName := ⟨RX12, "addFirst", "()V"⟩
abbrev cX12_addSecond : ByteArray := prog_14_method_5_code
def yX12_addSecond : MethodName := ⟨RX12, "addSecond", "()V"⟩
abbrev cX12_addThird : ByteArray := prog_14_method_6_code
def yX12_addThird : MethodName := ⟨RX12, "addThird", "()V"⟩
abbrev cX12_clearAll : ByteArray := prog_14_method_7_code
def yX12_clearAll : MethodName := ⟨RX12, "clearAll", "()V"⟩
abbrev cX12_reset : ByteArray := prog_14_method_8_code
def yX12_reset : MethodName := ⟨RX12, "reset", "()V"⟩
abbrev cX12_set : ByteArray := prog_14_method_9_code
def yX12_set : MethodName := ⟨RX12, "set", "([IIIIIII)V"⟩
abbrev cX12_copy : ByteArray := prog_14_method_10_code
def yX12_copy : MethodName := ⟨RX12, "copy", "([II[II)V"⟩
abbrev cX12_top : ByteArray := prog_14_method_11_code
def yX12_top : MethodName := ⟨RX12, "top", "(I)I"⟩
abbrev cX12_kindAt : ByteArray := prog_14_method_12_code
def yX12_kindAt : MethodName := ⟨RX12, "kindAt", "(I)I"⟩
abbrev cX12_valueAt : ByteArray := prog_14_method_13_code
def yX12_valueAt : MethodName := ⟨RX12, "valueAt", "(I)I"⟩
abbrev cX12_lengthAt : ByteArray := prog_14_method_14_code
def yX12_lengthAt : MethodName := ⟨RX12, "lengthAt", "(I)I"⟩
abbrev cX12_isProcedure : ByteArray := prog_14_method_15_code
def yX12_isProcedure : MethodName := ⟨RX12, "isProcedure", "(I)Z"⟩
abbrev cX12_push : ByteArray := prog_14_method_16_code
def yX12_push : MethodName := ⟨RX12, "push", "(IIIII)V"⟩
abbrev cX12_pushNumber : ByteArray := prog_14_method_17_code
def yX12_pushNumber : MethodName := ⟨RX12, "pushNumber", "(I)V"⟩
abbrev cX12_pushBool : ByteArray := prog_14_method_18_code
def yX12_pushBool : MethodName := ⟨RX12, "pushBool", "(Z)V"⟩
abbrev cX12_isFull : ByteArray := prog_14_method_19_code
def yX12_isFull : MethodName := ⟨RX12, "isFull", "(I)Z"⟩
abbrev cX12_type : ByteArray := prog_14_method_20_code
def yX12_type : MethodName := ⟨RX12, "type", "(JI)Z"⟩
abbrev cX12_isAt : ByteArray := prog_14_method_21_code
def yX12_isAt : MethodName := ⟨RX12, "isAt", "(I)Z"⟩
abbrev cX12_isRegular : ByteArray := prog_14_method_22_code
def yX12_isRegular : MethodName := ⟨RX12, "isRegular", "(I)Z"⟩
abbrev cX12_passBlanks : ByteArray := prog_14_method_23_code
def yX12_passBlanks : MethodName := ⟨RX12, "passBlanks", "()V"⟩
abbrev cX12_passRegular : ByteArray := prog_14_method_24_code
def yX12_passRegular : MethodName := ⟨RX12, "passRegular", "()I"⟩
abbrev cX12_findName : ByteArray := prog_14_method_25_code
def yX12_findName : MethodName := ⟨RX12, "findName", "([III)I"⟩
abbrev cX12_nameOf : ByteArray := prog_14_method_26_code
def yX12_nameOf : MethodName := ⟨RX12, "nameOf", "([III)I"⟩
abbrev cX12_digitOf : ByteArray := prog_14_method_27_code
def yX12_digitOf : MethodName := ⟨RX12, "digitOf", "(I)I"⟩
abbrev cX12_areDigits : ByteArray := prog_14_method_28_code
def yX12_areDigits : MethodName := ⟨RX12, "areDigits", "(III)Z"⟩
abbrev cX12_numberOf : ByteArray := prog_14_method_29_code
def yX12_numberOf : MethodName := ⟨RX12, "numberOf", "(III)I"⟩
abbrev cX12_keep : ByteArray := prog_14_method_30_code
def yX12_keep : MethodName := ⟨RX12, "keep", "(IIIII)V"⟩
abbrev cX12_keepName : ByteArray := prog_14_method_31_code
def yX12_keepName : MethodName := ⟨RX12, "keepName", "(III)V"⟩
abbrev cX12_readWord : ByteArray := prog_14_method_32_code
def yX12_readWord : MethodName := ⟨RX12, "readWord", "()V"⟩
abbrev cX12_readString : ByteArray := prog_14_method_33_code
def yX12_readString : MethodName := ⟨RX12, "readString", "()V"⟩
abbrev cX12_closeProcedure : ByteArray := prog_14_method_34_code
def yX12_closeProcedure : MethodName := ⟨RX12, "closeProcedure", "()V"⟩
abbrev cX12_readPart : ByteArray := prog_14_method_35_code
def yX12_readPart : MethodName := ⟨RX12, "readPart", "()V"⟩
abbrev cX12_readToken : ByteArray := prog_14_method_36_code
def yX12_readToken : MethodName := ⟨RX12, "readToken", "()V"⟩
abbrev cX12_pairOf : ByteArray := prog_14_method_37_code
def yX12_pairOf : MethodName := ⟨RX12, "pairOf", "(III)I"⟩
abbrev cX12_find : ByteArray := prog_14_method_38_code
def yX12_find : MethodName := ⟨RX12, "find", "(II)I"⟩
abbrev cX12_isKey : ByteArray := prog_14_method_39_code
def yX12_isKey : MethodName := ⟨RX12, "isKey", "(I)Z"⟩
abbrev cX12_takeKey : ByteArray := prog_14_method_40_code
def yX12_takeKey : MethodName := ⟨RX12, "takeKey", "([II)I"⟩
abbrev cX12_hasRoom : ByteArray := prog_14_method_41_code
def yX12_hasRoom : MethodName := ⟨RX12, "hasRoom", "(I)Z"⟩
abbrev cX12_define : ByteArray := prog_14_method_42_code
def yX12_define : MethodName := ⟨RX12, "define", "(I[II)V"⟩
abbrev cX12_remove : ByteArray := prog_14_method_43_code
def yX12_remove : MethodName := ⟨RX12, "remove", "(I)V"⟩
abbrev cX12_makeDictionary : ByteArray := prog_14_method_44_code
def yX12_makeDictionary : MethodName := ⟨RX12, "makeDictionary", "(I)I"⟩
abbrev cX12_unwind : ByteArray := prog_14_method_45_code
def yX12_unwind : MethodName := ⟨RX12, "unwind", "(I)V"⟩
abbrev cX12_fail : ByteArray := prog_14_method_46_code
def yX12_fail : MethodName := ⟨RX12, "fail", "(II)V"⟩
abbrev cX12_hasDepth : ByteArray := prog_14_method_47_code
def yX12_hasDepth : MethodName := ⟨RX12, "hasDepth", "(I)Z"⟩
abbrev cX12_enter : ByteArray := prog_14_method_48_code
def yX12_enter : MethodName := ⟨RX12, "enter", "([II)V"⟩
abbrev cX12_follow : ByteArray := prog_14_method_49_code
def yX12_follow : MethodName := ⟨RX12, "follow", "()Z"⟩
abbrev cX12_put : ByteArray := prog_14_method_50_code
def yX12_put : MethodName := ⟨RX12, "put", "([III)V"⟩
abbrev cX12_handle : ByteArray := prog_14_method_51_code
def yX12_handle : MethodName := ⟨RX12, "handle", "()V"⟩
abbrev cX12_operate : ByteArray := prog_14_method_52_code
def yX12_operate : MethodName := ⟨RX12, "operate", "(I)I"⟩
abbrev cX12_topMark : ByteArray := prog_14_method_53_code
def yX12_topMark : MethodName := ⟨RX12, "topMark", "()I"⟩
abbrev cX12_onStack : ByteArray := prog_14_method_54_code
def yX12_onStack : MethodName := ⟨RX12, "onStack", "(I)I"⟩
abbrev cX12_swap : ByteArray := prog_14_method_55_code
def yX12_swap : MethodName := ⟨RX12, "swap", "(II)V"⟩
abbrev cX12_copyOrIndex : ByteArray := prog_14_method_56_code
def yX12_copyOrIndex : MethodName := ⟨RX12, "copyOrIndex", "(Z)I"⟩
abbrev cX12_roll : ByteArray := prog_14_method_57_code
def yX12_roll : MethodName := ⟨RX12, "roll", "()I"⟩
abbrev cX12_twoNumbers : ByteArray := prog_14_method_58_code
def yX12_twoNumbers : MethodName := ⟨RX12, "twoNumbers", "(I)I"⟩
abbrev cX12_oneNumber : ByteArray := prog_14_method_59_code
def yX12_oneNumber : MethodName := ⟨RX12, "oneNumber", "(I)I"⟩
abbrev cX12_isWord : ByteArray := prog_14_method_60_code
def yX12_isWord : MethodName := ⟨RX12, "isWord", "(I)Z"⟩
abbrev cX12_byteOf : ByteArray := prog_14_method_61_code
def yX12_byteOf : MethodName := ⟨RX12, "byteOf", "(II)I"⟩
abbrev cX12_bytesOf : ByteArray := prog_14_method_62_code
def yX12_bytesOf : MethodName := ⟨RX12, "bytesOf", "(I)I"⟩
abbrev cX12_order : ByteArray := prog_14_method_63_code
def yX12_order : MethodName := ⟨RX12, "order", "()I"⟩
abbrev cX12_areEqual : ByteArray := prog_14_method_64_code
def yX12_areEqual : MethodName := ⟨RX12, "areEqual", "()Z"⟩
abbrev cX12_compare : ByteArray := prog_14_method_65_code
def yX12_compare : MethodName := ⟨RX12, "compare", "(I)I"⟩
abbrev cX12_logic : ByteArray := prog_14_method_66_code
def yX12_logic : MethodName := ⟨RX12, "logic", "(I)I"⟩
abbrev cX12_constant : ByteArray := prog_14_method_67_code
def yX12_constant : MethodName := ⟨RX12, "constant", "(I)I"⟩
abbrev cX12_make : ByteArray := prog_14_method_68_code
def yX12_make : MethodName := ⟨RX12, "make", "(I)I"⟩
abbrev cX12_access : ByteArray := prog_14_method_69_code
def yX12_access : MethodName := ⟨RX12, "access", "(I)I"⟩
abbrev cX12_length : ByteArray := prog_14_method_70_code
def yX12_length : MethodName := ⟨RX12, "length", "()I"⟩
abbrev cX12_isRow : ByteArray := prog_14_method_71_code
def yX12_isRow : MethodName := ⟨RX12, "isRow", "(I)Z"⟩
abbrev cX12_get : ByteArray := prog_14_method_72_code
def yX12_get : MethodName := ⟨RX12, "get", "()I"⟩
abbrev cX12_putIn : ByteArray := prog_14_method_73_code
def yX12_putIn : MethodName := ⟨RX12, "putIn", "()I"⟩
abbrev cX12_part : ByteArray := prog_14_method_74_code
def yX12_part : MethodName := ⟨RX12, "part", "()I"⟩
abbrev cX12_putPart : ByteArray := prog_14_method_75_code
def yX12_putPart : MethodName := ⟨RX12, "putPart", "()I"⟩
abbrev cX12_gather : ByteArray := prog_14_method_76_code
def yX12_gather : MethodName := ⟨RX12, "gather", "(I)I"⟩
abbrev cX12_load : ByteArray := prog_14_method_77_code
def yX12_load : MethodName := ⟨RX12, "load", "()I"⟩
abbrev cX12_store : ByteArray := prog_14_method_78_code
def yX12_store : MethodName := ⟨RX12, "store", "()I"⟩
abbrev cX12_close : ByteArray := prog_14_method_79_code
def yX12_close : MethodName := ⟨RX12, "close", "()I"⟩
abbrev cX12_closePairs : ByteArray := prog_14_method_80_code
def yX12_closePairs : MethodName := ⟨RX12, "closePairs", "()I"⟩
abbrev cX12_makePairs : ByteArray := prog_14_method_81_code
def yX12_makePairs : MethodName := ⟨RX12, "makePairs", "()I"⟩
abbrev cX12_onDictionaryStack : ByteArray := prog_14_method_82_code
def yX12_onDictionaryStack : MethodName := ⟨RX12, "onDictionaryStack", "(I)I"⟩
abbrev cX12_withKey : ByteArray := prog_14_method_83_code
def yX12_withKey : MethodName := ⟨RX12, "withKey", "(I)I"⟩
abbrev cX12_defineIn : ByteArray := prog_14_method_84_code
def yX12_defineIn : MethodName := ⟨RX12, "defineIn", "(I)I"⟩
abbrev cX12_loadKey : ByteArray := prog_14_method_85_code
def yX12_loadKey : MethodName := ⟨RX12, "loadKey", "(I)I"⟩
abbrev cX12_where : ByteArray := prog_14_method_86_code
def yX12_where : MethodName := ⟨RX12, "where", "(I)I"⟩
abbrev cX12_aboutDictionaries : ByteArray := prog_14_method_87_code
def yX12_aboutDictionaries : MethodName := ⟨RX12, "aboutDictionaries", "(I)I"⟩
abbrev cX12_control : ByteArray := prog_14_method_88_code
def yX12_control : MethodName := ⟨RX12, "control", "(I)I"⟩
abbrev cX12_exec : ByteArray := prog_14_method_89_code
def yX12_exec : MethodName := ⟨RX12, "exec", "()I"⟩
abbrev cX12_stopped : ByteArray := prog_14_method_90_code
def yX12_stopped : MethodName := ⟨RX12, "stopped", "()I"⟩
abbrev cX12_choose : ByteArray := prog_14_method_91_code
def yX12_choose : MethodName := ⟨RX12, "choose", "(Z)I"⟩
abbrev cX12_begin : ByteArray := prog_14_method_92_code
def yX12_begin : MethodName := ⟨RX12, "begin", "(II)V"⟩
abbrev cX12_startFor : ByteArray := prog_14_method_93_code
def yX12_startFor : MethodName := ⟨RX12, "startFor", "()I"⟩
abbrev cX12_startRepeat : ByteArray := prog_14_method_94_code
def yX12_startRepeat : MethodName := ⟨RX12, "startRepeat", "()I"⟩
abbrev cX12_startLoop : ByteArray := prog_14_method_95_code
def yX12_startLoop : MethodName := ⟨RX12, "startLoop", "()I"⟩
abbrev cX12_startForall : ByteArray := prog_14_method_96_code
def yX12_startForall : MethodName := ⟨RX12, "startForall", "()I"⟩
abbrev cX12_exit : ByteArray := prog_14_method_97_code
def yX12_exit : MethodName := ⟨RX12, "exit", "()I"⟩
abbrev cX12_tell : ByteArray := prog_14_method_98_code
def yX12_tell : MethodName := ⟨RX12, "tell", "(I)I"⟩
abbrev cX12_bindAll : ByteArray := prog_14_method_99_code
def yX12_bindAll : MethodName := ⟨RX12, "bindAll", "(II)V"⟩
abbrev cX12_isIn : ByteArray := prog_14_method_100_code
def yX12_isIn : MethodName := ⟨RX12, "isIn", "(III)Z"⟩
abbrev cX12_putOut : ByteArray := prog_14_method_101_code
def yX12_putOut : MethodName := ⟨RX12, "putOut", "(I)V"⟩
abbrev cX12_putNumber : ByteArray := prog_14_method_102_code
def yX12_putNumber : MethodName := ⟨RX12, "putNumber", "(I)V"⟩
abbrev cX12_putName : ByteArray := prog_14_method_103_code
def yX12_putName : MethodName := ⟨RX12, "putName", "(I)V"⟩
abbrev cX12_putNone : ByteArray := prog_14_method_104_code
def yX12_putNone : MethodName := ⟨RX12, "putNone", "()V"⟩
abbrev cX12_write : ByteArray := prog_14_method_105_code
def yX12_write : MethodName := ⟨RX12, "write", "(Z)I"⟩
abbrev cX12_round : ByteArray := prog_14_method_106_code
def yX12_round : MethodName := ⟨RX12, "round", "(II)V"⟩
abbrev cX12_keyAt : ByteArray := prog_14_method_107_code
def yX12_keyAt : MethodName := ⟨RX12, "keyAt", "(II)I"⟩
abbrev cX12_give : ByteArray := prog_14_method_108_code
def yX12_give : MethodName := ⟨RX12, "give", "(III)V"⟩
abbrev cX12_nextToken : ByteArray := prog_14_method_109_code
def yX12_nextToken : MethodName := ⟨RX12, "nextToken", "()V"⟩
abbrev cX12_nextValue : ByteArray := prog_14_method_110_code
def yX12_nextValue : MethodName := ⟨RX12, "nextValue", "(I)V"⟩
abbrev cX12_run : ByteArray := prog_14_method_111_code
def yX12_run : MethodName := ⟨RX12, "run", "(I)I"⟩
abbrev cX12_count : ByteArray := prog_14_method_112_code
def yX12_count : MethodName := ⟨RX12, "count", "(I)I"⟩
abbrev cX12_told : ByteArray := prog_14_method_113_code
def yX12_told : MethodName := ⟨RX12, "told", "([III)I"⟩
abbrev cX12_at : ByteArray := prog_14_method_114_code
def yX12_at : MethodName := ⟨RX12, "at", "(II)I"⟩
abbrev cX12_value : ByteArray := prog_14_method_115_code
def yX12_value : MethodName := ⟨RX12, "value", "(II)I"⟩
abbrev cX12_octet : ByteArray := prog_14_method_116_code
def yX12_octet : MethodName := ⟨RX12, "octet", "(I)I"⟩
abbrev cX12_dictionary : ByteArray := prog_14_method_117_code
def yX12_dictionary : MethodName := ⟨RX12, "dictionary", "(III)I"⟩
abbrev cX12_name : ByteArray := prog_14_method_118_code
def yX12_name : MethodName := ⟨RX12, "name", "(II)I"⟩
abbrev cX12_error : ByteArray := prog_14_method_119_code
def yX12_error : MethodName := ⟨RX12, "error", "(I)I"⟩
abbrev cX12_out : ByteArray := prog_14_method_120_code
def yX12_out : MethodName := ⟨RX12, "out", "(I)I"⟩
def RJ6 : String := "java/lang/Integer"
def TJ6 : u_T := fun k => match k with
  | _ => ("", "", "", false)
def tyJ6 : Nat → FieldType := fun k => match k with
  | _ => .int
abbrev wsJ60 : List Cond := u_ws RJ6 TJ6 0
theorem nmJ6 : ∀ a, a < 0 → ∀ b, b < 0 → a ≠ b → (TJ6 a).2.1 ≠ (TJ6 b).2.1 := by decide +kernel
theorem tyJ6_ok : ∀ k, k < 0 → parseFieldDescriptor (TJ6 k).2.2.1 = some (tyJ6 k) := by decide +kernel
abbrev cJ6_compare_7cf53 : ByteArray := prog_18_method_40_code
def yJ6_compare_7cf53 : MethodName := ⟨RJ6, "compare", "(II)I"⟩
def RJ9 : String := "java/lang/Math"
def TJ9 : u_T := fun k => match k with
  | _ => ("", "", "", false)
def tyJ9 : Nat → FieldType := fun k => match k with
  | _ => .int
abbrev wsJ90 : List Cond := u_ws RJ9 TJ9 0
theorem nmJ9 : ∀ a, a < 0 → ∀ b, b < 0 → a ≠ b → (TJ9 a).2.1 ≠ (TJ9 b).2.1 := by decide +kernel
theorem tyJ9_ok : ∀ k, k < 0 → parseFieldDescriptor (TJ9 k).2.2.1 = some (tyJ9 k) := by decide +kernel
abbrev cJ9_floorMod_7cf53 : ByteArray := prog_19_method_50_code
def yJ9_floorMod_7cf53 : MethodName := ⟨RJ9, "floorMod", "(II)I"⟩
def RJ0 : String := "java/lang/String"
def TJ0 : u_T := fun k => match k with
  | _ => ("", "", "", false)
def tyJ0 : Nat → FieldType := fun k => match k with
  | _ => .int
abbrev wsJ00 : List Cond := u_ws RJ0 TJ0 0
theorem nmJ0 : ∀ a, a < 0 → ∀ b, b < 0 → a ≠ b → (TJ0 a).2.1 ≠ (TJ0 b).2.1 := by decide +kernel
theorem tyJ0_ok : ∀ k, k < 0 → parseFieldDescriptor (TJ0 k).2.2.1 = some (tyJ0 k) := by decide +kernel
abbrev cJ0_length_8abf5 : ByteArray := prog_21_method_54_code
def yJ0_length_8abf5 : MethodName := ⟨RJ0, "length", "()I"⟩
abbrev cJ0_charAt_5068e : ByteArray := prog_21_method_56_code
def yJ0_charAt_5068e : MethodName := ⟨RJ0, "charAt", "(I)C"⟩
abbrev cJ0_coder_7d493 : ByteArray := prog_21_method_152_code
def yJ0_coder_7d493 : MethodName := ⟨RJ0, "coder", "()B"⟩
abbrev cJ0_isLatin1_aae02 : ByteArray := prog_21_method_154_code
def yJ0_isLatin1_aae02 : MethodName := ⟨RJ0, "isLatin1", "()Z"⟩
abbrev cJ0_checkIndex_df160 : ByteArray := prog_21_method_155_code
def yJ0_checkIndex_df160 : MethodName := ⟨RJ0, "checkIndex", "(II)V"⟩
def RJ1 : String := "java/lang/StringLatin1"
def TJ1 : u_T := fun k => match k with
  | _ => ("", "", "", false)
def tyJ1 : Nat → FieldType := fun k => match k with
  | _ => .int
abbrev wsJ10 : List Cond := u_ws RJ1 TJ1 0
theorem nmJ1 : ∀ a, a < 0 → ∀ b, b < 0 → a ≠ b → (TJ1 a).2.1 ≠ (TJ1 b).2.1 := by decide +kernel
theorem tyJ1_ok : ∀ k, k < 0 → parseFieldDescriptor (TJ1 k).2.2.1 = some (tyJ1 k) := by decide +kernel
abbrev cJ1_charAt_3b067 : ByteArray := prog_22_method_2_code
def yJ1_charAt_3b067 : MethodName := ⟨RJ1, "charAt", "([BI)C"⟩
def RJ2 : String := "java/lang/StringUTF16"
def TJ2 : u_T := fun k => match k with
  | _ => ("", "", "", false)
def tyJ2 : Nat → FieldType := fun k => match k with
  | _ => .int
abbrev wsJ20 : List Cond := u_ws RJ2 TJ2 0
theorem nmJ2 : ∀ a, a < 0 → ∀ b, b < 0 → a ≠ b → (TJ2 a).2.1 ≠ (TJ2 b).2.1 := by decide +kernel
theorem tyJ2_ok : ∀ k, k < 0 → parseFieldDescriptor (TJ2 k).2.2.1 = some (tyJ2 k) := by decide +kernel
abbrev cJ2_getChar_3b067 : ByteArray := prog_23_method_5_code
def yJ2_getChar_3b067 : MethodName := ⟨RJ2, "getChar", "([BI)C"⟩
abbrev cJ2_length_9d52b : ByteArray := prog_23_method_6_code
def yJ2_length_9d52b : MethodName := ⟨RJ2, "length", "([B)I"⟩
abbrev cJ2_charAt_3b067 : ByteArray := prog_23_method_83_code
def yJ2_charAt_3b067 : MethodName := ⟨RJ2, "charAt", "([BI)C"⟩
abbrev cJ2_checkIndex_2214a : ByteArray := prog_23_method_91_code
def yJ2_checkIndex_2214a : MethodName := ⟨RJ2, "checkIndex", "(I[B)V"⟩
def RJ3 : String := "jdk/internal/util/Preconditions"
def TJ3 : u_T := fun k => match k with
  | _ => ("", "", "", false)
def tyJ3 : Nat → FieldType := fun k => match k with
  | _ => .int
abbrev wsJ30 : List Cond := u_ws RJ3 TJ3 0
theorem nmJ3 : ∀ a, a < 0 → ∀ b, b < 0 → a ≠ b → (TJ3 a).2.1 ≠ (TJ3 b).2.1 := by decide +kernel
theorem tyJ3_ok : ∀ k, k < 0 → parseFieldDescriptor (TJ3 k).2.2.1 = some (tyJ3 k) := by decide +kernel
abbrev cJ3_checkIndex_8e157 : ByteArray := prog_25_method_11_code
def yJ3_checkIndex_8e157 : MethodName := ⟨RJ3, "checkIndex", "(IILjava/util/function/BiFunction;)I"⟩
def RL : String := "OperandStacksLaw"
abbrev cL_run : ByteArray := method_3_code
def yL_run : MethodName := ⟨RL, "run", "(LOperandStacks;I[J)I"⟩
abbrev cL_count : ByteArray := method_4_code
def yL_count : MethodName := ⟨RL, "count", "(LOperandStacks;I[J)I"⟩
abbrev cL_at : ByteArray := method_5_code
def yL_at : MethodName := ⟨RL, "at", "(LOperandStacks;II[J)I"⟩
abbrev cL_value : ByteArray := method_6_code
def yL_value : MethodName := ⟨RL, "value", "(LOperandStacks;II[J)I"⟩
abbrev cL_octet : ByteArray := method_7_code
def yL_octet : MethodName := ⟨RL, "octet", "(LOperandStacks;I[J)I"⟩
abbrev cL_dictionary : ByteArray := method_8_code
def yL_dictionary : MethodName := ⟨RL, "dictionary", "(LOperandStacks;III[J)I"⟩
abbrev cL_name : ByteArray := method_9_code
def yL_name : MethodName := ⟨RL, "name", "(LOperandStacks;II[J)I"⟩
abbrev cL_error : ByteArray := method_10_code
def yL_error : MethodName := ⟨RL, "error", "(LOperandStacks;I[J)I"⟩
abbrev cL_out : ByteArray := method_11_code
def yL_out : MethodName := ⟨RL, "out", "(LOperandStacks;I[J)I"⟩
abbrev cL_law : ByteArray := code
def yL_law : MethodName := ⟨RL, "law", "([I)Z"⟩
abbrev vwCl : List vw_C := [(RX0, TX0, 9), (RX1, TX1, 5), (RX2, TX2, 8), (RX3, TX3, 16), (RX4, TX4, 7), (RX5, TX5, 3), (RX6, TX6, 3), (RX7, TX7, 12), (RX8, TX8, 7), (RX9, TX9, 6), (RX11, TX11, 6), (RX12, TX12, 43)]
/-! the static arrays and String constants, by places from 1000000 on -/
def se_sig : List Int32 := [1, 17, 1, 2, 2, 34, 0, 0, 0, 0, 0, 0, 0, 34, 34, 34, 34, 34, 2, 2, 17, 17, 221, 221, 221, 221, 204, 204, 204, 12, 0, 0, 0, 2, 2, 11, 161, 2577, 2338, 2345, 5, 5, 0, 0, 2, 7, 0, 129, 8, 129, 120, 8, 120, 0, 0, 7, 1, 52, 836, 8740, 36, 4, 164, 0, 0, 1, 0, 4, 1, 1, 1, 1, 1, 6]
def se_tak : List Int32 := [0, 511, 2, 4, 32, 32, 64, 128, 86, 96, 224, 240, 6, 66]
def se_n : Nat := 18
def se_txt : List (List Int32) := [[112, 111, 112, 32, 101, 120, 99, 104, 32, 100, 117, 112, 32, 99, 111, 112, 121, 32, 105, 110, 100, 101, 120, 32, 114, 111, 108, 108, 32, 99, 108, 101, 97, 114, 32, 99, 111, 117, 110, 116, 32, 109, 97, 114, 107, 32, 91, 32, 60, 60, 32, 99, 108, 101, 97, 114, 116, 111, 109, 97, 114, 107, 32, 99, 111, 117, 110, 116, 116, 111, 109, 97, 114, 107, 32],
  [97, 100, 100, 32, 115, 117, 98, 32, 109, 117, 108, 32, 105, 100, 105, 118, 32, 109, 111, 100, 32, 110, 101, 103, 32, 97, 98, 115, 32, 101, 113, 32, 110, 101, 32, 108, 116, 32, 108, 101, 32, 103, 116, 32, 103, 101, 32, 97, 110, 100, 32, 111, 114, 32, 120, 111, 114, 32, 110, 111, 116, 32],
  [116, 114, 117, 101, 32, 102, 97, 108, 115, 101, 32, 110, 117, 108, 108, 32, 97, 114, 114, 97, 121, 32, 115, 116, 114, 105, 110, 103, 32, 108, 101, 110, 103, 116, 104, 32, 103, 101, 116, 32, 112, 117, 116, 32, 103, 101, 116, 105, 110, 116, 101, 114, 118, 97, 108, 32, 112, 117, 116, 105, 110, 116, 101, 114, 118, 97, 108, 32, 97, 108, 111, 97, 100, 32, 97, 115, 116, 111, 114, 101, 32],
  [93, 32, 62, 62, 32, 100, 105, 99, 116, 32, 98, 101, 103, 105, 110, 32, 101, 110, 100, 32, 100, 101, 102, 32, 108, 111, 97, 100, 32, 115, 116, 111, 114, 101, 32, 107, 110, 111, 119, 110, 32, 119, 104, 101, 114, 101, 32, 117, 110, 100, 101, 102, 32, 99, 117, 114, 114, 101, 110, 116, 100, 105, 99, 116, 32, 99, 111, 117, 110, 116, 100, 105, 99, 116, 115, 116, 97, 99, 107, 32],
  [109, 97, 120, 108, 101, 110, 103, 116, 104, 32, 101, 120, 101, 99, 32, 105, 102, 32, 105, 102, 101, 108, 115, 101, 32, 102, 111, 114, 32, 114, 101, 112, 101, 97, 116, 32, 108, 111, 111, 112, 32, 102, 111, 114, 97, 108, 108, 32, 101, 120, 105, 116, 32, 115, 116, 111, 112, 32, 115, 116, 111, 112, 112, 101, 100, 32, 113, 117, 105, 116, 32],
  [98, 105, 110, 100, 32, 99, 118, 120, 32, 99, 118, 108, 105, 116, 32, 120, 99, 104, 101, 99, 107, 32, 116, 121, 112, 101, 32, 61, 32, 112, 114, 105, 110, 116, 32, 110, 117, 108, 108, 116, 121, 112, 101, 32, 105, 110, 116, 101, 103, 101, 114, 116, 121, 112, 101, 32, 98, 111, 111, 108, 101, 97, 110, 116, 121, 112, 101, 32],
  [109, 97, 114, 107, 116, 121, 112, 101, 32, 110, 97, 109, 101, 116, 121, 112, 101, 32, 97, 114, 114, 97, 121, 116, 121, 112, 101, 32, 115, 116, 114, 105, 110, 103, 116, 121, 112, 101, 32, 100, 105, 99, 116, 116, 121, 112, 101, 32, 111, 112, 101, 114, 97, 116, 111, 114, 116, 121, 112, 101, 32],
  [45, 45, 110, 111, 115, 116, 114, 105, 110, 103, 118, 97, 108, 45, 45],
  [115, 116, 101, 112, 115, 32, 97, 114, 101, 32, 48, 32, 46, 46, 32, 49, 48, 48, 48],
  [110, 111, 32, 115, 117, 99, 104, 32, 99, 111, 117, 110, 116],
  [110, 111, 32, 115, 117, 99, 104, 32, 111, 112, 101, 114, 97, 110, 100],
  [119, 104, 97, 116, 32, 105, 115, 32, 48, 32, 46, 46, 32, 51],
  [110, 111, 32, 115, 117, 99, 104, 32, 118, 97, 108, 117, 101, 32, 111, 102, 32, 97, 110, 32, 97, 114, 114, 97, 121],
  [110, 111, 32, 115, 117, 99, 104, 32, 98, 121, 116, 101, 32, 111, 102, 32, 97, 32, 115, 116, 114, 105, 110, 103],
  [110, 111, 32, 115, 117, 99, 104, 32, 100, 105, 99, 116, 105, 111, 110, 97, 114, 121, 32, 111, 114, 32, 112, 97, 105, 114],
  [110, 111, 32, 115, 117, 99, 104, 32, 110, 97, 109, 101, 32, 111, 114, 32, 98, 121, 116, 101],
  [119, 104, 97, 116, 32, 105, 115, 32, 48, 32, 111, 114, 32, 49],
  [110, 111, 32, 115, 117, 99, 104, 32, 98, 121, 116, 101, 32, 111, 102, 32, 79, 85, 84]]
def se_str : List (String × Nat × String × Nat) := [("OperandStacks$Names", 24, "pop exch dup copy index roll clear count mark [ << cleartomark counttomark ", 0),
  ("OperandStacks$Names", 30, "add sub mul idiv mod neg abs eq ne lt le gt ge and or xor not ", 1),
  ("OperandStacks$Names", 32, "true false null array string length get put getinterval putinterval aload astore ", 2),
  ("OperandStacks$Names", 34, "] >> dict begin end def load store known where undef currentdict countdictstack ", 3),
  ("OperandStacks$Names", 36, "maxlength exec if ifelse for repeat loop forall exit stop stopped quit ", 4),
  ("OperandStacks$Names", 38, "bind cvx cvlit xcheck type = print nulltype integertype booleantype ", 5),
  ("OperandStacks$Names", 40, "marktype nametype arraytype stringtype dicttype operatortype ", 6),
  ("OperandStacks$PlainOperators", 191, "--nostringval--", 7),
  ("OperandStacks", 61, "steps are 0 .. 1000", 8),
  ("OperandStacks", 112, "no such count", 9),
  ("OperandStacks", 116, "no such operand", 10),
  ("OperandStacks", 119, "what is 0 .. 3", 11),
  ("OperandStacks", 131, "no such value of an array", 12),
  ("OperandStacks", 136, "no such byte of a string", 13),
  ("OperandStacks", 145, "no such dictionary or pair", 14),
  ("OperandStacks", 160, "no such name or byte", 15),
  ("OperandStacks", 166, "what is 0 or 1", 16),
  ("OperandStacks", 174, "no such byte of OUT", 17)]
/-- an array: its sort, what it holds -/
def se_arr (a : Nat) : Option (Nat × List Int32) := bif Nat.beq a 1000000 then some (0, se_sig) else bif Nat.beq a 1000001 then some (0, se_tak) else bif Nat.ble 1000200 a then (match se_txt[a - 1000200]? with
  | some L => some (2, L)
  | none => none) else none
/-- static fields that are read -/
def se_sf : Nat → Option (String × String × String × Value)
  | 0 => some ("OperandStacks$Machine", "SIGNATURES", "[I", .ref 1000000)
  | 1 => some ("OperandStacks$Machine", "TAKEN", "[I", .ref 1000001)
  | 2 => some ("java/lang/String", "COMPACT_STRINGS", "Z", .int 1)
  | _ => none
/-- links to a nest mate -/
def se_nest : List (String × Nat × MethodName × String) := [("OperandStacks", 18, ⟨"OperandStacks$Storage", "<init>", "()V"⟩, "OperandStacks"), ("OperandStacks", 32, ⟨"OperandStacks$Operands", "<init>", "()V"⟩, "OperandStacks"), ("OperandStacks$Machine", 29, ⟨"OperandStacks$Execution", "<init>", "()V"⟩, "OperandStacks")]
