section
-- ===== PART A: goes FIRST, ahead of the names: the tables' words, and 'selects' of the private methods out of them =====
/-- a private method of a class that the tables say can be made, by its rows of tables_1 -/
def lw_okq (q : MethodName × Nat) : Prop := (q.1.cls ≠ "java/lang/invoke/MethodHandle" ∧ q.1.cls ≠ "java/lang/invoke/VarHandle") ∧ Cond.instantiable q.1.cls q.2 ∈ tables_1 ∧ Cond.privateMethod q.1 ∈ tables_1 ∧ Cond.instanceMethod q.1 ∈ tables_1
theorem lw_p0 : lw_okq (⟨"GraphQuery$Text", "charAt", "(I)C"⟩, 2) := ⟨⟨by decide +kernel, by decide +kernel⟩, List.mem_of_getElem? (i := 59) (by decide +kernel), List.mem_of_getElem? (i := 225) (by decide +kernel), List.mem_of_getElem? (i := 226) (by decide +kernel)⟩
theorem lw_p1 : lw_okq (⟨"GraphQuery$Text", "rowKind", "(II)I"⟩, 2) := ⟨⟨by decide +kernel, by decide +kernel⟩, List.mem_of_getElem? (i := 59) (by decide +kernel), List.mem_of_getElem? (i := 238) (by decide +kernel), List.mem_of_getElem? (i := 239) (by decide +kernel)⟩
theorem lw_p2 : lw_okq (⟨"GraphQuery$Text", "wordKind", "(II)I"⟩, 2) := ⟨⟨by decide +kernel, by decide +kernel⟩, List.mem_of_getElem? (i := 59) (by decide +kernel), List.mem_of_getElem? (i := 242) (by decide +kernel), List.mem_of_getElem? (i := 243) (by decide +kernel)⟩
theorem lw_p3 : lw_okq (⟨"GraphQuery$Text", "spells", "(Ljava/lang/String;II)Z"⟩, 2) := ⟨⟨by decide +kernel, by decide +kernel⟩, List.mem_of_getElem? (i := 59) (by decide +kernel), List.mem_of_getElem? (i := 247) (by decide +kernel), List.mem_of_getElem? (i := 248) (by decide +kernel)⟩
theorem lw_p4 : lw_okq (⟨"GraphQuery$Text", "rowValue", "(III)I"⟩, 2) := ⟨⟨by decide +kernel, by decide +kernel⟩, List.mem_of_getElem? (i := 59) (by decide +kernel), List.mem_of_getElem? (i := 307) (by decide +kernel), List.mem_of_getElem? (i := 308) (by decide +kernel)⟩
theorem lw_p5 : lw_okq (⟨"GraphQuery$Parser", "sum", "(I)Z"⟩, 5) := ⟨⟨by decide +kernel, by decide +kernel⟩, List.mem_of_getElem? (i := 73) (by decide +kernel), List.mem_of_getElem? (i := 322) (by decide +kernel), List.mem_of_getElem? (i := 323) (by decide +kernel)⟩
theorem lw_p6 : lw_okq (⟨"GraphQuery$Parser", "term", "(I)Z"⟩, 5) := ⟨⟨by decide +kernel, by decide +kernel⟩, List.mem_of_getElem? (i := 73) (by decide +kernel), List.mem_of_getElem? (i := 326) (by decide +kernel), List.mem_of_getElem? (i := 327) (by decide +kernel)⟩
theorem lw_p7 : lw_okq (⟨"GraphQuery$Parser", "emit", "(II)V"⟩, 5) := ⟨⟨by decide +kernel, by decide +kernel⟩, List.mem_of_getElem? (i := 73) (by decide +kernel), List.mem_of_getElem? (i := 338) (by decide +kernel), List.mem_of_getElem? (i := 339) (by decide +kernel)⟩
theorem lw_p8 : lw_okq (⟨"GraphQuery$Parser", "letterTerm", "()Z"⟩, 5) := ⟨⟨by decide +kernel, by decide +kernel⟩, List.mem_of_getElem? (i := 73) (by decide +kernel), List.mem_of_getElem? (i := 347) (by decide +kernel), List.mem_of_getElem? (i := 348) (by decide +kernel)⟩
theorem lw_p9 : lw_okq (⟨"GraphQuery$Parser", "slotOf", "(I)I"⟩, 5) := ⟨⟨by decide +kernel, by decide +kernel⟩, List.mem_of_getElem? (i := 73) (by decide +kernel), List.mem_of_getElem? (i := 351) (by decide +kernel), List.mem_of_getElem? (i := 352) (by decide +kernel)⟩
theorem lw_p10 : lw_okq (⟨"GraphQuery$Parser", "take", "(I)Z"⟩, 5) := ⟨⟨by decide +kernel, by decide +kernel⟩, List.mem_of_getElem? (i := 73) (by decide +kernel), List.mem_of_getElem? (i := 355) (by decide +kernel), List.mem_of_getElem? (i := 356) (by decide +kernel)⟩
theorem lw_p11 : lw_okq (⟨"GraphQuery$Parser", "roundsTerm", "(II)Z"⟩, 5) := ⟨⟨by decide +kernel, by decide +kernel⟩, List.mem_of_getElem? (i := 73) (by decide +kernel), List.mem_of_getElem? (i := 359) (by decide +kernel), List.mem_of_getElem? (i := 360) (by decide +kernel)⟩
theorem lw_p12 : lw_okq (⟨"GraphQuery$Parser", "plainTerm", "(II)Z"⟩, 5) := ⟨⟨by decide +kernel, by decide +kernel⟩, List.mem_of_getElem? (i := 73) (by decide +kernel), List.mem_of_getElem? (i := 363) (by decide +kernel), List.mem_of_getElem? (i := 364) (by decide +kernel)⟩
theorem lw_p13 : lw_okq (⟨"GraphQuery$Parser", "wayTerm", "(I)Z"⟩, 5) := ⟨⟨by decide +kernel, by decide +kernel⟩, List.mem_of_getElem? (i := 73) (by decide +kernel), List.mem_of_getElem? (i := 367) (by decide +kernel), List.mem_of_getElem? (i := 368) (by decide +kernel)⟩
theorem lw_p14 : lw_okq (⟨"GraphQuery$Parser", "kindTerm", "(I)Z"⟩, 5) := ⟨⟨by decide +kernel, by decide +kernel⟩, List.mem_of_getElem? (i := 73) (by decide +kernel), List.mem_of_getElem? (i := 371) (by decide +kernel), List.mem_of_getElem? (i := 372) (by decide +kernel)⟩
theorem lw_p15 : lw_okq (⟨"GraphQuery$Parser", "letTerm", "(I)Z"⟩, 5) := ⟨⟨by decide +kernel, by decide +kernel⟩, List.mem_of_getElem? (i := 73) (by decide +kernel), List.mem_of_getElem? (i := 375) (by decide +kernel), List.mem_of_getElem? (i := 376) (by decide +kernel)⟩
def lw_privs_1 : List (MethodName × Nat) := [(⟨"GraphQuery$Text", "charAt", "(I)C"⟩, 2), (⟨"GraphQuery$Text", "rowKind", "(II)I"⟩, 2), (⟨"GraphQuery$Text", "wordKind", "(II)I"⟩, 2), (⟨"GraphQuery$Text", "spells", "(Ljava/lang/String;II)Z"⟩, 2), (⟨"GraphQuery$Text", "rowValue", "(III)I"⟩, 2), (⟨"GraphQuery$Parser", "sum", "(I)Z"⟩, 5), (⟨"GraphQuery$Parser", "term", "(I)Z"⟩, 5), (⟨"GraphQuery$Parser", "emit", "(II)V"⟩, 5), (⟨"GraphQuery$Parser", "letterTerm", "()Z"⟩, 5), (⟨"GraphQuery$Parser", "slotOf", "(I)I"⟩, 5), (⟨"GraphQuery$Parser", "take", "(I)Z"⟩, 5), (⟨"GraphQuery$Parser", "roundsTerm", "(II)Z"⟩, 5), (⟨"GraphQuery$Parser", "plainTerm", "(II)Z"⟩, 5), (⟨"GraphQuery$Parser", "wayTerm", "(I)Z"⟩, 5), (⟨"GraphQuery$Parser", "kindTerm", "(I)Z"⟩, 5), (⟨"GraphQuery$Parser", "letTerm", "(I)Z"⟩, 5)]
theorem lw_r1 : ∀ q ∈ lw_privs_1, lw_okq q := List.forall_mem_cons.mpr ⟨lw_p0, List.forall_mem_cons.mpr ⟨lw_p1, List.forall_mem_cons.mpr ⟨lw_p2, List.forall_mem_cons.mpr ⟨lw_p3, List.forall_mem_cons.mpr ⟨lw_p4, List.forall_mem_cons.mpr ⟨lw_p5, List.forall_mem_cons.mpr ⟨lw_p6, List.forall_mem_cons.mpr ⟨lw_p7, List.forall_mem_cons.mpr ⟨lw_p8, List.forall_mem_cons.mpr ⟨lw_p9, List.forall_mem_cons.mpr ⟨lw_p10, List.forall_mem_cons.mpr ⟨lw_p11, List.forall_mem_cons.mpr ⟨lw_p12, List.forall_mem_cons.mpr ⟨lw_p13, List.forall_mem_cons.mpr ⟨lw_p14, List.forall_mem_cons.mpr ⟨lw_p15, fun _ h => absurd h List.not_mem_nil⟩⟩⟩⟩⟩⟩⟩⟩⟩⟩⟩⟩⟩⟩⟩⟩
theorem lw_p16 : lw_okq (⟨"GraphQuery$Parser", "setSlot", "(II)V"⟩, 5) := ⟨⟨by decide +kernel, by decide +kernel⟩, List.mem_of_getElem? (i := 73) (by decide +kernel), List.mem_of_getElem? (i := 379) (by decide +kernel), List.mem_of_getElem? (i := 380) (by decide +kernel)⟩
theorem lw_p17 : lw_okq (⟨"GraphQuery", "firstUnknown", "(LGraphQuery$Tape;)I"⟩, 7) := ⟨⟨by decide +kernel, by decide +kernel⟩, List.mem_of_getElem? (i := 16) (by decide +kernel), List.mem_of_getElem? (i := 396) (by decide +kernel), List.mem_of_getElem? (i := 397) (by decide +kernel)⟩
theorem lw_p18 : lw_okq (⟨"GraphQuery$Runner", "pop", "()LGraphQuery$Row;"⟩, 3) := ⟨⟨by decide +kernel, by decide +kernel⟩, List.mem_of_getElem? (i := 114) (by decide +kernel), List.mem_of_getElem? (i := 427) (by decide +kernel), List.mem_of_getElem? (i := 428) (by decide +kernel)⟩
theorem lw_p19 : lw_okq (⟨"GraphQuery$Runner", "makeOfTwo", "(ILGraphQuery$Graph;)V"⟩, 3) := ⟨⟨by decide +kernel, by decide +kernel⟩, List.mem_of_getElem? (i := 114) (by decide +kernel), List.mem_of_getElem? (i := 457) (by decide +kernel), List.mem_of_getElem? (i := 458) (by decide +kernel)⟩
theorem lw_p20 : lw_okq (⟨"GraphQuery$Graph", "noteNeedsOf", "(ILGraphQuery$Row;)V"⟩, 9) := ⟨⟨by decide +kernel, by decide +kernel⟩, List.mem_of_getElem? (i := 24) (by decide +kernel), List.mem_of_getElem? (i := 484) (by decide +kernel), List.mem_of_getElem? (i := 485) (by decide +kernel)⟩
theorem lw_p21 : lw_okq (⟨"GraphQuery$Runner", "make", "(IILGraphQuery$Graph;)V"⟩, 3) := ⟨⟨by decide +kernel, by decide +kernel⟩, List.mem_of_getElem? (i := 114) (by decide +kernel), List.mem_of_getElem? (i := 495) (by decide +kernel), List.mem_of_getElem? (i := 496) (by decide +kernel)⟩
theorem lw_p22 : lw_okq (⟨"GraphQuery$Runner", "push", "()LGraphQuery$Row;"⟩, 3) := ⟨⟨by decide +kernel, by decide +kernel⟩, List.mem_of_getElem? (i := 114) (by decide +kernel), List.mem_of_getElem? (i := 499) (by decide +kernel), List.mem_of_getElem? (i := 500) (by decide +kernel)⟩
theorem lw_p23 : lw_okq (⟨"GraphQuery$Graph", "addNeedsOf", "(ILGraphQuery$Row;)V"⟩, 9) := ⟨⟨by decide +kernel, by decide +kernel⟩, List.mem_of_getElem? (i := 24) (by decide +kernel), List.mem_of_getElem? (i := 514) (by decide +kernel), List.mem_of_getElem? (i := 515) (by decide +kernel)⟩
theorem lw_p24 : lw_okq (⟨"GraphQuery$Graph", "usersOf", "(I)I"⟩, 9) := ⟨⟨by decide +kernel, by decide +kernel⟩, List.mem_of_getElem? (i := 24) (by decide +kernel), List.mem_of_getElem? (i := 522) (by decide +kernel), List.mem_of_getElem? (i := 523) (by decide +kernel)⟩
theorem lw_p25 : lw_okq (⟨"GraphQuery$Graph", "ofKind", "(I)I"⟩, 9) := ⟨⟨by decide +kernel, by decide +kernel⟩, List.mem_of_getElem? (i := 24) (by decide +kernel), List.mem_of_getElem? (i := 534) (by decide +kernel), List.mem_of_getElem? (i := 535) (by decide +kernel)⟩
theorem lw_p26 : lw_okq (⟨"GraphQuery$Graph", "joined", "([II)I"⟩, 9) := ⟨⟨by decide +kernel, by decide +kernel⟩, List.mem_of_getElem? (i := 24) (by decide +kernel), List.mem_of_getElem? (i := 544) (by decide +kernel), List.mem_of_getElem? (i := 545) (by decide +kernel)⟩
theorem lw_p27 : lw_okq (⟨"GraphQuery$Graph", "packOf", "(I)I"⟩, 9) := ⟨⟨by decide +kernel, by decide +kernel⟩, List.mem_of_getElem? (i := 24) (by decide +kernel), List.mem_of_getElem? (i := 552) (by decide +kernel), List.mem_of_getElem? (i := 553) (by decide +kernel)⟩
theorem lw_p28 : lw_okq (⟨"GraphQuery$Graph", "closest", "(IIII)I"⟩, 9) := ⟨⟨by decide +kernel, by decide +kernel⟩, List.mem_of_getElem? (i := 24) (by decide +kernel), List.mem_of_getElem? (i := 574) (by decide +kernel), List.mem_of_getElem? (i := 575) (by decide +kernel)⟩
theorem lw_p29 : lw_okq (⟨"GraphQuery$Graph", "waysOn", "(IIII)I"⟩, 9) := ⟨⟨by decide +kernel, by decide +kernel⟩, List.mem_of_getElem? (i := 24) (by decide +kernel), List.mem_of_getElem? (i := 598) (by decide +kernel), List.mem_of_getElem? (i := 599) (by decide +kernel)⟩
theorem lw_p30 : lw_okq (⟨"GraphQueryModel", "find", "(II)I"⟩, 39) := ⟨⟨by decide +kernel, by decide +kernel⟩, List.mem_of_getElem? (i := 612) (by decide +kernel), List.mem_of_getElem? (i := 740) (by decide +kernel), List.mem_of_getElem? (i := 741) (by decide +kernel)⟩
theorem lw_p31 : lw_okq (⟨"GraphQueryModel", "isTarget", "(I)Z"⟩, 39) := ⟨⟨by decide +kernel, by decide +kernel⟩, List.mem_of_getElem? (i := 612) (by decide +kernel), List.mem_of_getElem? (i := 748) (by decide +kernel), List.mem_of_getElem? (i := 749) (by decide +kernel)⟩
def lw_privs_2 : List (MethodName × Nat) := [(⟨"GraphQuery$Parser", "setSlot", "(II)V"⟩, 5), (⟨"GraphQuery", "firstUnknown", "(LGraphQuery$Tape;)I"⟩, 7), (⟨"GraphQuery$Runner", "pop", "()LGraphQuery$Row;"⟩, 3), (⟨"GraphQuery$Runner", "makeOfTwo", "(ILGraphQuery$Graph;)V"⟩, 3), (⟨"GraphQuery$Graph", "noteNeedsOf", "(ILGraphQuery$Row;)V"⟩, 9), (⟨"GraphQuery$Runner", "make", "(IILGraphQuery$Graph;)V"⟩, 3), (⟨"GraphQuery$Runner", "push", "()LGraphQuery$Row;"⟩, 3), (⟨"GraphQuery$Graph", "addNeedsOf", "(ILGraphQuery$Row;)V"⟩, 9), (⟨"GraphQuery$Graph", "usersOf", "(I)I"⟩, 9), (⟨"GraphQuery$Graph", "ofKind", "(I)I"⟩, 9), (⟨"GraphQuery$Graph", "joined", "([II)I"⟩, 9), (⟨"GraphQuery$Graph", "packOf", "(I)I"⟩, 9), (⟨"GraphQuery$Graph", "closest", "(IIII)I"⟩, 9), (⟨"GraphQuery$Graph", "waysOn", "(IIII)I"⟩, 9), (⟨"GraphQueryModel", "find", "(II)I"⟩, 39), (⟨"GraphQueryModel", "isTarget", "(I)Z"⟩, 39)]
theorem lw_r2 : ∀ q ∈ lw_privs_2, lw_okq q := List.forall_mem_cons.mpr ⟨lw_p16, List.forall_mem_cons.mpr ⟨lw_p17, List.forall_mem_cons.mpr ⟨lw_p18, List.forall_mem_cons.mpr ⟨lw_p19, List.forall_mem_cons.mpr ⟨lw_p20, List.forall_mem_cons.mpr ⟨lw_p21, List.forall_mem_cons.mpr ⟨lw_p22, List.forall_mem_cons.mpr ⟨lw_p23, List.forall_mem_cons.mpr ⟨lw_p24, List.forall_mem_cons.mpr ⟨lw_p25, List.forall_mem_cons.mpr ⟨lw_p26, List.forall_mem_cons.mpr ⟨lw_p27, List.forall_mem_cons.mpr ⟨lw_p28, List.forall_mem_cons.mpr ⟨lw_p29, List.forall_mem_cons.mpr ⟨lw_p30, List.forall_mem_cons.mpr ⟨lw_p31, fun _ h => absurd h List.not_mem_nil⟩⟩⟩⟩⟩⟩⟩⟩⟩⟩⟩⟩⟩⟩⟩⟩
theorem lw_p32 : lw_okq (⟨"GraphQueryModel", "isNeed", "(II)Z"⟩, 39) := ⟨⟨by decide +kernel, by decide +kernel⟩, List.mem_of_getElem? (i := 612) (by decide +kernel), List.mem_of_getElem? (i := 752) (by decide +kernel), List.mem_of_getElem? (i := 753) (by decide +kernel)⟩
theorem lw_p33 : lw_okq (⟨"GraphQueryModel", "read", "()V"⟩, 39) := ⟨⟨by decide +kernel, by decide +kernel⟩, List.mem_of_getElem? (i := 612) (by decide +kernel), List.mem_of_getElem? (i := 768) (by decide +kernel), List.mem_of_getElem? (i := 769) (by decide +kernel)⟩
theorem lw_p34 : lw_okq (⟨"GraphQueryModel", "next", "()V"⟩, 39) := ⟨⟨by decide +kernel, by decide +kernel⟩, List.mem_of_getElem? (i := 612) (by decide +kernel), List.mem_of_getElem? (i := 772) (by decide +kernel), List.mem_of_getElem? (i := 773) (by decide +kernel)⟩
theorem lw_p35 : lw_okq (⟨"GraphQueryModel", "wordToken", "()I"⟩, 39) := ⟨⟨by decide +kernel, by decide +kernel⟩, List.mem_of_getElem? (i := 612) (by decide +kernel), List.mem_of_getElem? (i := 785) (by decide +kernel), List.mem_of_getElem? (i := 786) (by decide +kernel)⟩
theorem lw_p36 : lw_okq (⟨"GraphQueryModel", "wants", "(III)V"⟩, 39) := ⟨⟨by decide +kernel, by decide +kernel⟩, List.mem_of_getElem? (i := 612) (by decide +kernel), List.mem_of_getElem? (i := 798) (by decide +kernel), List.mem_of_getElem? (i := 799) (by decide +kernel)⟩
theorem lw_p37 : lw_okq (⟨"GraphQueryModel", "come", "(III)V"⟩, 39) := ⟨⟨by decide +kernel, by decide +kernel⟩, List.mem_of_getElem? (i := 612) (by decide +kernel), List.mem_of_getElem? (i := 802) (by decide +kernel), List.mem_of_getElem? (i := 803) (by decide +kernel)⟩
theorem lw_p38 : lw_okq (⟨"GraphQueryModel", "term", "(I)V"⟩, 39) := ⟨⟨by decide +kernel, by decide +kernel⟩, List.mem_of_getElem? (i := 612) (by decide +kernel), List.mem_of_getElem? (i := 806) (by decide +kernel), List.mem_of_getElem? (i := 807) (by decide +kernel)⟩
theorem lw_p39 : lw_okq (⟨"GraphQueryModel", "fail", "()V"⟩, 39) := ⟨⟨by decide +kernel, by decide +kernel⟩, List.mem_of_getElem? (i := 612) (by decide +kernel), List.mem_of_getElem? (i := 810) (by decide +kernel), List.mem_of_getElem? (i := 811) (by decide +kernel)⟩
theorem lw_p40 : lw_okq (⟨"GraphQueryModel", "write", "(III)V"⟩, 39) := ⟨⟨by decide +kernel, by decide +kernel⟩, List.mem_of_getElem? (i := 612) (by decide +kernel), List.mem_of_getElem? (i := 814) (by decide +kernel), List.mem_of_getElem? (i := 815) (by decide +kernel)⟩
theorem lw_p41 : lw_okq (⟨"GraphQueryModel", "take", "(I)V"⟩, 39) := ⟨⟨by decide +kernel, by decide +kernel⟩, List.mem_of_getElem? (i := 612) (by decide +kernel), List.mem_of_getElem? (i := 818) (by decide +kernel), List.mem_of_getElem? (i := 819) (by decide +kernel)⟩
theorem lw_p42 : lw_okq (⟨"GraphQueryModel", "others", "(II)V"⟩, 39) := ⟨⟨by decide +kernel, by decide +kernel⟩, List.mem_of_getElem? (i := 612) (by decide +kernel), List.mem_of_getElem? (i := 822) (by decide +kernel), List.mem_of_getElem? (i := 823) (by decide +kernel)⟩
theorem lw_p43 : lw_okq (⟨"GraphQueryModel", "does", "(II)V"⟩, 39) := ⟨⟨by decide +kernel, by decide +kernel⟩, List.mem_of_getElem? (i := 612) (by decide +kernel), List.mem_of_getElem? (i := 826) (by decide +kernel), List.mem_of_getElem? (i := 827) (by decide +kernel)⟩
theorem lw_p44 : lw_okq (⟨"GraphQueryModel", "make", "(II)V"⟩, 39) := ⟨⟨by decide +kernel, by decide +kernel⟩, List.mem_of_getElem? (i := 612) (by decide +kernel), List.mem_of_getElem? (i := 830) (by decide +kernel), List.mem_of_getElem? (i := 831) (by decide +kernel)⟩
theorem lw_p45 : lw_okq (⟨"GraphQueryModel", "begin", "()V"⟩, 39) := ⟨⟨by decide +kernel, by decide +kernel⟩, List.mem_of_getElem? (i := 612) (by decide +kernel), List.mem_of_getElem? (i := 834) (by decide +kernel), List.mem_of_getElem? (i := 835) (by decide +kernel)⟩
theorem lw_p46 : lw_okq (⟨"GraphQueryModel", "add", "(I)V"⟩, 39) := ⟨⟨by decide +kernel, by decide +kernel⟩, List.mem_of_getElem? (i := 612) (by decide +kernel), List.mem_of_getElem? (i := 838) (by decide +kernel), List.mem_of_getElem? (i := 839) (by decide +kernel)⟩
theorem lw_p47 : lw_okq (⟨"GraphQueryModel", "recall", "(I)V"⟩, 39) := ⟨⟨by decide +kernel, by decide +kernel⟩, List.mem_of_getElem? (i := 612) (by decide +kernel), List.mem_of_getElem? (i := 842) (by decide +kernel), List.mem_of_getElem? (i := 843) (by decide +kernel)⟩
def lw_privs_3 : List (MethodName × Nat) := [(⟨"GraphQueryModel", "isNeed", "(II)Z"⟩, 39), (⟨"GraphQueryModel", "read", "()V"⟩, 39), (⟨"GraphQueryModel", "next", "()V"⟩, 39), (⟨"GraphQueryModel", "wordToken", "()I"⟩, 39), (⟨"GraphQueryModel", "wants", "(III)V"⟩, 39), (⟨"GraphQueryModel", "come", "(III)V"⟩, 39), (⟨"GraphQueryModel", "term", "(I)V"⟩, 39), (⟨"GraphQueryModel", "fail", "()V"⟩, 39), (⟨"GraphQueryModel", "write", "(III)V"⟩, 39), (⟨"GraphQueryModel", "take", "(I)V"⟩, 39), (⟨"GraphQueryModel", "others", "(II)V"⟩, 39), (⟨"GraphQueryModel", "does", "(II)V"⟩, 39), (⟨"GraphQueryModel", "make", "(II)V"⟩, 39), (⟨"GraphQueryModel", "begin", "()V"⟩, 39), (⟨"GraphQueryModel", "add", "(I)V"⟩, 39), (⟨"GraphQueryModel", "recall", "(I)V"⟩, 39)]
theorem lw_r3 : ∀ q ∈ lw_privs_3, lw_okq q := List.forall_mem_cons.mpr ⟨lw_p32, List.forall_mem_cons.mpr ⟨lw_p33, List.forall_mem_cons.mpr ⟨lw_p34, List.forall_mem_cons.mpr ⟨lw_p35, List.forall_mem_cons.mpr ⟨lw_p36, List.forall_mem_cons.mpr ⟨lw_p37, List.forall_mem_cons.mpr ⟨lw_p38, List.forall_mem_cons.mpr ⟨lw_p39, List.forall_mem_cons.mpr ⟨lw_p40, List.forall_mem_cons.mpr ⟨lw_p41, List.forall_mem_cons.mpr ⟨lw_p42, List.forall_mem_cons.mpr ⟨lw_p43, List.forall_mem_cons.mpr ⟨lw_p44, List.forall_mem_cons.mpr ⟨lw_p45, List.forall_mem_cons.mpr ⟨lw_p46, List.forall_mem_cons.mpr ⟨lw_p47, fun _ h => absurd h List.not_mem_nil⟩⟩⟩⟩⟩⟩⟩⟩⟩⟩⟩⟩⟩⟩⟩⟩
theorem lw_p48 : lw_okq (⟨"GraphQueryModel", "join", "(I)V"⟩, 39) := ⟨⟨by decide +kernel, by decide +kernel⟩, List.mem_of_getElem? (i := 612) (by decide +kernel), List.mem_of_getElem? (i := 846) (by decide +kernel), List.mem_of_getElem? (i := 847) (by decide +kernel)⟩
theorem lw_p49 : lw_okq (⟨"GraphQueryModel", "isIn", "(III)Z"⟩, 39) := ⟨⟨by decide +kernel, by decide +kernel⟩, List.mem_of_getElem? (i := 612) (by decide +kernel), List.mem_of_getElem? (i := 850) (by decide +kernel), List.mem_of_getElem? (i := 851) (by decide +kernel)⟩
theorem lw_p50 : lw_okq (⟨"GraphQueryModel", "replace", "(I)V"⟩, 39) := ⟨⟨by decide +kernel, by decide +kernel⟩, List.mem_of_getElem? (i := 612) (by decide +kernel), List.mem_of_getElem? (i := 854) (by decide +kernel), List.mem_of_getElem? (i := 855) (by decide +kernel)⟩
theorem lw_p51 : lw_okq (⟨"GraphQueryModel", "reach", "(ZI)V"⟩, 39) := ⟨⟨by decide +kernel, by decide +kernel⟩, List.mem_of_getElem? (i := 612) (by decide +kernel), List.mem_of_getElem? (i := 858) (by decide +kernel), List.mem_of_getElem? (i := 859) (by decide +kernel)⟩
theorem lw_p52 : lw_okq (⟨"GraphQueryModel", "has", "(II)Z"⟩, 39) := ⟨⟨by decide +kernel, by decide +kernel⟩, List.mem_of_getElem? (i := 612) (by decide +kernel), List.mem_of_getElem? (i := 862) (by decide +kernel), List.mem_of_getElem? (i := 863) (by decide +kernel)⟩
theorem lw_p53 : lw_okq (⟨"GraphQueryModel", "findWay", "()V"⟩, 39) := ⟨⟨by decide +kernel, by decide +kernel⟩, List.mem_of_getElem? (i := 612) (by decide +kernel), List.mem_of_getElem? (i := 866) (by decide +kernel), List.mem_of_getElem? (i := 867) (by decide +kernel)⟩
theorem lw_p54 : lw_okq (⟨"GraphQueryModel", "bind", "(I)V"⟩, 39) := ⟨⟨by decide +kernel, by decide +kernel⟩, List.mem_of_getElem? (i := 612) (by decide +kernel), List.mem_of_getElem? (i := 870) (by decide +kernel), List.mem_of_getElem? (i := 871) (by decide +kernel)⟩
theorem lw_p55 : lw_okq (⟨"GraphQueryModel", "filter", "(II)V"⟩, 39) := ⟨⟨by decide +kernel, by decide +kernel⟩, List.mem_of_getElem? (i := 612) (by decide +kernel), List.mem_of_getElem? (i := 874) (by decide +kernel), List.mem_of_getElem? (i := 875) (by decide +kernel)⟩
def lw_privs_4 : List (MethodName × Nat) := [(⟨"GraphQueryModel", "join", "(I)V"⟩, 39), (⟨"GraphQueryModel", "isIn", "(III)Z"⟩, 39), (⟨"GraphQueryModel", "replace", "(I)V"⟩, 39), (⟨"GraphQueryModel", "reach", "(ZI)V"⟩, 39), (⟨"GraphQueryModel", "has", "(II)Z"⟩, 39), (⟨"GraphQueryModel", "findWay", "()V"⟩, 39), (⟨"GraphQueryModel", "bind", "(I)V"⟩, 39), (⟨"GraphQueryModel", "filter", "(II)V"⟩, 39)]
theorem lw_r4 : ∀ q ∈ lw_privs_4, lw_okq q := List.forall_mem_cons.mpr ⟨lw_p48, List.forall_mem_cons.mpr ⟨lw_p49, List.forall_mem_cons.mpr ⟨lw_p50, List.forall_mem_cons.mpr ⟨lw_p51, List.forall_mem_cons.mpr ⟨lw_p52, List.forall_mem_cons.mpr ⟨lw_p53, List.forall_mem_cons.mpr ⟨lw_p54, List.forall_mem_cons.mpr ⟨lw_p55, fun _ h => absurd h List.not_mem_nil⟩⟩⟩⟩⟩⟩⟩⟩
def lw_privs : List (MethodName × Nat) := lw_privs_1 ++ (lw_privs_2 ++ (lw_privs_3 ++ (lw_privs_4)))
def lw_tbl : List Cond := k2_sels lw_privs ++ tables_1
theorem lw_privs_ok : ∀ q ∈ lw_privs, lw_okq q := by
  show ∀ q ∈ lw_privs_1 ++ (lw_privs_2 ++ (lw_privs_3 ++ (lw_privs_4))), lw_okq q
  exact List.forall_mem_append.mpr ⟨lw_r1, List.forall_mem_append.mpr ⟨lw_r2, List.forall_mem_append.mpr ⟨lw_r3, lw_r4⟩⟩⟩
end
section
-- ===== 01.b: names of classes, fields, methods (printed by gen/names.py) =====
/-- the words that a call may carry on -/
def xT : List Cond := lw_tbl.filter goodWord
theorem xT_in {w : Cond} (h : w ∈ tables_1) (hg : goodWord w = true) : w ∈ xT := List.mem_filter.mpr ⟨List.mem_append_right _ h, hg⟩
theorem xT_sel {q : MethodName × Nat} (h : q ∈ lw_privs) (hg : goodWord (Cond.selects q.1.cls q.1 q.1) = true) : Cond.selects q.1.cls q.1 q.1 ∈ xT := List.mem_filter.mpr ⟨List.mem_append_left _ (List.mem_map.mpr ⟨q, h, rfl⟩), hg⟩
theorem xT_good : ∀ w ∈ xT, goodWord w = true := fun _ h => (List.mem_filter.mp h).2
def rnG : String := "GraphQuery$Graph"
def tbG : u_T := fun k => match k with
  | 0 => ("GraphQuery$Graph", "names", "[I", true)
  | 1 => ("GraphQuery$Graph", "kinds", "[I", true)
  | 2 => ("GraphQuery$Graph", "numbers", "[I", true)
  | 3 => ("GraphQuery$Graph", "needRows", "[I", true)
  | 4 => ("GraphQuery$Graph", "needCounts", "[I", true)
  | 5 => ("GraphQuery$Graph", "needMasks", "[I", true)
  | 6 => ("GraphQuery$Graph", "userMasks", "[I", true)
  | 7 => ("GraphQuery$Graph", "cameBy", "[I", true)
  | _ => ("GraphQuery$Graph", "count", "I", false)
def tyG : Nat → FieldType := fun k => match k with
  | 0 => .array .int
  | 1 => .array .int
  | 2 => .array .int
  | 3 => .array .int
  | 4 => .array .int
  | 5 => .array .int
  | 6 => .array .int
  | 7 => .array .int
  | _ => .int
theorem nmG : ∀ a, a < 9 → ∀ b, b < 9 → a ≠ b → (tbG a).2.1 ≠ (tbG b).2.1 := by decide +kernel
theorem toG : ∀ k, k < 9 → parseFieldDescriptor (tbG k).2.2.1 = some (tyG k) := by decide +kernel
theorem inG : ∀ w ∈ u_ws rnG tbG 9, w ∈ xT := by
  intro w h
  obtain ⟨k, hk, rfl⟩ := List.mem_map.mp h
  have hk := List.mem_range.mp hk
  refine xT_in (List.mem_of_getElem? (i := ([38, 40, 42, 44, 46, 48, 50, 52, 54] : List Nat).getD k 0) ?_) ?_
  · revert hk; revert k; decide +kernel
  · revert hk; revert k; decide +kernel
def rnP : String := "GraphQuery$Parser"
def tbP : u_T := fun k => match k with
  | 0 => ("GraphQuery$Parser", "tokens", "LGraphQuery$Tape;", true)
  | 1 => ("GraphQuery$Parser", "program", "LGraphQuery$Tape;", true)
  | 2 => ("GraphQuery$Parser", "slots", "[I", true)
  | 3 => ("GraphQuery$Parser", "at", "I", false)
  | _ => ("GraphQuery$Parser", "openLets", "I", false)
def tyP : Nat → FieldType := fun k => match k with
  | 0 => .object "GraphQuery$Tape"
  | 1 => .object "GraphQuery$Tape"
  | 2 => .array .int
  | 3 => .int
  | _ => .int
theorem nmP : ∀ a, a < 5 → ∀ b, b < 5 → a ≠ b → (tbP a).2.1 ≠ (tbP b).2.1 := by decide +kernel
theorem toP : ∀ k, k < 5 → parseFieldDescriptor (tbP k).2.2.1 = some (tyP k) := by decide +kernel
theorem inP : ∀ w ∈ u_ws rnP tbP 5, w ∈ xT := by
  intro w h
  obtain ⟨k, hk, rfl⟩ := List.mem_map.mp h
  have hk := List.mem_range.mp hk
  refine xT_in (List.mem_of_getElem? (i := ([102, 104, 106, 108, 110] : List Nat).getD k 0) ?_) ?_
  · revert hk; revert k; decide +kernel
  · revert hk; revert k; decide +kernel
def rnR : String := "GraphQuery$Row"
def tbR : u_T := fun k => match k with
  | 0 => ("GraphQuery$Row", "items", "[I", true)
  | 1 => ("GraphQuery$Row", "count", "I", false)
  | _ => ("GraphQuery$Row", "mask", "I", false)
def tyR : Nat → FieldType := fun k => match k with
  | 0 => .array .int
  | 1 => .int
  | _ => .int
theorem nmR : ∀ a, a < 3 → ∀ b, b < 3 → a ≠ b → (tbR a).2.1 ≠ (tbR b).2.1 := by decide +kernel
theorem toR : ∀ k, k < 3 → parseFieldDescriptor (tbR k).2.2.1 = some (tyR k) := by decide +kernel
theorem inR : ∀ w ∈ u_ws rnR tbR 3, w ∈ xT := by
  intro w h
  obtain ⟨k, hk, rfl⟩ := List.mem_map.mp h
  have hk := List.mem_range.mp hk
  refine xT_in (List.mem_of_getElem? (i := ([129, 131, 133] : List Nat).getD k 0) ?_) ?_
  · revert hk; revert k; decide +kernel
  · revert hk; revert k; decide +kernel
def rnN : String := "GraphQuery$Runner"
def tbN : u_T := fun k => match k with
  | 0 => ("GraphQuery$Runner", "stack", "[LGraphQuery$Row;", true)
  | 1 => ("GraphQuery$Runner", "bound", "[LGraphQuery$Row;", true)
  | _ => ("GraphQuery$Runner", "top", "I", false)
def tyN : Nat → FieldType := fun k => match k with
  | 0 => .array (.object "GraphQuery$Row")
  | 1 => .array (.object "GraphQuery$Row")
  | _ => .int
theorem nmN : ∀ a, a < 3 → ∀ b, b < 3 → a ≠ b → (tbN a).2.1 ≠ (tbN b).2.1 := by decide +kernel
theorem toN : ∀ k, k < 3 → parseFieldDescriptor (tbN k).2.2.1 = some (tyN k) := by decide +kernel
theorem inN : ∀ w ∈ u_ws rnN tbN 3, w ∈ xT := by
  intro w h
  obtain ⟨k, hk, rfl⟩ := List.mem_map.mp h
  have hk := List.mem_range.mp hk
  refine xT_in (List.mem_of_getElem? (i := ([139, 141, 143] : List Nat).getD k 0) ?_) ?_
  · revert hk; revert k; decide +kernel
  · revert hk; revert k; decide +kernel
def rnT : String := "GraphQuery$Tape"
def tbT : u_T := fun k => match k with
  | 0 => ("GraphQuery$Tape", "kinds", "[I", true)
  | 1 => ("GraphQuery$Tape", "values", "[I", true)
  | 2 => ("GraphQuery$Tape", "places", "[I", true)
  | _ => ("GraphQuery$Tape", "count", "I", false)
def tyT : Nat → FieldType := fun k => match k with
  | 0 => .array .int
  | 1 => .array .int
  | 2 => .array .int
  | _ => .int
theorem nmT : ∀ a, a < 4 → ∀ b, b < 4 → a ≠ b → (tbT a).2.1 ≠ (tbT b).2.1 := by decide +kernel
theorem toT : ∀ k, k < 4 → parseFieldDescriptor (tbT k).2.2.1 = some (tyT k) := by decide +kernel
theorem inT : ∀ w ∈ u_ws rnT tbT 4, w ∈ xT := by
  intro w h
  obtain ⟨k, hk, rfl⟩ := List.mem_map.mp h
  have hk := List.mem_range.mp hk
  refine xT_in (List.mem_of_getElem? (i := ([88, 90, 92, 94] : List Nat).getD k 0) ?_) ?_
  · revert hk; revert k; decide +kernel
  · revert hk; revert k; decide +kernel
def rnX : String := "GraphQuery$Text"
def tbX : u_T := fun k => match k with
  | 0 => ("GraphQuery$Text", "chars", "[C", true)
  | _ => ("GraphQuery$Text", "length", "I", false)
def tyX : Nat → FieldType := fun k => match k with
  | 0 => .array .char
  | _ => .int
theorem nmX : ∀ a, a < 2 → ∀ b, b < 2 → a ≠ b → (tbX a).2.1 ≠ (tbX b).2.1 := by decide +kernel
theorem toX : ∀ k, k < 2 → parseFieldDescriptor (tbX k).2.2.1 = some (tyX k) := by decide +kernel
theorem inX : ∀ w ∈ u_ws rnX tbX 2, w ∈ xT := by
  intro w h
  obtain ⟨k, hk, rfl⟩ := List.mem_map.mp h
  have hk := List.mem_range.mp hk
  refine xT_in (List.mem_of_getElem? (i := ([66, 68] : List Nat).getD k 0) ?_) ?_
  · revert hk; revert k; decide +kernel
  · revert hk; revert k; decide +kernel
def rnQ : String := "GraphQuery"
def tbQ : u_T := fun k => match k with
  | 0 => ("GraphQuery", "graph", "LGraphQuery$Graph;", true)
  | 1 => ("GraphQuery", "text", "LGraphQuery$Text;", true)
  | 2 => ("GraphQuery", "parser", "LGraphQuery$Parser;", true)
  | 3 => ("GraphQuery", "runner", "LGraphQuery$Runner;", true)
  | 4 => ("GraphQuery", "answered", "LGraphQuery$Row;", true)
  | 5 => ("GraphQuery", "looked", "I", false)
  | _ => ("GraphQuery", "missedName", "I", false)
def tyQ : Nat → FieldType := fun k => match k with
  | 0 => .object "GraphQuery$Graph"
  | 1 => .object "GraphQuery$Text"
  | 2 => .object "GraphQuery$Parser"
  | 3 => .object "GraphQuery$Runner"
  | 4 => .object "GraphQuery$Row"
  | 5 => .int
  | _ => .int
theorem nmQ : ∀ a, a < 7 → ∀ b, b < 7 → a ≠ b → (tbQ a).2.1 ≠ (tbQ b).2.1 := by decide +kernel
theorem toQ : ∀ k, k < 7 → parseFieldDescriptor (tbQ k).2.2.1 = some (tyQ k) := by decide +kernel
theorem inQ : ∀ w ∈ u_ws rnQ tbQ 7, w ∈ xT := by
  intro w h
  obtain ⟨k, hk, rfl⟩ := List.mem_map.mp h
  have hk := List.mem_range.mp hk
  refine xT_in (List.mem_of_getElem? (i := ([155, 157, 159, 161, 163, 165, 167] : List Nat).getD k 0) ?_) ?_
  · revert hk; revert k; decide +kernel
  · revert hk; revert k; decide +kernel
def rnM : String := "GraphQueryModel"
def tbM : u_T := fun k => match k with
  | 0 => ("GraphQueryModel", "code", "I", false)
  | 1 => ("GraphQueryModel", "targets", "I", false)
  | 2 => ("GraphQueryModel", "pack", "[I", true)
  | 3 => ("GraphQueryModel", "digit", "[I", true)
  | 4 => ("GraphQueryModel", "kind", "[I", true)
  | 5 => ("GraphQueryModel", "many", "[I", true)
  | 6 => ("GraphQueryModel", "need", "[I", true)
  | 7 => ("GraphQueryModel", "text", "[I", true)
  | 8 => ("GraphQueryModel", "size", "I", false)
  | 9 => ("GraphQueryModel", "token", "I", false)
  | 10 => ("GraphQueryModel", "at", "I", false)
  | 11 => ("GraphQueryModel", "end", "I", false)
  | 12 => ("GraphQueryModel", "value", "I", false)
  | 13 => ("GraphQueryModel", "ill", "I", false)
  | 14 => ("GraphQueryModel", "must", "[I", true)
  | 15 => ("GraphQueryModel", "mustDeep", "[I", true)
  | 16 => ("GraphQueryModel", "mustValue", "[I", true)
  | 17 => ("GraphQueryModel", "open", "[I", true)
  | 18 => ("GraphQueryModel", "musts", "I", false)
  | 19 => ("GraphQueryModel", "order", "[I", true)
  | 20 => ("GraphQueryModel", "orderValue", "[I", true)
  | 21 => ("GraphQueryModel", "orderAt", "[I", true)
  | 22 => ("GraphQueryModel", "orders", "I", false)
  | 23 => ("GraphQueryModel", "list", "[I", true)
  | 24 => ("GraphQueryModel", "listSize", "[I", true)
  | 25 => ("GraphQueryModel", "bound", "[I", true)
  | 26 => ("GraphQueryModel", "boundSize", "[I", true)
  | 27 => ("GraphQueryModel", "boundLetter", "[I", true)
  | 28 => ("GraphQueryModel", "lists", "I", false)
  | 29 => ("GraphQueryModel", "bounds", "I", false)
  | 30 => ("GraphQueryModel", "looked", "I", false)
  | 31 => ("GraphQueryModel", "answer", "[I", true)
  | 32 => ("GraphQueryModel", "from", "[I", true)
  | 33 => ("GraphQueryModel", "rounds", "[I", true)
  | 34 => ("GraphQueryModel", "answerSize", "I", false)
  | 35 => ("GraphQueryModel", "work", "I", false)
  | 36 => ("GraphQueryModel", "unknown", "I", false)
  | 37 => ("GraphQueryModel", "onWay", "[I", true)
  | _ => ("GraphQueryModel", "nextOf", "[I", true)
def tyM : Nat → FieldType := fun k => match k with
  | 0 => .int
  | 1 => .int
  | 2 => .array .int
  | 3 => .array .int
  | 4 => .array .int
  | 5 => .array .int
  | 6 => .array .int
  | 7 => .array .int
  | 8 => .int
  | 9 => .int
  | 10 => .int
  | 11 => .int
  | 12 => .int
  | 13 => .int
  | 14 => .array .int
  | 15 => .array .int
  | 16 => .array .int
  | 17 => .array .int
  | 18 => .int
  | 19 => .array .int
  | 20 => .array .int
  | 21 => .array .int
  | 22 => .int
  | 23 => .array .int
  | 24 => .array .int
  | 25 => .array .int
  | 26 => .array .int
  | 27 => .array .int
  | 28 => .int
  | 29 => .int
  | 30 => .int
  | 31 => .array .int
  | 32 => .array .int
  | 33 => .array .int
  | 34 => .int
  | 35 => .int
  | 36 => .int
  | 37 => .array .int
  | _ => .array .int
theorem nmM : ∀ a, a < 39 → ∀ b, b < 39 → a ≠ b → (tbM a).2.1 ≠ (tbM b).2.1 := by decide +kernel
theorem toM : ∀ k, k < 39 → parseFieldDescriptor (tbM k).2.2.1 = some (tyM k) := by decide +kernel
theorem inM : ∀ w ∈ u_ws rnM tbM 39, w ∈ xT := by
  intro w h
  obtain ⟨k, hk, rfl⟩ := List.mem_map.mp h
  have hk := List.mem_range.mp hk
  refine xT_in (List.mem_of_getElem? (i := ([656, 658, 660, 662, 664, 666, 668, 670, 672, 674, 676, 678, 680, 682, 684, 686, 688, 690, 692, 694, 696, 698, 700, 702, 704, 706, 708, 710, 712, 714, 716, 718, 720, 722, 724, 726, 728, 730, 732] : List Nat).getD k 0) ?_) ?_
  · revert hk; revert k; decide +kernel
  · revert hk; revert k; decide +kernel
abbrev xCl : List vw_C := [(rnG, tbG, 9), (rnP, tbP, 5), (rnR, tbR, 3), (rnN, tbN, 3), (rnT, tbT, 4), (rnX, tbX, 2), (rnQ, tbQ, 7), (rnM, tbM, 39)]
abbrev bG_init : ByteArray := prog_2_method_1_code
def yG_init : MethodName := ⟨"GraphQuery$Graph", "<init>", "()V"⟩
def wG_init : List Cond := Cond.code yG_init bG_init 2 none :: xT
abbrev bG_addTarget : ByteArray := prog_2_method_2_code
def yG_addTarget : MethodName := ⟨"GraphQuery$Graph", "addTarget", "(III)I"⟩
def wG_addTarget : List Cond := Cond.code yG_addTarget bG_addTarget 6 (some .int) :: xT
abbrev bG_addNeed : ByteArray := prog_2_method_3_code
def yG_addNeed : MethodName := ⟨"GraphQuery$Graph", "addNeed", "(II)Z"⟩
def wG_addNeed : List Cond := Cond.code yG_addNeed bG_addNeed 3 (some .boolean) :: xT
abbrev bG_needAt : ByteArray := prog_2_method_4_code
def yG_needAt : MethodName := ⟨"GraphQuery$Graph", "needAt", "(II)I"⟩
def wG_needAt : List Cond := Cond.code yG_needAt bG_needAt 3 (some .int) :: xT
abbrev bG_numberOf : ByteArray := prog_2_method_5_code
def yG_numberOf : MethodName := ⟨"GraphQuery$Graph", "numberOf", "(I)I"⟩
def wG_numberOf : List Cond := Cond.code yG_numberOf bG_numberOf 2 (some .int) :: xT
abbrev bG_nearestTo : ByteArray := prog_2_method_6_code
def yG_nearestTo : MethodName := ⟨"GraphQuery$Graph", "nearestTo", "(I)I"⟩
def wG_nearestTo : List Cond := Cond.code yG_nearestTo bG_nearestTo 5 (some .int) :: xT
abbrev bG_closest : ByteArray := prog_2_method_7_code
def yG_closest : MethodName := ⟨"GraphQuery$Graph", "closest", "(IIII)I"⟩
def wG_closest : List Cond := Cond.code yG_closest bG_closest 9 (some .int) :: xT
abbrev bG_stepsBetween : ByteArray := prog_2_method_8_code
def yG_stepsBetween : MethodName := ⟨"GraphQuery$Graph", "stepsBetween", "(II)I"⟩
def wG_stepsBetween : List Cond := Cond.code yG_stepsBetween bG_stepsBetween 5 (some .int) :: xT
abbrev bG_joined : ByteArray := prog_2_method_9_code
def yG_joined : MethodName := ⟨"GraphQuery$Graph", "joined", "([II)I"⟩
def wG_joined : List Cond := Cond.code yG_joined bG_joined 5 (some .int) :: xT
abbrev bG_waysBetween : ByteArray := prog_2_method_10_code
def yG_waysBetween : MethodName := ⟨"GraphQuery$Graph", "waysBetween", "(III)I"⟩
def wG_waysBetween : List Cond := Cond.code yG_waysBetween bG_waysBetween 4 (some .int) :: xT
abbrev bG_waysOn : ByteArray := prog_2_method_11_code
def yG_waysOn : MethodName := ⟨"GraphQuery$Graph", "waysOn", "(IIII)I"⟩
def wG_waysOn : List Cond := Cond.code yG_waysOn bG_waysOn 8 (some .int) :: xT
abbrev bG_listAll : ByteArray := prog_2_method_12_code
def yG_listAll : MethodName := ⟨"GraphQuery$Graph", "listAll", "(LGraphQuery$Row;)V"⟩
def wG_listAll : List Cond := Cond.code yG_listAll bG_listAll 3 none :: xT
abbrev bG_growByNeeds : ByteArray := prog_2_method_13_code
def yG_growByNeeds : MethodName := ⟨"GraphQuery$Graph", "growByNeeds", "(LGraphQuery$Row;I)V"⟩
def wG_growByNeeds : List Cond := Cond.code yG_growByNeeds bG_growByNeeds 7 none :: xT
abbrev bG_addNeedsOf : ByteArray := prog_2_method_14_code
def yG_addNeedsOf : MethodName := ⟨"GraphQuery$Graph", "addNeedsOf", "(ILGraphQuery$Row;)V"⟩
def wG_addNeedsOf : List Cond := Cond.code yG_addNeedsOf bG_addNeedsOf 4 none :: xT
abbrev bG_growByUsers : ByteArray := prog_2_method_15_code
def yG_growByUsers : MethodName := ⟨"GraphQuery$Graph", "growByUsers", "(LGraphQuery$Row;I)V"⟩
def wG_growByUsers : List Cond := Cond.code yG_growByUsers bG_growByUsers 7 none :: xT
abbrev bG_usersOf : ByteArray := prog_2_method_16_code
def yG_usersOf : MethodName := ⟨"GraphQuery$Graph", "usersOf", "(I)I"⟩
def wG_usersOf : List Cond := Cond.code yG_usersOf bG_usersOf 2 (some .int) :: xT
abbrev bG_findWay : ByteArray := prog_2_method_17_code
def yG_findWay : MethodName := ⟨"GraphQuery$Graph", "findWay", "(LGraphQuery$Row;LGraphQuery$Row;)V"⟩
def wG_findWay : List Cond := Cond.code yG_findWay bG_findWay 6 none :: xT
abbrev bG_noteNeedsOf : ByteArray := prog_2_method_18_code
def yG_noteNeedsOf : MethodName := ⟨"GraphQuery$Graph", "noteNeedsOf", "(ILGraphQuery$Row;)V"⟩
def wG_noteNeedsOf : List Cond := Cond.code yG_noteNeedsOf bG_noteNeedsOf 5 none :: xT
abbrev bG_keepKind : ByteArray := prog_2_method_19_code
def yG_keepKind : MethodName := ⟨"GraphQuery$Graph", "keepKind", "(LGraphQuery$Row;I)V"⟩
def wG_keepKind : List Cond := Cond.code yG_keepKind bG_keepKind 3 none :: xT
abbrev bG_findTests : ByteArray := prog_2_method_20_code
def yG_findTests : MethodName := ⟨"GraphQuery$Graph", "findTests", "(LGraphQuery$Row;)V"⟩
def wG_findTests : List Cond := Cond.code yG_findTests bG_findTests 4 none :: xT
abbrev bG_ofKind : ByteArray := prog_2_method_21_code
def yG_ofKind : MethodName := ⟨"GraphQuery$Graph", "ofKind", "(I)I"⟩
def wG_ofKind : List Cond := Cond.code yG_ofKind bG_ofKind 4 (some .int) :: xT
abbrev bG_findSame : ByteArray := prog_2_method_22_code
def yG_findSame : MethodName := ⟨"GraphQuery$Graph", "findSame", "(LGraphQuery$Row;)V"⟩
def wG_findSame : List Cond := Cond.code yG_findSame bG_findSame 4 none :: xT
abbrev bG_packOf : ByteArray := prog_2_method_23_code
def yG_packOf : MethodName := ⟨"GraphQuery$Graph", "packOf", "(I)I"⟩
def wG_packOf : List Cond := Cond.code yG_packOf bG_packOf 2 (some .int) :: xT
abbrev bG_below : ByteArray := prog_2_method_24_code
def yG_below : MethodName := ⟨"GraphQuery$Graph", "below", "(II)Z"⟩
def wG_below : List Cond := Cond.code yG_below bG_below 2 (some .boolean) :: xT
abbrev bP_init : ByteArray := prog_3_method_1_code
def yP_init : MethodName := ⟨"GraphQuery$Parser", "<init>", "()V"⟩
def wP_init : List Cond := Cond.code yP_init bP_init 1 none :: xT
abbrev bP_parse : ByteArray := prog_3_method_2_code
def yP_parse : MethodName := ⟨"GraphQuery$Parser", "parse", "(LGraphQuery$Text;)Z"⟩
def wP_parse : List Cond := Cond.code yP_parse bP_parse 3 (some .boolean) :: xT
abbrev bP_stopPlace : ByteArray := prog_3_method_3_code
def yP_stopPlace : MethodName := ⟨"GraphQuery$Parser", "stopPlace", "()I"⟩
def wP_stopPlace : List Cond := Cond.code yP_stopPlace bP_stopPlace 1 (some .int) :: xT
abbrev bP_program : ByteArray := prog_3_method_4_code
def yP_program : MethodName := ⟨"GraphQuery$Parser", "program", "()LGraphQuery$Tape;"⟩
def wP_program : List Cond := Cond.code yP_program bP_program 1 (some (.object "GraphQuery$Tape")) :: xT
abbrev bP_sum : ByteArray := prog_3_method_5_code
def yP_sum : MethodName := ⟨"GraphQuery$Parser", "sum", "(I)Z"⟩
def wP_sum : List Cond := Cond.code yP_sum bP_sum 4 (some .boolean) :: xT
abbrev bP_term : ByteArray := prog_3_method_6_code
def yP_term : MethodName := ⟨"GraphQuery$Parser", "term", "(I)Z"⟩
def wP_term : List Cond := Cond.code yP_term bP_term 3 (some .boolean) :: xT
abbrev bP_letterTerm : ByteArray := prog_3_method_7_code
def yP_letterTerm : MethodName := ⟨"GraphQuery$Parser", "letterTerm", "()Z"⟩
def wP_letterTerm : List Cond := Cond.code yP_letterTerm bP_letterTerm 2 (some .boolean) :: xT
abbrev bP_roundsTerm : ByteArray := prog_3_method_8_code
def yP_roundsTerm : MethodName := ⟨"GraphQuery$Parser", "roundsTerm", "(II)Z"⟩
def wP_roundsTerm : List Cond := Cond.code yP_roundsTerm bP_roundsTerm 4 (some .boolean) :: xT
abbrev bP_plainTerm : ByteArray := prog_3_method_9_code
def yP_plainTerm : MethodName := ⟨"GraphQuery$Parser", "plainTerm", "(II)Z"⟩
def wP_plainTerm : List Cond := Cond.code yP_plainTerm bP_plainTerm 3 (some .boolean) :: xT
abbrev bP_wayTerm : ByteArray := prog_3_method_10_code
def yP_wayTerm : MethodName := ⟨"GraphQuery$Parser", "wayTerm", "(I)Z"⟩
def wP_wayTerm : List Cond := Cond.code yP_wayTerm bP_wayTerm 2 (some .boolean) :: xT
abbrev bP_kindTerm : ByteArray := prog_3_method_11_code
def yP_kindTerm : MethodName := ⟨"GraphQuery$Parser", "kindTerm", "(I)Z"⟩
def wP_kindTerm : List Cond := Cond.code yP_kindTerm bP_kindTerm 3 (some .boolean) :: xT
abbrev bP_letTerm : ByteArray := prog_3_method_12_code
def yP_letTerm : MethodName := ⟨"GraphQuery$Parser", "letTerm", "(I)Z"⟩
def wP_letTerm : List Cond := Cond.code yP_letTerm bP_letTerm 5 (some .boolean) :: xT
abbrev bP_slotOf : ByteArray := prog_3_method_13_code
def yP_slotOf : MethodName := ⟨"GraphQuery$Parser", "slotOf", "(I)I"⟩
def wP_slotOf : List Cond := Cond.code yP_slotOf bP_slotOf 2 (some .int) :: xT
abbrev bP_setSlot : ByteArray := prog_3_method_14_code
def yP_setSlot : MethodName := ⟨"GraphQuery$Parser", "setSlot", "(II)V"⟩
def wP_setSlot : List Cond := Cond.code yP_setSlot bP_setSlot 3 none :: xT
abbrev bP_take : ByteArray := prog_3_method_15_code
def yP_take : MethodName := ⟨"GraphQuery$Parser", "take", "(I)Z"⟩
def wP_take : List Cond := Cond.code yP_take bP_take 2 (some .boolean) :: xT
abbrev bP_emit : ByteArray := prog_3_method_16_code
def yP_emit : MethodName := ⟨"GraphQuery$Parser", "emit", "(II)V"⟩
def wP_emit : List Cond := Cond.code yP_emit bP_emit 3 none :: xT
abbrev bR_init : ByteArray := prog_4_method_1_code
def yR_init : MethodName := ⟨"GraphQuery$Row", "<init>", "()V"⟩
def wR_init : List Cond := Cond.code yR_init bR_init 1 none :: xT
abbrev bR_clear : ByteArray := prog_4_method_2_code
def yR_clear : MethodName := ⟨"GraphQuery$Row", "clear", "()V"⟩
def wR_clear : List Cond := Cond.code yR_clear bR_clear 1 none :: xT
abbrev bR_size : ByteArray := prog_4_method_3_code
def yR_size : MethodName := ⟨"GraphQuery$Row", "size", "()I"⟩
def wR_size : List Cond := Cond.code yR_size bR_size 1 (some .int) :: xT
abbrev bR_mask : ByteArray := prog_4_method_4_code
def yR_mask : MethodName := ⟨"GraphQuery$Row", "mask", "()I"⟩
def wR_mask : List Cond := Cond.code yR_mask bR_mask 1 (some .int) :: xT
abbrev bR_at : ByteArray := prog_4_method_5_code
def yR_at : MethodName := ⟨"GraphQuery$Row", "at", "(I)I"⟩
def wR_at : List Cond := Cond.code yR_at bR_at 2 (some .int) :: xT
abbrev bR_has : ByteArray := prog_4_method_6_code
def yR_has : MethodName := ⟨"GraphQuery$Row", "has", "(I)Z"⟩
def wR_has : List Cond := Cond.code yR_has bR_has 2 (some .boolean) :: xT
abbrev bR_add : ByteArray := prog_4_method_7_code
def yR_add : MethodName := ⟨"GraphQuery$Row", "add", "(I)V"⟩
def wR_add : List Cond := Cond.code yR_add bR_add 2 none :: xT
abbrev bR_addAll : ByteArray := prog_4_method_8_code
def yR_addAll : MethodName := ⟨"GraphQuery$Row", "addAll", "(LGraphQuery$Row;)V"⟩
def wR_addAll : List Cond := Cond.code yR_addAll bR_addAll 3 none :: xT
abbrev bR_addByNumbers : ByteArray := prog_4_method_9_code
def yR_addByNumbers : MethodName := ⟨"GraphQuery$Row", "addByNumbers", "(I)V"⟩
def wR_addByNumbers : List Cond := Cond.code yR_addByNumbers bR_addByNumbers 3 none :: xT
abbrev bR_copy : ByteArray := prog_4_method_10_code
def yR_copy : MethodName := ⟨"GraphQuery$Row", "copy", "(LGraphQuery$Row;)V"⟩
def wR_copy : List Cond := Cond.code yR_copy bR_copy 2 none :: xT
abbrev bR_keep : ByteArray := prog_4_method_11_code
def yR_keep : MethodName := ⟨"GraphQuery$Row", "keep", "(I)V"⟩
def wR_keep : List Cond := Cond.code yR_keep bR_keep 4 none :: xT
abbrev bR_reverse : ByteArray := prog_4_method_12_code
def yR_reverse : MethodName := ⟨"GraphQuery$Row", "reverse", "()V"⟩
def wR_reverse : List Cond := Cond.code yR_reverse bR_reverse 4 none :: xT
abbrev bN_init : ByteArray := prog_5_method_1_code
def yN_init : MethodName := ⟨"GraphQuery$Runner", "<init>", "()V"⟩
def wN_init : List Cond := Cond.code yN_init bN_init 2 none :: xT
abbrev bN_run : ByteArray := prog_5_method_2_code
def yN_run : MethodName := ⟨"GraphQuery$Runner", "run", "(LGraphQuery$Tape;LGraphQuery$Graph;)I"⟩
def wN_run : List Cond := Cond.code yN_run bN_run 7 (some .int) :: xT
abbrev bN_result : ByteArray := prog_5_method_3_code
def yN_result : MethodName := ⟨"GraphQuery$Runner", "result", "()LGraphQuery$Row;"⟩
def wN_result : List Cond := Cond.code yN_result bN_result 1 (some (.object "GraphQuery$Row")) :: xT
abbrev bN_make : ByteArray := prog_5_method_4_code
def yN_make : MethodName := ⟨"GraphQuery$Runner", "make", "(IILGraphQuery$Graph;)V"⟩
def wN_make : List Cond := Cond.code yN_make bN_make 4 none :: xT
abbrev bN_makeOfTwo : ByteArray := prog_5_method_5_code
def yN_makeOfTwo : MethodName := ⟨"GraphQuery$Runner", "makeOfTwo", "(ILGraphQuery$Graph;)V"⟩
def wN_makeOfTwo : List Cond := Cond.code yN_makeOfTwo bN_makeOfTwo 5 none :: xT
abbrev bN_push : ByteArray := prog_5_method_6_code
def yN_push : MethodName := ⟨"GraphQuery$Runner", "push", "()LGraphQuery$Row;"⟩
def wN_push : List Cond := Cond.code yN_push bN_push 2 (some (.object "GraphQuery$Row")) :: xT
abbrev bN_pop : ByteArray := prog_5_method_7_code
def yN_pop : MethodName := ⟨"GraphQuery$Runner", "pop", "()LGraphQuery$Row;"⟩
def wN_pop : List Cond := Cond.code yN_pop bN_pop 1 (some (.object "GraphQuery$Row")) :: xT
abbrev bN_rowAt : ByteArray := prog_5_method_8_code
def yN_rowAt : MethodName := ⟨"GraphQuery$Runner", "rowAt", "([LGraphQuery$Row;I)LGraphQuery$Row;"⟩
def wN_rowAt : List Cond := Cond.code yN_rowAt bN_rowAt 2 (some (.object "GraphQuery$Row")) :: xT
abbrev bT_init : ByteArray := prog_6_method_1_code
def yT_init : MethodName := ⟨"GraphQuery$Tape", "<init>", "()V"⟩
def wT_init : List Cond := Cond.code yT_init bT_init 1 none :: xT
abbrev bT_clear : ByteArray := prog_6_method_2_code
def yT_clear : MethodName := ⟨"GraphQuery$Tape", "clear", "()V"⟩
def wT_clear : List Cond := Cond.code yT_clear bT_clear 1 none :: xT
abbrev bT_size : ByteArray := prog_6_method_3_code
def yT_size : MethodName := ⟨"GraphQuery$Tape", "size", "()I"⟩
def wT_size : List Cond := Cond.code yT_size bT_size 1 (some .int) :: xT
abbrev bT_add : ByteArray := prog_6_method_4_code
def yT_add : MethodName := ⟨"GraphQuery$Tape", "add", "(III)V"⟩
def wT_add : List Cond := Cond.code yT_add bT_add 4 none :: xT
abbrev bT_kindAt : ByteArray := prog_6_method_5_code
def yT_kindAt : MethodName := ⟨"GraphQuery$Tape", "kindAt", "(I)I"⟩
def wT_kindAt : List Cond := Cond.code yT_kindAt bT_kindAt 2 (some .int) :: xT
abbrev bT_valueAt : ByteArray := prog_6_method_6_code
def yT_valueAt : MethodName := ⟨"GraphQuery$Tape", "valueAt", "(I)I"⟩
def wT_valueAt : List Cond := Cond.code yT_valueAt bT_valueAt 2 (some .int) :: xT
abbrev bT_placeAt : ByteArray := prog_6_method_7_code
def yT_placeAt : MethodName := ⟨"GraphQuery$Tape", "placeAt", "(I)I"⟩
def wT_placeAt : List Cond := Cond.code yT_placeAt bT_placeAt 2 (some .int) :: xT
abbrev bX_init : ByteArray := prog_7_method_1_code
def yX_init : MethodName := ⟨"GraphQuery$Text", "<init>", "()V"⟩
def wX_init : List Cond := Cond.code yX_init bX_init 1 none :: xT
abbrev bX_append : ByteArray := prog_7_method_2_code
def yX_append : MethodName := ⟨"GraphQuery$Text", "append", "(C)Z"⟩
def wX_append : List Cond := Cond.code yX_append bX_append 2 (some .boolean) :: xT
abbrev bX_clear : ByteArray := prog_7_method_3_code
def yX_clear : MethodName := ⟨"GraphQuery$Text", "clear", "()V"⟩
def wX_clear : List Cond := Cond.code yX_clear bX_clear 1 none :: xT
abbrev bX_split : ByteArray := prog_7_method_4_code
def yX_split : MethodName := ⟨"GraphQuery$Text", "split", "(LGraphQuery$Tape;)V"⟩
def wX_split : List Cond := Cond.code yX_split bX_split 6 none :: xT
abbrev bX_charAt : ByteArray := prog_7_method_5_code
def yX_charAt : MethodName := ⟨"GraphQuery$Text", "charAt", "(I)C"⟩
def wX_charAt : List Cond := Cond.code yX_charAt bX_charAt 2 (some .char) :: xT
abbrev bX_rowKind : ByteArray := prog_7_method_6_code
def yX_rowKind : MethodName := ⟨"GraphQuery$Text", "rowKind", "(II)I"⟩
def wX_rowKind : List Cond := Cond.code yX_rowKind bX_rowKind 5 (some .int) :: xT
abbrev bX_rowValue : ByteArray := prog_7_method_7_code
def yX_rowValue : MethodName := ⟨"GraphQuery$Text", "rowValue", "(III)I"⟩
def wX_rowValue : List Cond := Cond.code yX_rowValue bX_rowValue 6 (some .int) :: xT
abbrev bX_wordKind : ByteArray := prog_7_method_8_code
def yX_wordKind : MethodName := ⟨"GraphQuery$Text", "wordKind", "(II)I"⟩
def wX_wordKind : List Cond := Cond.code yX_wordKind bX_wordKind 3 (some .int) :: xT
abbrev bX_spells : ByteArray := prog_7_method_9_code
def yX_spells : MethodName := ⟨"GraphQuery$Text", "spells", "(Ljava/lang/String;II)Z"⟩
def wX_spells : List Cond := Cond.code yX_spells bX_spells 5 (some .boolean) :: xT
abbrev bX_isRowChar : ByteArray := prog_7_method_10_code
def yX_isRowChar : MethodName := ⟨"GraphQuery$Text", "isRowChar", "(C)Z"⟩
def wX_isRowChar : List Cond := Cond.code yX_isRowChar bX_isRowChar 1 (some .boolean) :: xT
abbrev bX_isDigit : ByteArray := prog_7_method_11_code
def yX_isDigit : MethodName := ⟨"GraphQuery$Text", "isDigit", "(C)Z"⟩
def wX_isDigit : List Cond := Cond.code yX_isDigit bX_isDigit 1 (some .boolean) :: xT
abbrev bX_isCapital : ByteArray := prog_7_method_12_code
def yX_isCapital : MethodName := ⟨"GraphQuery$Text", "isCapital", "(C)Z"⟩
def wX_isCapital : List Cond := Cond.code yX_isCapital bX_isCapital 1 (some .boolean) :: xT
abbrev bX_isSign : ByteArray := prog_7_method_13_code
def yX_isSign : MethodName := ⟨"GraphQuery$Text", "isSign", "(C)Z"⟩
def wX_isSign : List Cond := Cond.code yX_isSign bX_isSign 1 (some .boolean) :: xT
abbrev bQ_init : ByteArray := prog_1_method_1_code
def yQ_init : MethodName := ⟨"GraphQuery", "<init>", "()V"⟩
def wQ_init : List Cond := Cond.code yQ_init bQ_init 1 none :: xT
abbrev bQ_target : ByteArray := prog_1_method_2_code
def yQ_target : MethodName := ⟨"GraphQuery", "target", "(III)I"⟩
def wQ_target : List Cond := Cond.code yQ_target bQ_target 4 (some .int) :: xT
abbrev bQ_needs : ByteArray := prog_1_method_3_code
def yQ_needs : MethodName := ⟨"GraphQuery", "needs", "(II)Z"⟩
def wQ_needs : List Cond := Cond.code yQ_needs bQ_needs 3 (some .boolean) :: xT
abbrev bQ_need : ByteArray := prog_1_method_4_code
def yQ_need : MethodName := ⟨"GraphQuery", "need", "(II)I"⟩
def wQ_need : List Cond := Cond.code yQ_need bQ_need 3 (some .int) :: xT
abbrev bQ_type : ByteArray := prog_1_method_5_code
def yQ_type : MethodName := ⟨"GraphQuery", "type", "(C)Z"⟩
def wQ_type : List Cond := Cond.code yQ_type bQ_type 2 (some .boolean) :: xT
abbrev bQ_ask : ByteArray := prog_1_method_6_code
def yQ_ask : MethodName := ⟨"GraphQuery", "ask", "()I"⟩
def wQ_ask : List Cond := Cond.code yQ_ask bQ_ask 4 (some .int) :: xT
abbrev bQ_answer : ByteArray := prog_1_method_7_code
def yQ_answer : MethodName := ⟨"GraphQuery", "answer", "(I)I"⟩
def wQ_answer : List Cond := Cond.code yQ_answer bQ_answer 2 (some .int) :: xT
abbrev bQ_nearest : ByteArray := prog_1_method_8_code
def yQ_nearest : MethodName := ⟨"GraphQuery", "nearest", "()I"⟩
def wQ_nearest : List Cond := Cond.code yQ_nearest bQ_nearest 1 (some .int) :: xT
abbrev bQ_far : ByteArray := prog_1_method_9_code
def yQ_far : MethodName := ⟨"GraphQuery", "far", "(II)I"⟩
def wQ_far : List Cond := Cond.code yQ_far bQ_far 3 (some .int) :: xT
abbrev bQ_ways : ByteArray := prog_1_method_10_code
def yQ_ways : MethodName := ⟨"GraphQuery", "ways", "(III)I"⟩
def wQ_ways : List Cond := Cond.code yQ_ways bQ_ways 4 (some .int) :: xT
abbrev bQ_work : ByteArray := prog_1_method_11_code
def yQ_work : MethodName := ⟨"GraphQuery", "work", "()I"⟩
def wQ_work : List Cond := Cond.code yQ_work bQ_work 1 (some .int) :: xT
abbrev bQ_firstUnknown : ByteArray := prog_1_method_12_code
def yQ_firstUnknown : MethodName := ⟨"GraphQuery", "firstUnknown", "(LGraphQuery$Tape;)I"⟩
def wQ_firstUnknown : List Cond := Cond.code yQ_firstUnknown bQ_firstUnknown 3 (some .int) :: xT
abbrev bQ_isJoin : ByteArray := prog_1_method_13_code
def yQ_isJoin : MethodName := ⟨"GraphQuery", "isJoin", "(I)Z"⟩
def wQ_isJoin : List Cond := Cond.code yQ_isJoin bQ_isJoin 1 (some .boolean) :: xT
abbrev bQ_isIn : ByteArray := prog_1_method_14_code
def yQ_isIn : MethodName := ⟨"GraphQuery", "isIn", "(II)Z"⟩
def wQ_isIn : List Cond := Cond.code yQ_isIn bQ_isIn 2 (some .boolean) :: xT
abbrev bM_init : ByteArray := prog_9_method_1_code
def yM_init : MethodName := ⟨"GraphQueryModel", "<init>", "()V"⟩
def wM_init : List Cond := Cond.code yM_init bM_init 1 none :: xT
abbrev bM_isTarget : ByteArray := prog_9_method_3_code
def yM_isTarget : MethodName := ⟨"GraphQueryModel", "isTarget", "(I)Z"⟩
def wM_isTarget : List Cond := Cond.code yM_isTarget bM_isTarget 2 (some .boolean) :: xT
abbrev bM_find : ByteArray := prog_9_method_4_code
def yM_find : MethodName := ⟨"GraphQueryModel", "find", "(II)I"⟩
def wM_find : List Cond := Cond.code yM_find bM_find 5 (some .int) :: xT
abbrev bM_target : ByteArray := prog_9_method_5_code
def yM_target : MethodName := ⟨"GraphQueryModel", "target", "(III)I"⟩
def wM_target : List Cond := Cond.code yM_target bM_target 4 (some .int) :: xT
abbrev bM_isNeed : ByteArray := prog_9_method_6_code
def yM_isNeed : MethodName := ⟨"GraphQueryModel", "isNeed", "(II)Z"⟩
def wM_isNeed : List Cond := Cond.code yM_isNeed bM_isNeed 5 (some .boolean) :: xT
abbrev bM_needs : ByteArray := prog_9_method_7_code
def yM_needs : MethodName := ⟨"GraphQueryModel", "needs", "(II)Z"⟩
def wM_needs : List Cond := Cond.code yM_needs bM_needs 3 (some .boolean) :: xT
abbrev bM_need : ByteArray := prog_9_method_8_code
def yM_need : MethodName := ⟨"GraphQueryModel", "need", "(II)I"⟩
def wM_need : List Cond := Cond.code yM_need bM_need 3 (some .int) :: xT
abbrev bM_type : ByteArray := prog_9_method_9_code
def yM_type : MethodName := ⟨"GraphQueryModel", "type", "(C)Z"⟩
def wM_type : List Cond := Cond.code yM_type bM_type 2 (some .boolean) :: xT
abbrev bM_isDigit : ByteArray := prog_9_method_10_code
def yM_isDigit : MethodName := ⟨"GraphQueryModel", "isDigit", "(I)Z"⟩
def wM_isDigit : List Cond := Cond.code yM_isDigit bM_isDigit 1 (some .boolean) :: xT
abbrev bM_isGreat : ByteArray := prog_9_method_11_code
def yM_isGreat : MethodName := ⟨"GraphQueryModel", "isGreat", "(I)Z"⟩
def wM_isGreat : List Cond := Cond.code yM_isGreat bM_isGreat 1 (some .boolean) :: xT
abbrev bM_isSign : ByteArray := prog_9_method_12_code
def yM_isSign : MethodName := ⟨"GraphQueryModel", "isSign", "(I)Z"⟩
def wM_isSign : List Cond := Cond.code yM_isSign bM_isSign 1 (some .boolean) :: xT
abbrev bM_wordToken : ByteArray := prog_9_method_13_code
def yM_wordToken : MethodName := ⟨"GraphQueryModel", "wordToken", "()I"⟩
def wM_wordToken : List Cond := Cond.code yM_wordToken bM_wordToken 4 (some .int) :: xT
abbrev bM_next : ByteArray := prog_9_method_14_code
def yM_next : MethodName := ⟨"GraphQueryModel", "next", "()V"⟩
def wM_next : List Cond := Cond.code yM_next bM_next 4 none :: xT
abbrev bM_fail : ByteArray := prog_9_method_15_code
def yM_fail : MethodName := ⟨"GraphQueryModel", "fail", "()V"⟩
def wM_fail : List Cond := Cond.code yM_fail bM_fail 1 none :: xT
abbrev bM_take : ByteArray := prog_9_method_16_code
def yM_take : MethodName := ⟨"GraphQueryModel", "take", "(I)V"⟩
def wM_take : List Cond := Cond.code yM_take bM_take 2 none :: xT
abbrev bM_wants : ByteArray := prog_9_method_17_code
def yM_wants : MethodName := ⟨"GraphQueryModel", "wants", "(III)V"⟩
def wM_wants : List Cond := Cond.code yM_wants bM_wants 4 none :: xT
abbrev bM_write : ByteArray := prog_9_method_18_code
def yM_write : MethodName := ⟨"GraphQueryModel", "write", "(III)V"⟩
def wM_write : List Cond := Cond.code yM_write bM_write 4 none :: xT
abbrev bM_read : ByteArray := prog_9_method_19_code
def yM_read : MethodName := ⟨"GraphQueryModel", "read", "()V"⟩
def wM_read : List Cond := Cond.code yM_read bM_read 2 none :: xT
abbrev bM_come : ByteArray := prog_9_method_20_code
def yM_come : MethodName := ⟨"GraphQueryModel", "come", "(III)V"⟩
def wM_come : List Cond := Cond.code yM_come bM_come 5 none :: xT
abbrev bM_term : ByteArray := prog_9_method_21_code
def yM_term : MethodName := ⟨"GraphQueryModel", "term", "(I)V"⟩
def wM_term : List Cond := Cond.code yM_term bM_term 5 none :: xT
abbrev bM_others : ByteArray := prog_9_method_22_code
def yM_others : MethodName := ⟨"GraphQueryModel", "others", "(II)V"⟩
def wM_others : List Cond := Cond.code yM_others bM_others 4 none :: xT
abbrev bM_isIn : ByteArray := prog_9_method_23_code
def yM_isIn : MethodName := ⟨"GraphQueryModel", "isIn", "(III)Z"⟩
def wM_isIn : List Cond := Cond.code yM_isIn bM_isIn 6 (some .boolean) :: xT
abbrev bM_has : ByteArray := prog_9_method_24_code
def yM_has : MethodName := ⟨"GraphQueryModel", "has", "(II)Z"⟩
def wM_has : List Cond := Cond.code yM_has bM_has 3 (some .boolean) :: xT
abbrev bM_begin : ByteArray := prog_9_method_25_code
def yM_begin : MethodName := ⟨"GraphQueryModel", "begin", "()V"⟩
def wM_begin : List Cond := Cond.code yM_begin bM_begin 1 none :: xT
abbrev bM_add : ByteArray := prog_9_method_26_code
def yM_add : MethodName := ⟨"GraphQueryModel", "add", "(I)V"⟩
def wM_add : List Cond := Cond.code yM_add bM_add 2 none :: xT
abbrev bM_replace : ByteArray := prog_9_method_27_code
def yM_replace : MethodName := ⟨"GraphQueryModel", "replace", "(I)V"⟩
def wM_replace : List Cond := Cond.code yM_replace bM_replace 4 none :: xT
abbrev bM_join : ByteArray := prog_9_method_28_code
def yM_join : MethodName := ⟨"GraphQueryModel", "join", "(I)V"⟩
def wM_join : List Cond := Cond.code yM_join bM_join 7 none :: xT
abbrev bM_reach : ByteArray := prog_9_method_29_code
def yM_reach : MethodName := ⟨"GraphQueryModel", "reach", "(ZI)V"⟩
def wM_reach : List Cond := Cond.code yM_reach bM_reach 9 none :: xT
abbrev bM_findWay : ByteArray := prog_9_method_30_code
def yM_findWay : MethodName := ⟨"GraphQueryModel", "findWay", "()V"⟩
def wM_findWay : List Cond := Cond.code yM_findWay bM_findWay 5 none :: xT
abbrev bM_filter : ByteArray := prog_9_method_31_code
def yM_filter : MethodName := ⟨"GraphQueryModel", "filter", "(II)V"⟩
def wM_filter : List Cond := Cond.code yM_filter bM_filter 7 none :: xT
abbrev bM_bind : ByteArray := prog_9_method_32_code
def yM_bind : MethodName := ⟨"GraphQueryModel", "bind", "(I)V"⟩
def wM_bind : List Cond := Cond.code yM_bind bM_bind 3 none :: xT
abbrev bM_recall : ByteArray := prog_9_method_33_code
def yM_recall : MethodName := ⟨"GraphQueryModel", "recall", "(I)V"⟩
def wM_recall : List Cond := Cond.code yM_recall bM_recall 4 none :: xT
abbrev bM_make : ByteArray := prog_9_method_34_code
def yM_make : MethodName := ⟨"GraphQueryModel", "make", "(II)V"⟩
def wM_make : List Cond := Cond.code yM_make bM_make 4 none :: xT
abbrev bM_does : ByteArray := prog_9_method_35_code
def yM_does : MethodName := ⟨"GraphQueryModel", "does", "(II)V"⟩
def wM_does : List Cond := Cond.code yM_does bM_does 3 none :: xT
abbrev bM_ask : ByteArray := prog_9_method_36_code
def yM_ask : MethodName := ⟨"GraphQueryModel", "ask", "()I"⟩
def wM_ask : List Cond := Cond.code yM_ask bM_ask 2 (some .int) :: xT
abbrev bM_answer : ByteArray := prog_9_method_37_code
def yM_answer : MethodName := ⟨"GraphQueryModel", "answer", "(I)I"⟩
def wM_answer : List Cond := Cond.code yM_answer bM_answer 2 (some .int) :: xT
abbrev bM_nearest : ByteArray := prog_9_method_38_code
def yM_nearest : MethodName := ⟨"GraphQueryModel", "nearest", "()I"⟩
def wM_nearest : List Cond := Cond.code yM_nearest bM_nearest 7 (some .int) :: xT
abbrev bM_far : ByteArray := prog_9_method_39_code
def yM_far : MethodName := ⟨"GraphQueryModel", "far", "(II)I"⟩
def wM_far : List Cond := Cond.code yM_far bM_far 3 (some .int) :: xT
abbrev bM_ways : ByteArray := prog_9_method_40_code
def yM_ways : MethodName := ⟨"GraphQueryModel", "ways", "(III)I"⟩
def wM_ways : List Cond := Cond.code yM_ways bM_ways 11 (some .int) :: xT
abbrev bM_work : ByteArray := prog_9_method_41_code
def yM_work : MethodName := ⟨"GraphQueryModel", "work", "()I"⟩
def wM_work : List Cond := Cond.code yM_work bM_work 1 (some .int) :: xT
end
section
theorem tw_0 : (Cond.initialized "GraphQueryLaw") ∈ xT := xT_in (List.mem_append_left _ (List.mem_of_getElem? (i := 0) rfl)) rfl
theorem tw_1 : (Cond.initialized "GraphQuery") ∈ xT := xT_in (List.mem_append_left _ (List.mem_of_getElem? (i := 1) rfl)) rfl
theorem tw_2 : (Cond.initialized "GraphQuery$Graph") ∈ xT := xT_in (List.mem_append_left _ (List.mem_of_getElem? (i := 2) rfl)) rfl
theorem tw_3 : (Cond.initialized "GraphQuery$Text") ∈ xT := xT_in (List.mem_append_left _ (List.mem_of_getElem? (i := 3) rfl)) rfl
theorem tw_4 : (Cond.initialized "GraphQuery$Parser") ∈ xT := xT_in (List.mem_append_left _ (List.mem_of_getElem? (i := 4) rfl)) rfl
theorem tw_5 : (Cond.initialized "GraphQuery$Tape") ∈ xT := xT_in (List.mem_append_left _ (List.mem_of_getElem? (i := 5) rfl)) rfl
theorem tw_6 : (Cond.initialized "GraphQuery$Runner") ∈ xT := xT_in (List.mem_append_left _ (List.mem_of_getElem? (i := 6) rfl)) rfl
theorem tw_7 : (Cond.initialized "GraphQuery$Row") ∈ xT := xT_in (List.mem_append_left _ (List.mem_of_getElem? (i := 7) rfl)) rfl
theorem tw_8 : (Cond.initialized "GraphQueryModel") ∈ xT := xT_in (List.mem_append_left _ (List.mem_of_getElem? (i := 8) rfl)) rfl
theorem tw_9 : (Cond.initialized "java/lang/String") ∈ xT := xT_in (List.mem_append_left _ (List.mem_of_getElem? (i := 9) rfl)) rfl
theorem tw_10 : (Cond.initialized "java/lang/StringLatin1") ∈ xT := xT_in (List.mem_append_left _ (List.mem_of_getElem? (i := 10) rfl)) rfl
theorem tw_11 : (Cond.initialized "jdk/internal/util/Preconditions") ∈ xT := xT_in (List.mem_append_left _ (List.mem_of_getElem? (i := 11) rfl)) rfl
theorem tw_12 : (Cond.initialized "java/lang/StringUTF16") ∈ xT := xT_in (List.mem_append_left _ (List.mem_of_getElem? (i := 12) rfl)) rfl
theorem tw_13 : (Cond.initialized "java/lang/Math") ∈ xT := xT_in (List.mem_append_left _ (List.mem_of_getElem? (i := 13) rfl)) rfl
theorem tw_14 : (Cond.initialized "java/lang/Integer") ∈ xT := xT_in (List.mem_append_left _ (List.mem_of_getElem? (i := 14) rfl)) rfl
theorem tw_15 : (Cond.classLink "GraphQueryLaw" (7 : Nat) "GraphQuery") ∈ xT := xT_in (List.mem_append_left _ (List.mem_of_getElem? (i := 15) rfl)) rfl
theorem tw_16 : (Cond.instantiable "GraphQuery" (7 : Nat)) ∈ xT := xT_in (List.mem_append_left _ (List.mem_of_getElem? (i := 16) rfl)) rfl
theorem tw_17 : (Cond.methodLink "GraphQueryLaw" (9 : Nat) ({ cls := "GraphQuery", name := "<init>", desc := "()V" } : MethodName)) ∈ xT := xT_in (List.mem_append_left _ (List.mem_of_getElem? (i := 17) rfl)) rfl
theorem tw_18 : (Cond.instanceMethod ({ cls := "GraphQuery", name := "<init>", desc := "()V" } : MethodName)) ∈ xT := xT_in (List.mem_append_left _ (List.mem_of_getElem? (i := 18) rfl)) rfl
theorem tw_19 : (Cond.code ({ cls := "GraphQuery", name := "<init>", desc := "()V" } : MethodName) prog_1_method_1_code (1 : Nat) (Option.none : Option Jvm.ClassFile.FieldType)) ∈ xT := xT_in (List.mem_append_left _ (List.mem_of_getElem? (i := 19) rfl)) rfl
theorem tw_20 : (Cond.methodLink "GraphQuery" (3 : Nat) ({ cls := "java/lang/Object", name := "<init>", desc := "()V" } : MethodName)) ∈ xT := xT_in (List.mem_append_left _ (List.mem_of_getElem? (i := 20) rfl)) rfl
theorem tw_21 : (Cond.instanceMethod ({ cls := "java/lang/Object", name := "<init>", desc := "()V" } : MethodName)) ∈ xT := xT_in (List.mem_append_left _ (List.mem_of_getElem? (i := 21) rfl)) rfl
theorem tw_22 : (Cond.code ({ cls := "java/lang/Object", name := "<init>", desc := "()V" } : MethodName) object_method_1_code (1 : Nat) (Option.none : Option Jvm.ClassFile.FieldType)) ∈ xT := xT_in (List.mem_append_left _ (List.mem_of_getElem? (i := 22) rfl)) rfl
theorem tw_23 : (Cond.classLink "GraphQuery" (9 : Nat) "GraphQuery$Graph") ∈ xT := xT_in (List.mem_append_left _ (List.mem_of_getElem? (i := 23) rfl)) rfl
theorem tw_24 : (Cond.instantiable "GraphQuery$Graph" (9 : Nat)) ∈ xT := xT_in (List.mem_append_left _ (List.mem_of_getElem? (i := 24) rfl)) rfl
theorem tw_25 : (Cond.methodLink "GraphQuery" (11 : Nat) ({ cls := "GraphQuery$Graph", name := "<init>", desc := "()V" } : MethodName)) ∈ xT := xT_in (List.mem_append_left _ (List.mem_of_getElem? (i := 25) rfl)) rfl
theorem tw_26 : (Cond.instanceMethod ({ cls := "GraphQuery$Graph", name := "<init>", desc := "()V" } : MethodName)) ∈ xT := xT_in (List.mem_append_left _ (List.mem_of_getElem? (i := 26) rfl)) rfl
theorem tw_27 : (Cond.code ({ cls := "GraphQuery$Graph", name := "<init>", desc := "()V" } : MethodName) prog_2_method_1_code (2 : Nat) (Option.none : Option Jvm.ClassFile.FieldType)) ∈ xT := xT_in (List.mem_append_left _ (List.mem_of_getElem? (i := 27) rfl)) rfl
theorem tw_28 : (Cond.methodLink "GraphQuery$Graph" (3 : Nat) ({ cls := "java/lang/Object", name := "<init>", desc := "()V" } : MethodName)) ∈ xT := xT_in (List.mem_append_left _ (List.mem_of_getElem? (i := 28) rfl)) rfl
theorem tw_29 : (Cond.fieldLink "GraphQuery$Graph" (9 : Nat) "GraphQuery$Graph" "names" "[I") ∈ xT := xT_in (List.mem_append_left _ (List.mem_of_getElem? (i := 29) rfl)) rfl
theorem tw_30 : (Cond.fieldLink "GraphQuery$Graph" (15 : Nat) "GraphQuery$Graph" "kinds" "[I") ∈ xT := xT_in (List.mem_append_left _ (List.mem_of_getElem? (i := 30) rfl)) rfl
theorem tw_31 : (Cond.fieldLink "GraphQuery$Graph" (18 : Nat) "GraphQuery$Graph" "numbers" "[I") ∈ xT := xT_in (List.mem_append_left _ (List.mem_of_getElem? (i := 31) rfl)) rfl
theorem tw_32 : (Cond.fieldLink "GraphQuery$Graph" (21 : Nat) "GraphQuery$Graph" "needRows" "[I") ∈ xT := xT_in (List.mem_append_left _ (List.mem_of_getElem? (i := 32) rfl)) rfl
theorem tw_33 : (Cond.fieldLink "GraphQuery$Graph" (24 : Nat) "GraphQuery$Graph" "needCounts" "[I") ∈ xT := xT_in (List.mem_append_left _ (List.mem_of_getElem? (i := 33) rfl)) rfl
theorem tw_34 : (Cond.fieldLink "GraphQuery$Graph" (27 : Nat) "GraphQuery$Graph" "needMasks" "[I") ∈ xT := xT_in (List.mem_append_left _ (List.mem_of_getElem? (i := 34) rfl)) rfl
theorem tw_35 : (Cond.fieldLink "GraphQuery$Graph" (30 : Nat) "GraphQuery$Graph" "userMasks" "[I") ∈ xT := xT_in (List.mem_append_left _ (List.mem_of_getElem? (i := 35) rfl)) rfl
theorem tw_36 : (Cond.fieldLink "GraphQuery$Graph" (33 : Nat) "GraphQuery$Graph" "cameBy" "[I") ∈ xT := xT_in (List.mem_append_left _ (List.mem_of_getElem? (i := 36) rfl)) rfl
theorem tw_37 : (Cond.fieldLink "GraphQuery$Graph" (36 : Nat) "GraphQuery$Graph" "count" "I") ∈ xT := xT_in (List.mem_append_left _ (List.mem_of_getElem? (i := 37) rfl)) rfl
theorem tw_57 : (Cond.arrayClass FieldType.int) ∈ xT := xT_in (List.mem_append_left _ (List.mem_of_getElem? (i := 57) rfl)) rfl
theorem tw_58 : (Cond.classLink "GraphQuery" (16 : Nat) "GraphQuery$Text") ∈ xT := xT_in (List.mem_append_left _ (List.mem_of_getElem? (i := 58) rfl)) rfl
theorem tw_59 : (Cond.instantiable "GraphQuery$Text" (2 : Nat)) ∈ xT := xT_in (List.mem_append_left _ (List.mem_of_getElem? (i := 59) rfl)) rfl
theorem tw_60 : (Cond.methodLink "GraphQuery" (18 : Nat) ({ cls := "GraphQuery$Text", name := "<init>", desc := "()V" } : MethodName)) ∈ xT := xT_in (List.mem_append_left _ (List.mem_of_getElem? (i := 60) rfl)) rfl
theorem tw_61 : (Cond.instanceMethod ({ cls := "GraphQuery$Text", name := "<init>", desc := "()V" } : MethodName)) ∈ xT := xT_in (List.mem_append_left _ (List.mem_of_getElem? (i := 61) rfl)) rfl
theorem tw_62 : (Cond.code ({ cls := "GraphQuery$Text", name := "<init>", desc := "()V" } : MethodName) prog_7_method_1_code (1 : Nat) (Option.none : Option Jvm.ClassFile.FieldType)) ∈ xT := xT_in (List.mem_append_left _ (List.mem_of_getElem? (i := 62) rfl)) rfl
theorem tw_63 : (Cond.methodLink "GraphQuery$Text" (3 : Nat) ({ cls := "java/lang/Object", name := "<init>", desc := "()V" } : MethodName)) ∈ xT := xT_in (List.mem_append_left _ (List.mem_of_getElem? (i := 63) rfl)) rfl
theorem tw_64 : (Cond.fieldLink "GraphQuery$Text" (9 : Nat) "GraphQuery$Text" "chars" "[C") ∈ xT := xT_in (List.mem_append_left _ (List.mem_of_getElem? (i := 64) rfl)) rfl
theorem tw_65 : (Cond.fieldLink "GraphQuery$Text" (15 : Nat) "GraphQuery$Text" "length" "I") ∈ xT := xT_in (List.mem_append_left _ (List.mem_of_getElem? (i := 65) rfl)) rfl
theorem tw_71 : (Cond.arrayClass FieldType.char) ∈ xT := xT_in (List.mem_append_left _ (List.mem_of_getElem? (i := 71) rfl)) rfl
theorem tw_72 : (Cond.classLink "GraphQuery" (23 : Nat) "GraphQuery$Parser") ∈ xT := xT_in (List.mem_append_left _ (List.mem_of_getElem? (i := 72) rfl)) rfl
theorem tw_73 : (Cond.instantiable "GraphQuery$Parser" (5 : Nat)) ∈ xT := xT_in (List.mem_append_left _ (List.mem_of_getElem? (i := 73) rfl)) rfl
theorem tw_74 : (Cond.methodLink "GraphQuery" (25 : Nat) ({ cls := "GraphQuery$Parser", name := "<init>", desc := "()V" } : MethodName)) ∈ xT := xT_in (List.mem_append_left _ (List.mem_of_getElem? (i := 74) rfl)) rfl
theorem tw_75 : (Cond.instanceMethod ({ cls := "GraphQuery$Parser", name := "<init>", desc := "()V" } : MethodName)) ∈ xT := xT_in (List.mem_append_left _ (List.mem_of_getElem? (i := 75) rfl)) rfl
theorem tw_76 : (Cond.code ({ cls := "GraphQuery$Parser", name := "<init>", desc := "()V" } : MethodName) prog_3_method_1_code (1 : Nat) (Option.none : Option Jvm.ClassFile.FieldType)) ∈ xT := xT_in (List.mem_append_left _ (List.mem_of_getElem? (i := 76) rfl)) rfl
theorem tw_77 : (Cond.methodLink "GraphQuery$Parser" (3 : Nat) ({ cls := "java/lang/Object", name := "<init>", desc := "()V" } : MethodName)) ∈ xT := xT_in (List.mem_append_left _ (List.mem_of_getElem? (i := 77) rfl)) rfl
theorem tw_78 : (Cond.classLink "GraphQuery$Parser" (9 : Nat) "GraphQuery$Tape") ∈ xT := xT_in (List.mem_append_left _ (List.mem_of_getElem? (i := 78) rfl)) rfl
theorem tw_79 : (Cond.instantiable "GraphQuery$Tape" (4 : Nat)) ∈ xT := xT_in (List.mem_append_left _ (List.mem_of_getElem? (i := 79) rfl)) rfl
theorem tw_80 : (Cond.methodLink "GraphQuery$Parser" (11 : Nat) ({ cls := "GraphQuery$Tape", name := "<init>", desc := "()V" } : MethodName)) ∈ xT := xT_in (List.mem_append_left _ (List.mem_of_getElem? (i := 80) rfl)) rfl
theorem tw_81 : (Cond.instanceMethod ({ cls := "GraphQuery$Tape", name := "<init>", desc := "()V" } : MethodName)) ∈ xT := xT_in (List.mem_append_left _ (List.mem_of_getElem? (i := 81) rfl)) rfl
theorem tw_82 : (Cond.code ({ cls := "GraphQuery$Tape", name := "<init>", desc := "()V" } : MethodName) prog_6_method_1_code (1 : Nat) (Option.none : Option Jvm.ClassFile.FieldType)) ∈ xT := xT_in (List.mem_append_left _ (List.mem_of_getElem? (i := 82) rfl)) rfl
theorem tw_83 : (Cond.methodLink "GraphQuery$Tape" (3 : Nat) ({ cls := "java/lang/Object", name := "<init>", desc := "()V" } : MethodName)) ∈ xT := xT_in (List.mem_append_left _ (List.mem_of_getElem? (i := 83) rfl)) rfl
theorem tw_84 : (Cond.fieldLink "GraphQuery$Tape" (9 : Nat) "GraphQuery$Tape" "kinds" "[I") ∈ xT := xT_in (List.mem_append_left _ (List.mem_of_getElem? (i := 84) rfl)) rfl
theorem tw_85 : (Cond.fieldLink "GraphQuery$Tape" (15 : Nat) "GraphQuery$Tape" "values" "[I") ∈ xT := xT_in (List.mem_append_left _ (List.mem_of_getElem? (i := 85) rfl)) rfl
theorem tw_86 : (Cond.fieldLink "GraphQuery$Tape" (18 : Nat) "GraphQuery$Tape" "places" "[I") ∈ xT := xT_in (List.mem_append_left _ (List.mem_of_getElem? (i := 86) rfl)) rfl
theorem tw_87 : (Cond.fieldLink "GraphQuery$Tape" (21 : Nat) "GraphQuery$Tape" "count" "I") ∈ xT := xT_in (List.mem_append_left _ (List.mem_of_getElem? (i := 87) rfl)) rfl
theorem tw_97 : (Cond.fieldLink "GraphQuery$Parser" (12 : Nat) "GraphQuery$Parser" "tokens" "LGraphQuery$Tape;") ∈ xT := xT_in (List.mem_append_left _ (List.mem_of_getElem? (i := 97) rfl)) rfl
theorem tw_98 : (Cond.fieldLink "GraphQuery$Parser" (18 : Nat) "GraphQuery$Parser" "program" "LGraphQuery$Tape;") ∈ xT := xT_in (List.mem_append_left _ (List.mem_of_getElem? (i := 98) rfl)) rfl
theorem tw_99 : (Cond.fieldLink "GraphQuery$Parser" (21 : Nat) "GraphQuery$Parser" "slots" "[I") ∈ xT := xT_in (List.mem_append_left _ (List.mem_of_getElem? (i := 99) rfl)) rfl
theorem tw_100 : (Cond.fieldLink "GraphQuery$Parser" (25 : Nat) "GraphQuery$Parser" "at" "I") ∈ xT := xT_in (List.mem_append_left _ (List.mem_of_getElem? (i := 100) rfl)) rfl
theorem tw_101 : (Cond.fieldLink "GraphQuery$Parser" (29 : Nat) "GraphQuery$Parser" "openLets" "I") ∈ xT := xT_in (List.mem_append_left _ (List.mem_of_getElem? (i := 101) rfl)) rfl
theorem tw_113 : (Cond.classLink "GraphQuery" (30 : Nat) "GraphQuery$Runner") ∈ xT := xT_in (List.mem_append_left _ (List.mem_of_getElem? (i := 113) rfl)) rfl
theorem tw_114 : (Cond.instantiable "GraphQuery$Runner" (3 : Nat)) ∈ xT := xT_in (List.mem_append_left _ (List.mem_of_getElem? (i := 114) rfl)) rfl
theorem tw_115 : (Cond.methodLink "GraphQuery" (32 : Nat) ({ cls := "GraphQuery$Runner", name := "<init>", desc := "()V" } : MethodName)) ∈ xT := xT_in (List.mem_append_left _ (List.mem_of_getElem? (i := 115) rfl)) rfl
theorem tw_116 : (Cond.instanceMethod ({ cls := "GraphQuery$Runner", name := "<init>", desc := "()V" } : MethodName)) ∈ xT := xT_in (List.mem_append_left _ (List.mem_of_getElem? (i := 116) rfl)) rfl
theorem tw_117 : (Cond.code ({ cls := "GraphQuery$Runner", name := "<init>", desc := "()V" } : MethodName) prog_5_method_1_code (2 : Nat) (Option.none : Option Jvm.ClassFile.FieldType)) ∈ xT := xT_in (List.mem_append_left _ (List.mem_of_getElem? (i := 117) rfl)) rfl
theorem tw_118 : (Cond.methodLink "GraphQuery$Runner" (3 : Nat) ({ cls := "java/lang/Object", name := "<init>", desc := "()V" } : MethodName)) ∈ xT := xT_in (List.mem_append_left _ (List.mem_of_getElem? (i := 118) rfl)) rfl
theorem tw_119 : (Cond.classLink "GraphQuery$Runner" (9 : Nat) "GraphQuery$Row") ∈ xT := xT_in (List.mem_append_left _ (List.mem_of_getElem? (i := 119) rfl)) rfl
theorem tw_121 : (Cond.instantiable "GraphQuery$Row" (3 : Nat)) ∈ xT := xT_in (List.mem_append_left _ (List.mem_of_getElem? (i := 121) rfl)) rfl
theorem tw_122 : (Cond.methodLink "GraphQuery$Runner" (17 : Nat) ({ cls := "GraphQuery$Row", name := "<init>", desc := "()V" } : MethodName)) ∈ xT := xT_in (List.mem_append_left _ (List.mem_of_getElem? (i := 122) rfl)) rfl
theorem tw_123 : (Cond.instanceMethod ({ cls := "GraphQuery$Row", name := "<init>", desc := "()V" } : MethodName)) ∈ xT := xT_in (List.mem_append_left _ (List.mem_of_getElem? (i := 123) rfl)) rfl
theorem tw_124 : (Cond.code ({ cls := "GraphQuery$Row", name := "<init>", desc := "()V" } : MethodName) prog_4_method_1_code (1 : Nat) (Option.none : Option Jvm.ClassFile.FieldType)) ∈ xT := xT_in (List.mem_append_left _ (List.mem_of_getElem? (i := 124) rfl)) rfl
theorem tw_125 : (Cond.methodLink "GraphQuery$Row" (3 : Nat) ({ cls := "java/lang/Object", name := "<init>", desc := "()V" } : MethodName)) ∈ xT := xT_in (List.mem_append_left _ (List.mem_of_getElem? (i := 125) rfl)) rfl
theorem tw_126 : (Cond.fieldLink "GraphQuery$Row" (9 : Nat) "GraphQuery$Row" "items" "[I") ∈ xT := xT_in (List.mem_append_left _ (List.mem_of_getElem? (i := 126) rfl)) rfl
theorem tw_127 : (Cond.fieldLink "GraphQuery$Row" (15 : Nat) "GraphQuery$Row" "count" "I") ∈ xT := xT_in (List.mem_append_left _ (List.mem_of_getElem? (i := 127) rfl)) rfl
theorem tw_128 : (Cond.fieldLink "GraphQuery$Row" (19 : Nat) "GraphQuery$Row" "mask" "I") ∈ xT := xT_in (List.mem_append_left _ (List.mem_of_getElem? (i := 128) rfl)) rfl
theorem tw_136 : (Cond.fieldLink "GraphQuery$Runner" (11 : Nat) "GraphQuery$Runner" "stack" "[LGraphQuery$Row;") ∈ xT := xT_in (List.mem_append_left _ (List.mem_of_getElem? (i := 136) rfl)) rfl
theorem tw_137 : (Cond.fieldLink "GraphQuery$Runner" (18 : Nat) "GraphQuery$Runner" "bound" "[LGraphQuery$Row;") ∈ xT := xT_in (List.mem_append_left _ (List.mem_of_getElem? (i := 137) rfl)) rfl
theorem tw_138 : (Cond.fieldLink "GraphQuery$Runner" (21 : Nat) "GraphQuery$Runner" "top" "I") ∈ xT := xT_in (List.mem_append_left _ (List.mem_of_getElem? (i := 138) rfl)) rfl
theorem tw_146 : (Cond.classLink "GraphQuery" (37 : Nat) "GraphQuery$Row") ∈ xT := xT_in (List.mem_append_left _ (List.mem_of_getElem? (i := 146) rfl)) rfl
theorem tw_147 : (Cond.methodLink "GraphQuery" (39 : Nat) ({ cls := "GraphQuery$Row", name := "<init>", desc := "()V" } : MethodName)) ∈ xT := xT_in (List.mem_append_left _ (List.mem_of_getElem? (i := 147) rfl)) rfl
theorem tw_148 : (Cond.fieldLink "GraphQuery" (12 : Nat) "GraphQuery" "graph" "LGraphQuery$Graph;") ∈ xT := xT_in (List.mem_append_left _ (List.mem_of_getElem? (i := 148) rfl)) rfl
theorem tw_149 : (Cond.fieldLink "GraphQuery" (19 : Nat) "GraphQuery" "text" "LGraphQuery$Text;") ∈ xT := xT_in (List.mem_append_left _ (List.mem_of_getElem? (i := 149) rfl)) rfl
theorem tw_150 : (Cond.fieldLink "GraphQuery" (26 : Nat) "GraphQuery" "parser" "LGraphQuery$Parser;") ∈ xT := xT_in (List.mem_append_left _ (List.mem_of_getElem? (i := 150) rfl)) rfl
theorem tw_151 : (Cond.fieldLink "GraphQuery" (33 : Nat) "GraphQuery" "runner" "LGraphQuery$Runner;") ∈ xT := xT_in (List.mem_append_left _ (List.mem_of_getElem? (i := 151) rfl)) rfl
theorem tw_152 : (Cond.fieldLink "GraphQuery" (40 : Nat) "GraphQuery" "answered" "LGraphQuery$Row;") ∈ xT := xT_in (List.mem_append_left _ (List.mem_of_getElem? (i := 152) rfl)) rfl
theorem tw_153 : (Cond.fieldLink "GraphQuery" (44 : Nat) "GraphQuery" "looked" "I") ∈ xT := xT_in (List.mem_append_left _ (List.mem_of_getElem? (i := 153) rfl)) rfl
theorem tw_154 : (Cond.fieldLink "GraphQuery" (48 : Nat) "GraphQuery" "missedName" "I") ∈ xT := xT_in (List.mem_append_left _ (List.mem_of_getElem? (i := 154) rfl)) rfl
theorem tw_170 : (Cond.methodLink "GraphQueryLaw" (13 : Nat) ({ cls := "GraphQuery", name := "target", desc := "(III)I" } : MethodName)) ∈ xT := xT_in (List.mem_append_left _ (List.mem_of_getElem? (i := 170) rfl)) rfl
theorem tw_171 : (Cond.instanceMethod ({ cls := "GraphQuery", name := "target", desc := "(III)I" } : MethodName)) ∈ xT := xT_in (List.mem_append_left _ (List.mem_of_getElem? (i := 171) rfl)) rfl
theorem tw_172 : (Cond.selects "GraphQuery" ({ cls := "GraphQuery", name := "target", desc := "(III)I" } : MethodName) ({ cls := "GraphQuery", name := "target", desc := "(III)I" } : MethodName)) ∈ xT := xT_in (List.mem_append_left _ (List.mem_of_getElem? (i := 172) rfl)) rfl
theorem tw_173 : (Cond.code ({ cls := "GraphQuery", name := "target", desc := "(III)I" } : MethodName) prog_1_method_2_code (4 : Nat) (Option.some FieldType.int)) ∈ xT := xT_in (List.mem_append_left _ (List.mem_of_getElem? (i := 173) rfl)) rfl
theorem tw_174 : (Cond.methodLink "GraphQuery" (51 : Nat) ({ cls := "GraphQuery$Graph", name := "addTarget", desc := "(III)I" } : MethodName)) ∈ xT := xT_in (List.mem_append_left _ (List.mem_of_getElem? (i := 174) rfl)) rfl
theorem tw_175 : (Cond.instanceMethod ({ cls := "GraphQuery$Graph", name := "addTarget", desc := "(III)I" } : MethodName)) ∈ xT := xT_in (List.mem_append_left _ (List.mem_of_getElem? (i := 175) rfl)) rfl
theorem tw_176 : (Cond.selects "GraphQuery$Graph" ({ cls := "GraphQuery$Graph", name := "addTarget", desc := "(III)I" } : MethodName) ({ cls := "GraphQuery$Graph", name := "addTarget", desc := "(III)I" } : MethodName)) ∈ xT := xT_in (List.mem_append_left _ (List.mem_of_getElem? (i := 176) rfl)) rfl
theorem tw_177 : (Cond.code ({ cls := "GraphQuery$Graph", name := "addTarget", desc := "(III)I" } : MethodName) prog_2_method_2_code (6 : Nat) (Option.some FieldType.int)) ∈ xT := xT_in (List.mem_append_left _ (List.mem_of_getElem? (i := 177) rfl)) rfl
theorem tw_178 : (Cond.methodLink "GraphQuery$Graph" (40 : Nat) ({ cls := "GraphQuery$Graph", name := "below", desc := "(II)Z" } : MethodName)) ∈ xT := xT_in (List.mem_append_left _ (List.mem_of_getElem? (i := 178) rfl)) rfl
theorem tw_179 : (Cond.static ({ cls := "GraphQuery$Graph", name := "below", desc := "(II)Z" } : MethodName)) ∈ xT := xT_in (List.mem_append_left _ (List.mem_of_getElem? (i := 179) rfl)) rfl
theorem tw_180 : (Cond.code ({ cls := "GraphQuery$Graph", name := "below", desc := "(II)Z" } : MethodName) prog_2_method_24_code (2 : Nat) (Option.some FieldType.boolean)) ∈ xT := xT_in (List.mem_append_left _ (List.mem_of_getElem? (i := 180) rfl)) rfl
theorem tw_181 : (Cond.methodLink "GraphQueryLaw" (18 : Nat) ({ cls := "GraphQuery", name := "needs", desc := "(II)Z" } : MethodName)) ∈ xT := xT_in (List.mem_append_left _ (List.mem_of_getElem? (i := 181) rfl)) rfl
theorem tw_182 : (Cond.instanceMethod ({ cls := "GraphQuery", name := "needs", desc := "(II)Z" } : MethodName)) ∈ xT := xT_in (List.mem_append_left _ (List.mem_of_getElem? (i := 182) rfl)) rfl
theorem tw_183 : (Cond.selects "GraphQuery" ({ cls := "GraphQuery", name := "needs", desc := "(II)Z" } : MethodName) ({ cls := "GraphQuery", name := "needs", desc := "(II)Z" } : MethodName)) ∈ xT := xT_in (List.mem_append_left _ (List.mem_of_getElem? (i := 183) rfl)) rfl
theorem tw_184 : (Cond.code ({ cls := "GraphQuery", name := "needs", desc := "(II)Z" } : MethodName) prog_1_method_3_code (3 : Nat) (Option.some FieldType.boolean)) ∈ xT := xT_in (List.mem_append_left _ (List.mem_of_getElem? (i := 184) rfl)) rfl
theorem tw_185 : (Cond.methodLink "GraphQuery" (55 : Nat) ({ cls := "GraphQuery$Graph", name := "addNeed", desc := "(II)Z" } : MethodName)) ∈ xT := xT_in (List.mem_append_left _ (List.mem_of_getElem? (i := 185) rfl)) rfl
theorem tw_186 : (Cond.instanceMethod ({ cls := "GraphQuery$Graph", name := "addNeed", desc := "(II)Z" } : MethodName)) ∈ xT := xT_in (List.mem_append_left _ (List.mem_of_getElem? (i := 186) rfl)) rfl
theorem tw_187 : (Cond.selects "GraphQuery$Graph" ({ cls := "GraphQuery$Graph", name := "addNeed", desc := "(II)Z" } : MethodName) ({ cls := "GraphQuery$Graph", name := "addNeed", desc := "(II)Z" } : MethodName)) ∈ xT := xT_in (List.mem_append_left _ (List.mem_of_getElem? (i := 187) rfl)) rfl
theorem tw_188 : (Cond.code ({ cls := "GraphQuery$Graph", name := "addNeed", desc := "(II)Z" } : MethodName) prog_2_method_3_code (3 : Nat) (Option.some FieldType.boolean)) ∈ xT := xT_in (List.mem_append_left _ (List.mem_of_getElem? (i := 188) rfl)) rfl
theorem tw_190 : (Cond.static ({ cls := "GraphQuery", name := "isIn", desc := "(II)Z" } : MethodName)) ∈ xT := xT_in (List.mem_append_left _ (List.mem_of_getElem? (i := 190) rfl)) rfl
theorem tw_191 : (Cond.code ({ cls := "GraphQuery", name := "isIn", desc := "(II)Z" } : MethodName) prog_1_method_14_code (2 : Nat) (Option.some FieldType.boolean)) ∈ xT := xT_in (List.mem_append_left _ (List.mem_of_getElem? (i := 191) rfl)) rfl
theorem tw_192 : (Cond.methodLink "GraphQueryLaw" (23 : Nat) ({ cls := "GraphQuery", name := "need", desc := "(II)I" } : MethodName)) ∈ xT := xT_in (List.mem_append_left _ (List.mem_of_getElem? (i := 192) rfl)) rfl
theorem tw_193 : (Cond.instanceMethod ({ cls := "GraphQuery", name := "need", desc := "(II)I" } : MethodName)) ∈ xT := xT_in (List.mem_append_left _ (List.mem_of_getElem? (i := 193) rfl)) rfl
theorem tw_194 : (Cond.selects "GraphQuery" ({ cls := "GraphQuery", name := "need", desc := "(II)I" } : MethodName) ({ cls := "GraphQuery", name := "need", desc := "(II)I" } : MethodName)) ∈ xT := xT_in (List.mem_append_left _ (List.mem_of_getElem? (i := 194) rfl)) rfl
theorem tw_195 : (Cond.code ({ cls := "GraphQuery", name := "need", desc := "(II)I" } : MethodName) prog_1_method_4_code (3 : Nat) (Option.some FieldType.int)) ∈ xT := xT_in (List.mem_append_left _ (List.mem_of_getElem? (i := 195) rfl)) rfl
theorem tw_196 : (Cond.methodLink "GraphQuery" (59 : Nat) ({ cls := "GraphQuery$Graph", name := "needAt", desc := "(II)I" } : MethodName)) ∈ xT := xT_in (List.mem_append_left _ (List.mem_of_getElem? (i := 196) rfl)) rfl
theorem tw_197 : (Cond.instanceMethod ({ cls := "GraphQuery$Graph", name := "needAt", desc := "(II)I" } : MethodName)) ∈ xT := xT_in (List.mem_append_left _ (List.mem_of_getElem? (i := 197) rfl)) rfl
theorem tw_198 : (Cond.selects "GraphQuery$Graph" ({ cls := "GraphQuery$Graph", name := "needAt", desc := "(II)I" } : MethodName) ({ cls := "GraphQuery$Graph", name := "needAt", desc := "(II)I" } : MethodName)) ∈ xT := xT_in (List.mem_append_left _ (List.mem_of_getElem? (i := 198) rfl)) rfl
theorem tw_199 : (Cond.code ({ cls := "GraphQuery$Graph", name := "needAt", desc := "(II)I" } : MethodName) prog_2_method_4_code (3 : Nat) (Option.some FieldType.int)) ∈ xT := xT_in (List.mem_append_left _ (List.mem_of_getElem? (i := 199) rfl)) rfl
theorem tw_200 : (Cond.methodLink "GraphQueryLaw" (28 : Nat) ({ cls := "GraphQuery", name := "type", desc := "(C)Z" } : MethodName)) ∈ xT := xT_in (List.mem_append_left _ (List.mem_of_getElem? (i := 200) rfl)) rfl
theorem tw_201 : (Cond.instanceMethod ({ cls := "GraphQuery", name := "type", desc := "(C)Z" } : MethodName)) ∈ xT := xT_in (List.mem_append_left _ (List.mem_of_getElem? (i := 201) rfl)) rfl
theorem tw_202 : (Cond.selects "GraphQuery" ({ cls := "GraphQuery", name := "type", desc := "(C)Z" } : MethodName) ({ cls := "GraphQuery", name := "type", desc := "(C)Z" } : MethodName)) ∈ xT := xT_in (List.mem_append_left _ (List.mem_of_getElem? (i := 202) rfl)) rfl
theorem tw_203 : (Cond.code ({ cls := "GraphQuery", name := "type", desc := "(C)Z" } : MethodName) prog_1_method_5_code (2 : Nat) (Option.some FieldType.boolean)) ∈ xT := xT_in (List.mem_append_left _ (List.mem_of_getElem? (i := 203) rfl)) rfl
theorem tw_204 : (Cond.methodLink "GraphQuery" (63 : Nat) ({ cls := "GraphQuery$Text", name := "append", desc := "(C)Z" } : MethodName)) ∈ xT := xT_in (List.mem_append_left _ (List.mem_of_getElem? (i := 204) rfl)) rfl
theorem tw_205 : (Cond.instanceMethod ({ cls := "GraphQuery$Text", name := "append", desc := "(C)Z" } : MethodName)) ∈ xT := xT_in (List.mem_append_left _ (List.mem_of_getElem? (i := 205) rfl)) rfl
theorem tw_206 : (Cond.selects "GraphQuery$Text" ({ cls := "GraphQuery$Text", name := "append", desc := "(C)Z" } : MethodName) ({ cls := "GraphQuery$Text", name := "append", desc := "(C)Z" } : MethodName)) ∈ xT := xT_in (List.mem_append_left _ (List.mem_of_getElem? (i := 206) rfl)) rfl
theorem tw_207 : (Cond.code ({ cls := "GraphQuery$Text", name := "append", desc := "(C)Z" } : MethodName) prog_7_method_2_code (2 : Nat) (Option.some FieldType.boolean)) ∈ xT := xT_in (List.mem_append_left _ (List.mem_of_getElem? (i := 207) rfl)) rfl
theorem tw_208 : (Cond.methodLink "GraphQueryLaw" (33 : Nat) ({ cls := "GraphQuery", name := "ask", desc := "()I" } : MethodName)) ∈ xT := xT_in (List.mem_append_left _ (List.mem_of_getElem? (i := 208) rfl)) rfl
theorem tw_209 : (Cond.instanceMethod ({ cls := "GraphQuery", name := "ask", desc := "()I" } : MethodName)) ∈ xT := xT_in (List.mem_append_left _ (List.mem_of_getElem? (i := 209) rfl)) rfl
theorem tw_210 : (Cond.selects "GraphQuery" ({ cls := "GraphQuery", name := "ask", desc := "()I" } : MethodName) ({ cls := "GraphQuery", name := "ask", desc := "()I" } : MethodName)) ∈ xT := xT_in (List.mem_append_left _ (List.mem_of_getElem? (i := 210) rfl)) rfl
theorem tw_211 : (Cond.code ({ cls := "GraphQuery", name := "ask", desc := "()I" } : MethodName) prog_1_method_6_code (4 : Nat) (Option.some FieldType.int)) ∈ xT := xT_in (List.mem_append_left _ (List.mem_of_getElem? (i := 211) rfl)) rfl
theorem tw_212 : (Cond.methodLink "GraphQuery" (67 : Nat) ({ cls := "GraphQuery$Parser", name := "parse", desc := "(LGraphQuery$Text;)Z" } : MethodName)) ∈ xT := xT_in (List.mem_append_left _ (List.mem_of_getElem? (i := 212) rfl)) rfl
theorem tw_213 : (Cond.instanceMethod ({ cls := "GraphQuery$Parser", name := "parse", desc := "(LGraphQuery$Text;)Z" } : MethodName)) ∈ xT := xT_in (List.mem_append_left _ (List.mem_of_getElem? (i := 213) rfl)) rfl
theorem tw_214 : (Cond.selects "GraphQuery$Parser" ({ cls := "GraphQuery$Parser", name := "parse", desc := "(LGraphQuery$Text;)Z" } : MethodName) ({ cls := "GraphQuery$Parser", name := "parse", desc := "(LGraphQuery$Text;)Z" } : MethodName)) ∈ xT := xT_in (List.mem_append_left _ (List.mem_of_getElem? (i := 214) rfl)) rfl
theorem tw_215 : (Cond.code ({ cls := "GraphQuery$Parser", name := "parse", desc := "(LGraphQuery$Text;)Z" } : MethodName) prog_3_method_2_code (3 : Nat) (Option.some FieldType.boolean)) ∈ xT := xT_in (List.mem_append_left _ (List.mem_of_getElem? (i := 215) rfl)) rfl
theorem tw_216 : (Cond.methodLink "GraphQuery$Parser" (32 : Nat) ({ cls := "GraphQuery$Text", name := "split", desc := "(LGraphQuery$Tape;)V" } : MethodName)) ∈ xT := xT_in (List.mem_append_left _ (List.mem_of_getElem? (i := 216) rfl)) rfl
theorem tw_217 : (Cond.instanceMethod ({ cls := "GraphQuery$Text", name := "split", desc := "(LGraphQuery$Tape;)V" } : MethodName)) ∈ xT := xT_in (List.mem_append_left _ (List.mem_of_getElem? (i := 217) rfl)) rfl
theorem tw_218 : (Cond.selects "GraphQuery$Text" ({ cls := "GraphQuery$Text", name := "split", desc := "(LGraphQuery$Tape;)V" } : MethodName) ({ cls := "GraphQuery$Text", name := "split", desc := "(LGraphQuery$Tape;)V" } : MethodName)) ∈ xT := xT_in (List.mem_append_left _ (List.mem_of_getElem? (i := 218) rfl)) rfl
theorem tw_219 : (Cond.code ({ cls := "GraphQuery$Text", name := "split", desc := "(LGraphQuery$Tape;)V" } : MethodName) prog_7_method_4_code (6 : Nat) (Option.none : Option Jvm.ClassFile.FieldType)) ∈ xT := xT_in (List.mem_append_left _ (List.mem_of_getElem? (i := 219) rfl)) rfl
theorem tw_220 : (Cond.methodLink "GraphQuery$Text" (19 : Nat) ({ cls := "GraphQuery$Tape", name := "clear", desc := "()V" } : MethodName)) ∈ xT := xT_in (List.mem_append_left _ (List.mem_of_getElem? (i := 220) rfl)) rfl
theorem tw_221 : (Cond.instanceMethod ({ cls := "GraphQuery$Tape", name := "clear", desc := "()V" } : MethodName)) ∈ xT := xT_in (List.mem_append_left _ (List.mem_of_getElem? (i := 221) rfl)) rfl
theorem tw_222 : (Cond.selects "GraphQuery$Tape" ({ cls := "GraphQuery$Tape", name := "clear", desc := "()V" } : MethodName) ({ cls := "GraphQuery$Tape", name := "clear", desc := "()V" } : MethodName)) ∈ xT := xT_in (List.mem_append_left _ (List.mem_of_getElem? (i := 222) rfl)) rfl
theorem tw_223 : (Cond.code ({ cls := "GraphQuery$Tape", name := "clear", desc := "()V" } : MethodName) prog_6_method_2_code (1 : Nat) (Option.none : Option Jvm.ClassFile.FieldType)) ∈ xT := xT_in (List.mem_append_left _ (List.mem_of_getElem? (i := 223) rfl)) rfl
theorem tw_224 : (Cond.methodLink "GraphQuery$Text" (24 : Nat) ({ cls := "GraphQuery$Text", name := "charAt", desc := "(I)C" } : MethodName)) ∈ xT := xT_in (List.mem_append_left _ (List.mem_of_getElem? (i := 224) rfl)) rfl
theorem tw_226 : (Cond.instanceMethod ({ cls := "GraphQuery$Text", name := "charAt", desc := "(I)C" } : MethodName)) ∈ xT := xT_in (List.mem_append_left _ (List.mem_of_getElem? (i := 226) rfl)) rfl
theorem tw_227 : (Cond.code ({ cls := "GraphQuery$Text", name := "charAt", desc := "(I)C" } : MethodName) prog_7_method_5_code (2 : Nat) (Option.some FieldType.char)) ∈ xT := xT_in (List.mem_append_left _ (List.mem_of_getElem? (i := 227) rfl)) rfl
theorem tw_228 : (Cond.methodLink "GraphQuery$Text" (28 : Nat) ({ cls := "GraphQuery$Text", name := "isRowChar", desc := "(C)Z" } : MethodName)) ∈ xT := xT_in (List.mem_append_left _ (List.mem_of_getElem? (i := 228) rfl)) rfl
theorem tw_229 : (Cond.static ({ cls := "GraphQuery$Text", name := "isRowChar", desc := "(C)Z" } : MethodName)) ∈ xT := xT_in (List.mem_append_left _ (List.mem_of_getElem? (i := 229) rfl)) rfl
theorem tw_230 : (Cond.code ({ cls := "GraphQuery$Text", name := "isRowChar", desc := "(C)Z" } : MethodName) prog_7_method_10_code (1 : Nat) (Option.some FieldType.boolean)) ∈ xT := xT_in (List.mem_append_left _ (List.mem_of_getElem? (i := 230) rfl)) rfl
theorem tw_231 : (Cond.methodLink "GraphQuery$Text" (50 : Nat) ({ cls := "GraphQuery$Text", name := "isDigit", desc := "(C)Z" } : MethodName)) ∈ xT := xT_in (List.mem_append_left _ (List.mem_of_getElem? (i := 231) rfl)) rfl
theorem tw_232 : (Cond.static ({ cls := "GraphQuery$Text", name := "isDigit", desc := "(C)Z" } : MethodName)) ∈ xT := xT_in (List.mem_append_left _ (List.mem_of_getElem? (i := 232) rfl)) rfl
theorem tw_233 : (Cond.code ({ cls := "GraphQuery$Text", name := "isDigit", desc := "(C)Z" } : MethodName) prog_7_method_11_code (1 : Nat) (Option.some FieldType.boolean)) ∈ xT := xT_in (List.mem_append_left _ (List.mem_of_getElem? (i := 233) rfl)) rfl
theorem tw_234 : (Cond.methodLink "GraphQuery$Text" (47 : Nat) ({ cls := "GraphQuery$Text", name := "isCapital", desc := "(C)Z" } : MethodName)) ∈ xT := xT_in (List.mem_append_left _ (List.mem_of_getElem? (i := 234) rfl)) rfl
theorem tw_235 : (Cond.static ({ cls := "GraphQuery$Text", name := "isCapital", desc := "(C)Z" } : MethodName)) ∈ xT := xT_in (List.mem_append_left _ (List.mem_of_getElem? (i := 235) rfl)) rfl
theorem tw_236 : (Cond.code ({ cls := "GraphQuery$Text", name := "isCapital", desc := "(C)Z" } : MethodName) prog_7_method_12_code (1 : Nat) (Option.some FieldType.boolean)) ∈ xT := xT_in (List.mem_append_left _ (List.mem_of_getElem? (i := 236) rfl)) rfl
theorem tw_237 : (Cond.methodLink "GraphQuery$Text" (32 : Nat) ({ cls := "GraphQuery$Text", name := "rowKind", desc := "(II)I" } : MethodName)) ∈ xT := xT_in (List.mem_append_left _ (List.mem_of_getElem? (i := 237) rfl)) rfl
theorem tw_239 : (Cond.instanceMethod ({ cls := "GraphQuery$Text", name := "rowKind", desc := "(II)I" } : MethodName)) ∈ xT := xT_in (List.mem_append_left _ (List.mem_of_getElem? (i := 239) rfl)) rfl
theorem tw_240 : (Cond.code ({ cls := "GraphQuery$Text", name := "rowKind", desc := "(II)I" } : MethodName) prog_7_method_6_code (5 : Nat) (Option.some FieldType.int)) ∈ xT := xT_in (List.mem_append_right _ (List.mem_append_left _ (List.mem_of_getElem? (i := 0) rfl))) rfl
theorem tw_241 : (Cond.methodLink "GraphQuery$Text" (53 : Nat) ({ cls := "GraphQuery$Text", name := "wordKind", desc := "(II)I" } : MethodName)) ∈ xT := xT_in (List.mem_append_right _ (List.mem_append_left _ (List.mem_of_getElem? (i := 1) rfl))) rfl
theorem tw_243 : (Cond.instanceMethod ({ cls := "GraphQuery$Text", name := "wordKind", desc := "(II)I" } : MethodName)) ∈ xT := xT_in (List.mem_append_right _ (List.mem_append_left _ (List.mem_of_getElem? (i := 3) rfl))) rfl
theorem tw_244 : (Cond.code ({ cls := "GraphQuery$Text", name := "wordKind", desc := "(II)I" } : MethodName) prog_7_method_8_code (3 : Nat) (Option.some FieldType.int)) ∈ xT := xT_in (List.mem_append_right _ (List.mem_append_left _ (List.mem_of_getElem? (i := 4) rfl))) rfl
theorem tw_246 : (Cond.methodLink "GraphQuery$Text" (58 : Nat) ({ cls := "GraphQuery$Text", name := "spells", desc := "(Ljava/lang/String;II)Z" } : MethodName)) ∈ xT := xT_in (List.mem_append_right _ (List.mem_append_left _ (List.mem_of_getElem? (i := 6) rfl))) rfl
theorem tw_248 : (Cond.instanceMethod ({ cls := "GraphQuery$Text", name := "spells", desc := "(Ljava/lang/String;II)Z" } : MethodName)) ∈ xT := xT_in (List.mem_append_right _ (List.mem_append_left _ (List.mem_of_getElem? (i := 8) rfl))) rfl
theorem tw_249 : (Cond.code ({ cls := "GraphQuery$Text", name := "spells", desc := "(Ljava/lang/String;II)Z" } : MethodName) prog_7_method_9_code (5 : Nat) (Option.some FieldType.boolean)) ∈ xT := xT_in (List.mem_append_right _ (List.mem_append_left _ (List.mem_of_getElem? (i := 9) rfl))) rfl
theorem tw_250 : (Cond.methodLink "GraphQuery$Text" (78 : Nat) ({ cls := "java/lang/String", name := "length", desc := "()I" } : MethodName)) ∈ xT := xT_in (List.mem_append_right _ (List.mem_append_left _ (List.mem_of_getElem? (i := 10) rfl))) rfl
theorem tw_251 : (Cond.instanceMethod ({ cls := "java/lang/String", name := "length", desc := "()I" } : MethodName)) ∈ xT := xT_in (List.mem_append_right _ (List.mem_append_left _ (List.mem_of_getElem? (i := 11) rfl))) rfl
theorem tw_252 : (Cond.selects "java/lang/String" ({ cls := "java/lang/String", name := "length", desc := "()I" } : MethodName) ({ cls := "java/lang/String", name := "length", desc := "()I" } : MethodName)) ∈ xT := xT_in (List.mem_append_right _ (List.mem_append_left _ (List.mem_of_getElem? (i := 12) rfl))) rfl
theorem tw_253 : (Cond.code ({ cls := "java/lang/String", name := "length", desc := "()I" } : MethodName) prog_12_method_54_code (1 : Nat) (Option.some FieldType.int)) ∈ xT := xT_in (List.mem_append_right _ (List.mem_append_left _ (List.mem_of_getElem? (i := 13) rfl))) rfl
theorem tw_254 : (Cond.methodLink "java/lang/String" (335 : Nat) ({ cls := "java/lang/String", name := "coder", desc := "()B" } : MethodName)) ∈ xT := xT_in (List.mem_append_right _ (List.mem_append_left _ (List.mem_of_getElem? (i := 14) rfl))) rfl
theorem tw_255 : (Cond.instanceMethod ({ cls := "java/lang/String", name := "coder", desc := "()B" } : MethodName)) ∈ xT := xT_in (List.mem_append_right _ (List.mem_append_left _ (List.mem_of_getElem? (i := 15) rfl))) rfl
theorem tw_256 : (Cond.selects "java/lang/String" ({ cls := "java/lang/String", name := "coder", desc := "()B" } : MethodName) ({ cls := "java/lang/String", name := "coder", desc := "()B" } : MethodName)) ∈ xT := xT_in (List.mem_append_right _ (List.mem_append_left _ (List.mem_of_getElem? (i := 16) rfl))) rfl
theorem tw_257 : (Cond.code ({ cls := "java/lang/String", name := "coder", desc := "()B" } : MethodName) prog_12_method_152_code (1 : Nat) (Option.some FieldType.byte)) ∈ xT := xT_in (List.mem_append_right _ (List.mem_append_left _ (List.mem_of_getElem? (i := 17) rfl))) rfl
theorem tw_258 : (Cond.fieldLink "java/lang/String" (38 : Nat) "java/lang/String" "COMPACT_STRINGS" "Z") ∈ xT := xT_in (List.mem_append_right _ (List.mem_append_left _ (List.mem_of_getElem? (i := 18) rfl))) rfl
theorem tw_260 : (Cond.methodLink "GraphQuery$Text" (83 : Nat) ({ cls := "java/lang/String", name := "charAt", desc := "(I)C" } : MethodName)) ∈ xT := xT_in (List.mem_append_right _ (List.mem_append_left _ (List.mem_of_getElem? (i := 20) rfl))) rfl
theorem tw_261 : (Cond.instanceMethod ({ cls := "java/lang/String", name := "charAt", desc := "(I)C" } : MethodName)) ∈ xT := xT_in (List.mem_append_right _ (List.mem_append_left _ (List.mem_of_getElem? (i := 21) rfl))) rfl
theorem tw_262 : (Cond.selects "java/lang/String" ({ cls := "java/lang/String", name := "charAt", desc := "(I)C" } : MethodName) ({ cls := "java/lang/String", name := "charAt", desc := "(I)C" } : MethodName)) ∈ xT := xT_in (List.mem_append_right _ (List.mem_append_left _ (List.mem_of_getElem? (i := 22) rfl))) rfl
theorem tw_263 : (Cond.code ({ cls := "java/lang/String", name := "charAt", desc := "(I)C" } : MethodName) prog_12_method_56_code (2 : Nat) (Option.some FieldType.char)) ∈ xT := xT_in (List.mem_append_right _ (List.mem_append_left _ (List.mem_of_getElem? (i := 23) rfl))) rfl
theorem tw_264 : (Cond.methodLink "java/lang/String" (492 : Nat) ({ cls := "java/lang/String", name := "isLatin1", desc := "()Z" } : MethodName)) ∈ xT := xT_in (List.mem_append_right _ (List.mem_append_left _ (List.mem_of_getElem? (i := 24) rfl))) rfl
theorem tw_265 : (Cond.instanceMethod ({ cls := "java/lang/String", name := "isLatin1", desc := "()Z" } : MethodName)) ∈ xT := xT_in (List.mem_append_right _ (List.mem_append_left _ (List.mem_of_getElem? (i := 25) rfl))) rfl
theorem tw_266 : (Cond.selects "java/lang/String" ({ cls := "java/lang/String", name := "isLatin1", desc := "()Z" } : MethodName) ({ cls := "java/lang/String", name := "isLatin1", desc := "()Z" } : MethodName)) ∈ xT := xT_in (List.mem_append_right _ (List.mem_append_left _ (List.mem_of_getElem? (i := 26) rfl))) rfl
theorem tw_267 : (Cond.code ({ cls := "java/lang/String", name := "isLatin1", desc := "()Z" } : MethodName) prog_12_method_154_code (1 : Nat) (Option.some FieldType.boolean)) ∈ xT := xT_in (List.mem_append_right _ (List.mem_append_left _ (List.mem_of_getElem? (i := 27) rfl))) rfl
theorem tw_268 : (Cond.methodLink "java/lang/String" (495 : Nat) ({ cls := "java/lang/StringLatin1", name := "charAt", desc := "([BI)C" } : MethodName)) ∈ xT := xT_in (List.mem_append_right _ (List.mem_append_left _ (List.mem_of_getElem? (i := 28) rfl))) rfl
theorem tw_269 : (Cond.static ({ cls := "java/lang/StringLatin1", name := "charAt", desc := "([BI)C" } : MethodName)) ∈ xT := xT_in (List.mem_append_right _ (List.mem_append_left _ (List.mem_of_getElem? (i := 29) rfl))) rfl
theorem tw_270 : (Cond.code ({ cls := "java/lang/StringLatin1", name := "charAt", desc := "([BI)C" } : MethodName) prog_13_method_2_code (2 : Nat) (Option.some FieldType.char)) ∈ xT := xT_in (List.mem_append_right _ (List.mem_append_left _ (List.mem_of_getElem? (i := 30) rfl))) rfl
theorem tw_271 : (Cond.methodLink "java/lang/StringLatin1" (9 : Nat) ({ cls := "java/lang/String", name := "checkIndex", desc := "(II)V" } : MethodName)) ∈ xT := xT_in (List.mem_append_right _ (List.mem_append_left _ (List.mem_of_getElem? (i := 31) rfl))) rfl
theorem tw_272 : (Cond.static ({ cls := "java/lang/String", name := "checkIndex", desc := "(II)V" } : MethodName)) ∈ xT := xT_in (List.mem_append_right _ (List.mem_append_left _ (List.mem_of_getElem? (i := 32) rfl))) rfl
theorem tw_273 : (Cond.code ({ cls := "java/lang/String", name := "checkIndex", desc := "(II)V" } : MethodName) prog_12_method_155_code (2 : Nat) (Option.none : Option Jvm.ClassFile.FieldType)) ∈ xT := xT_in (List.mem_append_right _ (List.mem_append_left _ (List.mem_of_getElem? (i := 33) rfl))) rfl
theorem tw_274 : (Cond.fieldLink "java/lang/String" (1053 : Nat) "jdk/internal/util/Preconditions" "SIOOBE_FORMATTER" "Ljava/util/function/BiFunction;") ∈ xT := xT_in (List.mem_append_right _ (List.mem_append_left _ (List.mem_of_getElem? (i := 34) rfl))) rfl
theorem tw_276 : (Cond.methodLink "java/lang/String" (1059 : Nat) ({ cls := "jdk/internal/util/Preconditions", name := "checkIndex", desc := "(IILjava/util/function/BiFunction;)I" } : MethodName)) ∈ xT := xT_in (List.mem_append_right _ (List.mem_append_left _ (List.mem_of_getElem? (i := 36) rfl))) rfl
theorem tw_277 : (Cond.static ({ cls := "jdk/internal/util/Preconditions", name := "checkIndex", desc := "(IILjava/util/function/BiFunction;)I" } : MethodName)) ∈ xT := xT_in (List.mem_append_right _ (List.mem_append_left _ (List.mem_of_getElem? (i := 37) rfl))) rfl
theorem tw_278 : (Cond.code ({ cls := "jdk/internal/util/Preconditions", name := "checkIndex", desc := "(IILjava/util/function/BiFunction;)I" } : MethodName) prog_15_method_11_code (3 : Nat) (Option.some FieldType.int)) ∈ xT := xT_in (List.mem_append_right _ (List.mem_append_left _ (List.mem_of_getElem? (i := 38) rfl))) rfl
theorem tw_279 : (Cond.methodLink "java/lang/String" (498 : Nat) ({ cls := "java/lang/StringUTF16", name := "charAt", desc := "([BI)C" } : MethodName)) ∈ xT := xT_in (List.mem_append_right _ (List.mem_append_left _ (List.mem_of_getElem? (i := 39) rfl))) rfl
theorem tw_280 : (Cond.static ({ cls := "java/lang/StringUTF16", name := "charAt", desc := "([BI)C" } : MethodName)) ∈ xT := xT_in (List.mem_append_right _ (List.mem_append_left _ (List.mem_of_getElem? (i := 40) rfl))) rfl
theorem tw_281 : (Cond.code ({ cls := "java/lang/StringUTF16", name := "charAt", desc := "([BI)C" } : MethodName) prog_14_method_83_code (2 : Nat) (Option.some FieldType.char)) ∈ xT := xT_in (List.mem_append_right _ (List.mem_append_left _ (List.mem_of_getElem? (i := 41) rfl))) rfl
theorem tw_282 : (Cond.methodLink "java/lang/StringUTF16" (67 : Nat) ({ cls := "java/lang/StringUTF16", name := "checkIndex", desc := "(I[B)V" } : MethodName)) ∈ xT := xT_in (List.mem_append_right _ (List.mem_append_left _ (List.mem_of_getElem? (i := 42) rfl))) rfl
theorem tw_283 : (Cond.static ({ cls := "java/lang/StringUTF16", name := "checkIndex", desc := "(I[B)V" } : MethodName)) ∈ xT := xT_in (List.mem_append_right _ (List.mem_append_left _ (List.mem_of_getElem? (i := 43) rfl))) rfl
theorem tw_284 : (Cond.code ({ cls := "java/lang/StringUTF16", name := "checkIndex", desc := "(I[B)V" } : MethodName) prog_14_method_91_code (2 : Nat) (Option.none : Option Jvm.ClassFile.FieldType)) ∈ xT := xT_in (List.mem_append_right _ (List.mem_append_left _ (List.mem_of_getElem? (i := 44) rfl))) rfl
theorem tw_285 : (Cond.methodLink "java/lang/StringUTF16" (48 : Nat) ({ cls := "java/lang/StringUTF16", name := "length", desc := "([B)I" } : MethodName)) ∈ xT := xT_in (List.mem_append_right _ (List.mem_append_left _ (List.mem_of_getElem? (i := 45) rfl))) rfl
theorem tw_286 : (Cond.static ({ cls := "java/lang/StringUTF16", name := "length", desc := "([B)I" } : MethodName)) ∈ xT := xT_in (List.mem_append_right _ (List.mem_append_left _ (List.mem_of_getElem? (i := 46) rfl))) rfl
theorem tw_287 : (Cond.code ({ cls := "java/lang/StringUTF16", name := "length", desc := "([B)I" } : MethodName) prog_14_method_6_code (1 : Nat) (Option.some FieldType.int)) ∈ xT := xT_in (List.mem_append_right _ (List.mem_append_left _ (List.mem_of_getElem? (i := 47) rfl))) rfl
theorem tw_288 : (Cond.methodLink "java/lang/StringUTF16" (414 : Nat) ({ cls := "java/lang/String", name := "checkIndex", desc := "(II)V" } : MethodName)) ∈ xT := xT_in (List.mem_append_right _ (List.mem_append_left _ (List.mem_of_getElem? (i := 48) rfl))) rfl
theorem tw_289 : (Cond.methodLink "java/lang/StringUTF16" (71 : Nat) ({ cls := "java/lang/StringUTF16", name := "getChar", desc := "([BI)C" } : MethodName)) ∈ xT := xT_in (List.mem_append_right _ (List.mem_append_left _ (List.mem_of_getElem? (i := 49) rfl))) rfl
theorem tw_290 : (Cond.static ({ cls := "java/lang/StringUTF16", name := "getChar", desc := "([BI)C" } : MethodName)) ∈ xT := xT_in (List.mem_append_right _ (List.mem_append_left _ (List.mem_of_getElem? (i := 50) rfl))) rfl
theorem tw_291 : (Cond.code ({ cls := "java/lang/StringUTF16", name := "getChar", desc := "([BI)C" } : MethodName) prog_14_method_5_code (2 : Nat) (Option.some FieldType.char)) ∈ xT := xT_in (List.mem_append_right _ (List.mem_append_left _ (List.mem_of_getElem? (i := 51) rfl))) rfl
theorem tw_292 : (Cond.fieldLink "java/lang/StringUTF16" (44 : Nat) "java/lang/StringUTF16" "$assertionsDisabled" "Z") ∈ xT := xT_in (List.mem_append_right _ (List.mem_append_left _ (List.mem_of_getElem? (i := 52) rfl))) rfl
theorem tw_294 : (Cond.fieldLink "java/lang/StringUTF16" (59 : Nat) "java/lang/StringUTF16" "HI_BYTE_SHIFT" "I") ∈ xT := xT_in (List.mem_append_right _ (List.mem_append_left _ (List.mem_of_getElem? (i := 54) rfl))) rfl
theorem tw_296 : (Cond.fieldLink "java/lang/StringUTF16" (63 : Nat) "java/lang/StringUTF16" "LO_BYTE_SHIFT" "I") ∈ xT := xT_in (List.mem_append_right _ (List.mem_append_left _ (List.mem_of_getElem? (i := 56) rfl))) rfl
theorem tw_306 : (Cond.methodLink "GraphQuery$Text" (36 : Nat) ({ cls := "GraphQuery$Text", name := "rowValue", desc := "(III)I" } : MethodName)) ∈ xT := xT_in (List.mem_append_right _ (List.mem_append_left _ (List.mem_of_getElem? (i := 66) rfl))) rfl
theorem tw_308 : (Cond.instanceMethod ({ cls := "GraphQuery$Text", name := "rowValue", desc := "(III)I" } : MethodName)) ∈ xT := xT_in (List.mem_append_right _ (List.mem_append_left _ (List.mem_of_getElem? (i := 68) rfl))) rfl
theorem tw_309 : (Cond.code ({ cls := "GraphQuery$Text", name := "rowValue", desc := "(III)I" } : MethodName) prog_7_method_7_code (6 : Nat) (Option.some FieldType.int)) ∈ xT := xT_in (List.mem_append_right _ (List.mem_append_left _ (List.mem_of_getElem? (i := 69) rfl))) rfl
theorem tw_310 : (Cond.methodLink "GraphQuery$Text" (40 : Nat) ({ cls := "GraphQuery$Tape", name := "add", desc := "(III)V" } : MethodName)) ∈ xT := xT_in (List.mem_append_right _ (List.mem_append_left _ (List.mem_of_getElem? (i := 70) rfl))) rfl
theorem tw_311 : (Cond.instanceMethod ({ cls := "GraphQuery$Tape", name := "add", desc := "(III)V" } : MethodName)) ∈ xT := xT_in (List.mem_append_right _ (List.mem_append_left _ (List.mem_of_getElem? (i := 71) rfl))) rfl
theorem tw_312 : (Cond.selects "GraphQuery$Tape" ({ cls := "GraphQuery$Tape", name := "add", desc := "(III)V" } : MethodName) ({ cls := "GraphQuery$Tape", name := "add", desc := "(III)V" } : MethodName)) ∈ xT := xT_in (List.mem_append_right _ (List.mem_append_left _ (List.mem_of_getElem? (i := 72) rfl))) rfl
theorem tw_313 : (Cond.code ({ cls := "GraphQuery$Tape", name := "add", desc := "(III)V" } : MethodName) prog_6_method_4_code (4 : Nat) (Option.none : Option Jvm.ClassFile.FieldType)) ∈ xT := xT_in (List.mem_append_right _ (List.mem_append_left _ (List.mem_of_getElem? (i := 73) rfl))) rfl
theorem tw_314 : (Cond.methodLink "GraphQuery$Text" (44 : Nat) ({ cls := "GraphQuery$Text", name := "isSign", desc := "(C)Z" } : MethodName)) ∈ xT := xT_in (List.mem_append_right _ (List.mem_append_left _ (List.mem_of_getElem? (i := 74) rfl))) rfl
theorem tw_315 : (Cond.static ({ cls := "GraphQuery$Text", name := "isSign", desc := "(C)Z" } : MethodName)) ∈ xT := xT_in (List.mem_append_right _ (List.mem_append_left _ (List.mem_of_getElem? (i := 75) rfl))) rfl
theorem tw_316 : (Cond.code ({ cls := "GraphQuery$Text", name := "isSign", desc := "(C)Z" } : MethodName) prog_7_method_13_code (1 : Nat) (Option.some FieldType.boolean)) ∈ xT := xT_in (List.mem_append_right _ (List.mem_append_left _ (List.mem_of_getElem? (i := 76) rfl))) rfl
theorem tw_318 : (Cond.static ({ cls := "GraphQuery", name := "isJoin", desc := "(I)Z" } : MethodName)) ∈ xT := xT_in (List.mem_append_right _ (List.mem_append_left _ (List.mem_of_getElem? (i := 78) rfl))) rfl
theorem tw_319 : (Cond.code ({ cls := "GraphQuery", name := "isJoin", desc := "(I)Z" } : MethodName) prog_1_method_13_code (1 : Nat) (Option.some FieldType.boolean)) ∈ xT := xT_in (List.mem_append_right _ (List.mem_append_left _ (List.mem_of_getElem? (i := 79) rfl))) rfl
theorem tw_320 : (Cond.methodLink "GraphQuery$Parser" (38 : Nat) ({ cls := "GraphQuery$Tape", name := "clear", desc := "()V" } : MethodName)) ∈ xT := xT_in (List.mem_append_right _ (List.mem_append_left _ (List.mem_of_getElem? (i := 80) rfl))) rfl
theorem tw_321 : (Cond.methodLink "GraphQuery$Parser" (41 : Nat) ({ cls := "GraphQuery$Parser", name := "sum", desc := "(I)Z" } : MethodName)) ∈ xT := xT_in (List.mem_append_right _ (List.mem_append_left _ (List.mem_of_getElem? (i := 81) rfl))) rfl
theorem tw_323 : (Cond.instanceMethod ({ cls := "GraphQuery$Parser", name := "sum", desc := "(I)Z" } : MethodName)) ∈ xT := xT_in (List.mem_append_right _ (List.mem_append_left _ (List.mem_of_getElem? (i := 83) rfl))) rfl
theorem tw_324 : (Cond.code ({ cls := "GraphQuery$Parser", name := "sum", desc := "(I)Z" } : MethodName) prog_3_method_5_code (4 : Nat) (Option.some FieldType.boolean)) ∈ xT := xT_in (List.mem_append_right _ (List.mem_append_left _ (List.mem_of_getElem? (i := 84) rfl))) rfl
theorem tw_325 : (Cond.methodLink "GraphQuery$Parser" (52 : Nat) ({ cls := "GraphQuery$Parser", name := "term", desc := "(I)Z" } : MethodName)) ∈ xT := xT_in (List.mem_append_right _ (List.mem_append_left _ (List.mem_of_getElem? (i := 85) rfl))) rfl
theorem tw_327 : (Cond.instanceMethod ({ cls := "GraphQuery$Parser", name := "term", desc := "(I)Z" } : MethodName)) ∈ xT := xT_in (List.mem_append_right _ (List.mem_append_left _ (List.mem_of_getElem? (i := 87) rfl))) rfl
theorem tw_328 : (Cond.code ({ cls := "GraphQuery$Parser", name := "term", desc := "(I)Z" } : MethodName) prog_3_method_6_code (3 : Nat) (Option.some FieldType.boolean)) ∈ xT := xT_in (List.mem_append_right _ (List.mem_append_left _ (List.mem_of_getElem? (i := 88) rfl))) rfl
theorem tw_329 : (Cond.methodLink "GraphQuery$Parser" (45 : Nat) ({ cls := "GraphQuery$Tape", name := "kindAt", desc := "(I)I" } : MethodName)) ∈ xT := xT_in (List.mem_append_right _ (List.mem_append_left _ (List.mem_of_getElem? (i := 89) rfl))) rfl
theorem tw_330 : (Cond.instanceMethod ({ cls := "GraphQuery$Tape", name := "kindAt", desc := "(I)I" } : MethodName)) ∈ xT := xT_in (List.mem_append_right _ (List.mem_append_left _ (List.mem_of_getElem? (i := 90) rfl))) rfl
theorem tw_331 : (Cond.selects "GraphQuery$Tape" ({ cls := "GraphQuery$Tape", name := "kindAt", desc := "(I)I" } : MethodName) ({ cls := "GraphQuery$Tape", name := "kindAt", desc := "(I)I" } : MethodName)) ∈ xT := xT_in (List.mem_append_right _ (List.mem_append_left _ (List.mem_of_getElem? (i := 91) rfl))) rfl
theorem tw_332 : (Cond.code ({ cls := "GraphQuery$Tape", name := "kindAt", desc := "(I)I" } : MethodName) prog_6_method_5_code (2 : Nat) (Option.some FieldType.int)) ∈ xT := xT_in (List.mem_append_right _ (List.mem_append_left _ (List.mem_of_getElem? (i := 92) rfl))) rfl
theorem tw_333 : (Cond.methodLink "GraphQuery$Parser" (62 : Nat) ({ cls := "GraphQuery$Tape", name := "valueAt", desc := "(I)I" } : MethodName)) ∈ xT := xT_in (List.mem_append_right _ (List.mem_append_left _ (List.mem_of_getElem? (i := 93) rfl))) rfl
theorem tw_334 : (Cond.instanceMethod ({ cls := "GraphQuery$Tape", name := "valueAt", desc := "(I)I" } : MethodName)) ∈ xT := xT_in (List.mem_append_right _ (List.mem_append_left _ (List.mem_of_getElem? (i := 94) rfl))) rfl
theorem tw_335 : (Cond.selects "GraphQuery$Tape" ({ cls := "GraphQuery$Tape", name := "valueAt", desc := "(I)I" } : MethodName) ({ cls := "GraphQuery$Tape", name := "valueAt", desc := "(I)I" } : MethodName)) ∈ xT := xT_in (List.mem_append_right _ (List.mem_append_left _ (List.mem_of_getElem? (i := 95) rfl))) rfl
theorem tw_336 : (Cond.code ({ cls := "GraphQuery$Tape", name := "valueAt", desc := "(I)I" } : MethodName) prog_6_method_6_code (2 : Nat) (Option.some FieldType.int)) ∈ xT := xT_in (List.mem_append_right _ (List.mem_append_left _ (List.mem_of_getElem? (i := 96) rfl))) rfl
theorem tw_337 : (Cond.methodLink "GraphQuery$Parser" (58 : Nat) ({ cls := "GraphQuery$Parser", name := "emit", desc := "(II)V" } : MethodName)) ∈ xT := xT_in (List.mem_append_right _ (List.mem_append_left _ (List.mem_of_getElem? (i := 97) rfl))) rfl
theorem tw_339 : (Cond.instanceMethod ({ cls := "GraphQuery$Parser", name := "emit", desc := "(II)V" } : MethodName)) ∈ xT := xT_in (List.mem_append_right _ (List.mem_append_left _ (List.mem_of_getElem? (i := 99) rfl))) rfl
theorem tw_340 : (Cond.code ({ cls := "GraphQuery$Parser", name := "emit", desc := "(II)V" } : MethodName) prog_3_method_16_code (3 : Nat) (Option.none : Option Jvm.ClassFile.FieldType)) ∈ xT := xT_in (List.mem_append_right _ (List.mem_append_left _ (List.mem_of_getElem? (i := 100) rfl))) rfl
theorem tw_341 : (Cond.methodLink "GraphQuery$Parser" (49 : Nat) ({ cls := "GraphQuery$Tape", name := "placeAt", desc := "(I)I" } : MethodName)) ∈ xT := xT_in (List.mem_append_right _ (List.mem_append_left _ (List.mem_of_getElem? (i := 101) rfl))) rfl
theorem tw_342 : (Cond.instanceMethod ({ cls := "GraphQuery$Tape", name := "placeAt", desc := "(I)I" } : MethodName)) ∈ xT := xT_in (List.mem_append_right _ (List.mem_append_left _ (List.mem_of_getElem? (i := 102) rfl))) rfl
theorem tw_343 : (Cond.selects "GraphQuery$Tape" ({ cls := "GraphQuery$Tape", name := "placeAt", desc := "(I)I" } : MethodName) ({ cls := "GraphQuery$Tape", name := "placeAt", desc := "(I)I" } : MethodName)) ∈ xT := xT_in (List.mem_append_right _ (List.mem_append_left _ (List.mem_of_getElem? (i := 103) rfl))) rfl
theorem tw_344 : (Cond.code ({ cls := "GraphQuery$Tape", name := "placeAt", desc := "(I)I" } : MethodName) prog_6_method_7_code (2 : Nat) (Option.some FieldType.int)) ∈ xT := xT_in (List.mem_append_right _ (List.mem_append_left _ (List.mem_of_getElem? (i := 104) rfl))) rfl
theorem tw_345 : (Cond.methodLink "GraphQuery$Parser" (94 : Nat) ({ cls := "GraphQuery$Tape", name := "add", desc := "(III)V" } : MethodName)) ∈ xT := xT_in (List.mem_append_right _ (List.mem_append_left _ (List.mem_of_getElem? (i := 105) rfl))) rfl
theorem tw_346 : (Cond.methodLink "GraphQuery$Parser" (65 : Nat) ({ cls := "GraphQuery$Parser", name := "letterTerm", desc := "()Z" } : MethodName)) ∈ xT := xT_in (List.mem_append_right _ (List.mem_append_left _ (List.mem_of_getElem? (i := 106) rfl))) rfl
theorem tw_348 : (Cond.instanceMethod ({ cls := "GraphQuery$Parser", name := "letterTerm", desc := "()Z" } : MethodName)) ∈ xT := xT_in (List.mem_append_right _ (List.mem_append_left _ (List.mem_of_getElem? (i := 108) rfl))) rfl
theorem tw_349 : (Cond.code ({ cls := "GraphQuery$Parser", name := "letterTerm", desc := "()Z" } : MethodName) prog_3_method_7_code (2 : Nat) (Option.some FieldType.boolean)) ∈ xT := xT_in (List.mem_append_right _ (List.mem_append_left _ (List.mem_of_getElem? (i := 109) rfl))) rfl
theorem tw_350 : (Cond.methodLink "GraphQuery$Parser" (88 : Nat) ({ cls := "GraphQuery$Parser", name := "slotOf", desc := "(I)I" } : MethodName)) ∈ xT := xT_in (List.mem_append_right _ (List.mem_append_left _ (List.mem_of_getElem? (i := 110) rfl))) rfl
theorem tw_352 : (Cond.instanceMethod ({ cls := "GraphQuery$Parser", name := "slotOf", desc := "(I)I" } : MethodName)) ∈ xT := xT_in (List.mem_append_right _ (List.mem_append_left _ (List.mem_of_getElem? (i := 112) rfl))) rfl
theorem tw_353 : (Cond.code ({ cls := "GraphQuery$Parser", name := "slotOf", desc := "(I)I" } : MethodName) prog_3_method_13_code (2 : Nat) (Option.some FieldType.int)) ∈ xT := xT_in (List.mem_append_right _ (List.mem_append_left _ (List.mem_of_getElem? (i := 113) rfl))) rfl
theorem tw_354 : (Cond.methodLink "GraphQuery$Parser" (69 : Nat) ({ cls := "GraphQuery$Parser", name := "take", desc := "(I)Z" } : MethodName)) ∈ xT := xT_in (List.mem_append_right _ (List.mem_append_left _ (List.mem_of_getElem? (i := 114) rfl))) rfl
theorem tw_356 : (Cond.instanceMethod ({ cls := "GraphQuery$Parser", name := "take", desc := "(I)Z" } : MethodName)) ∈ xT := xT_in (List.mem_append_right _ (List.mem_append_left _ (List.mem_of_getElem? (i := 116) rfl))) rfl
theorem tw_357 : (Cond.code ({ cls := "GraphQuery$Parser", name := "take", desc := "(I)Z" } : MethodName) prog_3_method_15_code (2 : Nat) (Option.some FieldType.boolean)) ∈ xT := xT_in (List.mem_append_right _ (List.mem_append_left _ (List.mem_of_getElem? (i := 117) rfl))) rfl
theorem tw_358 : (Cond.methodLink "GraphQuery$Parser" (72 : Nat) ({ cls := "GraphQuery$Parser", name := "roundsTerm", desc := "(II)Z" } : MethodName)) ∈ xT := xT_in (List.mem_append_right _ (List.mem_append_left _ (List.mem_of_getElem? (i := 118) rfl))) rfl
theorem tw_360 : (Cond.instanceMethod ({ cls := "GraphQuery$Parser", name := "roundsTerm", desc := "(II)Z" } : MethodName)) ∈ xT := xT_in (List.mem_append_right _ (List.mem_append_left _ (List.mem_of_getElem? (i := 120) rfl))) rfl
theorem tw_361 : (Cond.code ({ cls := "GraphQuery$Parser", name := "roundsTerm", desc := "(II)Z" } : MethodName) prog_3_method_8_code (4 : Nat) (Option.some FieldType.boolean)) ∈ xT := xT_in (List.mem_append_right _ (List.mem_append_left _ (List.mem_of_getElem? (i := 121) rfl))) rfl
theorem tw_362 : (Cond.methodLink "GraphQuery$Parser" (76 : Nat) ({ cls := "GraphQuery$Parser", name := "plainTerm", desc := "(II)Z" } : MethodName)) ∈ xT := xT_in (List.mem_append_right _ (List.mem_append_left _ (List.mem_of_getElem? (i := 122) rfl))) rfl
theorem tw_364 : (Cond.instanceMethod ({ cls := "GraphQuery$Parser", name := "plainTerm", desc := "(II)Z" } : MethodName)) ∈ xT := xT_in (List.mem_append_right _ (List.mem_append_left _ (List.mem_of_getElem? (i := 124) rfl))) rfl
theorem tw_365 : (Cond.code ({ cls := "GraphQuery$Parser", name := "plainTerm", desc := "(II)Z" } : MethodName) prog_3_method_9_code (3 : Nat) (Option.some FieldType.boolean)) ∈ xT := xT_in (List.mem_append_right _ (List.mem_append_left _ (List.mem_of_getElem? (i := 125) rfl))) rfl
theorem tw_366 : (Cond.methodLink "GraphQuery$Parser" (79 : Nat) ({ cls := "GraphQuery$Parser", name := "wayTerm", desc := "(I)Z" } : MethodName)) ∈ xT := xT_in (List.mem_append_right _ (List.mem_append_left _ (List.mem_of_getElem? (i := 126) rfl))) rfl
theorem tw_368 : (Cond.instanceMethod ({ cls := "GraphQuery$Parser", name := "wayTerm", desc := "(I)Z" } : MethodName)) ∈ xT := xT_in (List.mem_append_right _ (List.mem_append_left _ (List.mem_of_getElem? (i := 128) rfl))) rfl
theorem tw_369 : (Cond.code ({ cls := "GraphQuery$Parser", name := "wayTerm", desc := "(I)Z" } : MethodName) prog_3_method_10_code (2 : Nat) (Option.some FieldType.boolean)) ∈ xT := xT_in (List.mem_append_right _ (List.mem_append_left _ (List.mem_of_getElem? (i := 129) rfl))) rfl
theorem tw_370 : (Cond.methodLink "GraphQuery$Parser" (82 : Nat) ({ cls := "GraphQuery$Parser", name := "kindTerm", desc := "(I)Z" } : MethodName)) ∈ xT := xT_in (List.mem_append_right _ (List.mem_append_left _ (List.mem_of_getElem? (i := 130) rfl))) rfl
theorem tw_372 : (Cond.instanceMethod ({ cls := "GraphQuery$Parser", name := "kindTerm", desc := "(I)Z" } : MethodName)) ∈ xT := xT_in (List.mem_append_right _ (List.mem_append_left _ (List.mem_of_getElem? (i := 132) rfl))) rfl
theorem tw_373 : (Cond.code ({ cls := "GraphQuery$Parser", name := "kindTerm", desc := "(I)Z" } : MethodName) prog_3_method_11_code (3 : Nat) (Option.some FieldType.boolean)) ∈ xT := xT_in (List.mem_append_right _ (List.mem_append_left _ (List.mem_of_getElem? (i := 133) rfl))) rfl
theorem tw_374 : (Cond.methodLink "GraphQuery$Parser" (85 : Nat) ({ cls := "GraphQuery$Parser", name := "letTerm", desc := "(I)Z" } : MethodName)) ∈ xT := xT_in (List.mem_append_right _ (List.mem_append_left _ (List.mem_of_getElem? (i := 134) rfl))) rfl
theorem tw_376 : (Cond.instanceMethod ({ cls := "GraphQuery$Parser", name := "letTerm", desc := "(I)Z" } : MethodName)) ∈ xT := xT_in (List.mem_append_right _ (List.mem_append_left _ (List.mem_of_getElem? (i := 136) rfl))) rfl
theorem tw_377 : (Cond.code ({ cls := "GraphQuery$Parser", name := "letTerm", desc := "(I)Z" } : MethodName) prog_3_method_12_code (5 : Nat) (Option.some FieldType.boolean)) ∈ xT := xT_in (List.mem_append_right _ (List.mem_append_left _ (List.mem_of_getElem? (i := 137) rfl))) rfl
theorem tw_378 : (Cond.methodLink "GraphQuery$Parser" (91 : Nat) ({ cls := "GraphQuery$Parser", name := "setSlot", desc := "(II)V" } : MethodName)) ∈ xT := xT_in (List.mem_append_right _ (List.mem_append_left _ (List.mem_of_getElem? (i := 138) rfl))) rfl
theorem tw_380 : (Cond.instanceMethod ({ cls := "GraphQuery$Parser", name := "setSlot", desc := "(II)V" } : MethodName)) ∈ xT := xT_in (List.mem_append_right _ (List.mem_append_left _ (List.mem_of_getElem? (i := 140) rfl))) rfl
theorem tw_381 : (Cond.code ({ cls := "GraphQuery$Parser", name := "setSlot", desc := "(II)V" } : MethodName) prog_3_method_14_code (3 : Nat) (Option.none : Option Jvm.ClassFile.FieldType)) ∈ xT := xT_in (List.mem_append_right _ (List.mem_append_left _ (List.mem_of_getElem? (i := 141) rfl))) rfl
theorem tw_383 : (Cond.methodLink "GraphQuery" (71 : Nat) ({ cls := "GraphQuery$Text", name := "clear", desc := "()V" } : MethodName)) ∈ xT := xT_in (List.mem_append_right _ (List.mem_append_left _ (List.mem_of_getElem? (i := 143) rfl))) rfl
theorem tw_384 : (Cond.instanceMethod ({ cls := "GraphQuery$Text", name := "clear", desc := "()V" } : MethodName)) ∈ xT := xT_in (List.mem_append_right _ (List.mem_append_left _ (List.mem_of_getElem? (i := 144) rfl))) rfl
theorem tw_385 : (Cond.selects "GraphQuery$Text" ({ cls := "GraphQuery$Text", name := "clear", desc := "()V" } : MethodName) ({ cls := "GraphQuery$Text", name := "clear", desc := "()V" } : MethodName)) ∈ xT := xT_in (List.mem_append_right _ (List.mem_append_left _ (List.mem_of_getElem? (i := 145) rfl))) rfl
theorem tw_386 : (Cond.code ({ cls := "GraphQuery$Text", name := "clear", desc := "()V" } : MethodName) prog_7_method_3_code (1 : Nat) (Option.none : Option Jvm.ClassFile.FieldType)) ∈ xT := xT_in (List.mem_append_right _ (List.mem_append_left _ (List.mem_of_getElem? (i := 146) rfl))) rfl
theorem tw_387 : (Cond.methodLink "GraphQuery" (74 : Nat) ({ cls := "GraphQuery$Parser", name := "stopPlace", desc := "()I" } : MethodName)) ∈ xT := xT_in (List.mem_append_right _ (List.mem_append_left _ (List.mem_of_getElem? (i := 147) rfl))) rfl
theorem tw_388 : (Cond.instanceMethod ({ cls := "GraphQuery$Parser", name := "stopPlace", desc := "()I" } : MethodName)) ∈ xT := xT_in (List.mem_append_right _ (List.mem_append_left _ (List.mem_of_getElem? (i := 148) rfl))) rfl
theorem tw_389 : (Cond.selects "GraphQuery$Parser" ({ cls := "GraphQuery$Parser", name := "stopPlace", desc := "()I" } : MethodName) ({ cls := "GraphQuery$Parser", name := "stopPlace", desc := "()I" } : MethodName)) ∈ xT := xT_in (List.mem_append_right _ (List.mem_append_left _ (List.mem_of_getElem? (i := 149) rfl))) rfl
theorem tw_390 : (Cond.code ({ cls := "GraphQuery$Parser", name := "stopPlace", desc := "()I" } : MethodName) prog_3_method_3_code (1 : Nat) (Option.some FieldType.int)) ∈ xT := xT_in (List.mem_append_right _ (List.mem_append_left _ (List.mem_of_getElem? (i := 150) rfl))) rfl
theorem tw_391 : (Cond.methodLink "GraphQuery" (78 : Nat) ({ cls := "GraphQuery$Parser", name := "program", desc := "()LGraphQuery$Tape;" } : MethodName)) ∈ xT := xT_in (List.mem_append_right _ (List.mem_append_left _ (List.mem_of_getElem? (i := 151) rfl))) rfl
theorem tw_392 : (Cond.instanceMethod ({ cls := "GraphQuery$Parser", name := "program", desc := "()LGraphQuery$Tape;" } : MethodName)) ∈ xT := xT_in (List.mem_append_right _ (List.mem_append_left _ (List.mem_of_getElem? (i := 152) rfl))) rfl
theorem tw_393 : (Cond.selects "GraphQuery$Parser" ({ cls := "GraphQuery$Parser", name := "program", desc := "()LGraphQuery$Tape;" } : MethodName) ({ cls := "GraphQuery$Parser", name := "program", desc := "()LGraphQuery$Tape;" } : MethodName)) ∈ xT := xT_in (List.mem_append_right _ (List.mem_append_left _ (List.mem_of_getElem? (i := 153) rfl))) rfl
theorem tw_394 : (Cond.code ({ cls := "GraphQuery$Parser", name := "program", desc := "()LGraphQuery$Tape;" } : MethodName) prog_3_method_4_code (1 : Nat) (Option.some (FieldType.object "GraphQuery$Tape"))) ∈ xT := xT_in (List.mem_append_right _ (List.mem_append_left _ (List.mem_of_getElem? (i := 154) rfl))) rfl
theorem tw_395 : (Cond.methodLink "GraphQuery" (82 : Nat) ({ cls := "GraphQuery", name := "firstUnknown", desc := "(LGraphQuery$Tape;)I" } : MethodName)) ∈ xT := xT_in (List.mem_append_right _ (List.mem_append_left _ (List.mem_of_getElem? (i := 155) rfl))) rfl
theorem tw_397 : (Cond.instanceMethod ({ cls := "GraphQuery", name := "firstUnknown", desc := "(LGraphQuery$Tape;)I" } : MethodName)) ∈ xT := xT_in (List.mem_append_right _ (List.mem_append_left _ (List.mem_of_getElem? (i := 157) rfl))) rfl
theorem tw_398 : (Cond.code ({ cls := "GraphQuery", name := "firstUnknown", desc := "(LGraphQuery$Tape;)I" } : MethodName) prog_1_method_12_code (3 : Nat) (Option.some FieldType.int)) ∈ xT := xT_in (List.mem_append_right _ (List.mem_append_left _ (List.mem_of_getElem? (i := 158) rfl))) rfl
theorem tw_399 : (Cond.methodLink "GraphQuery" (122 : Nat) ({ cls := "GraphQuery$Tape", name := "size", desc := "()I" } : MethodName)) ∈ xT := xT_in (List.mem_append_right _ (List.mem_append_left _ (List.mem_of_getElem? (i := 159) rfl))) rfl
theorem tw_400 : (Cond.instanceMethod ({ cls := "GraphQuery$Tape", name := "size", desc := "()I" } : MethodName)) ∈ xT := xT_in (List.mem_append_right _ (List.mem_append_left _ (List.mem_of_getElem? (i := 160) rfl))) rfl
theorem tw_401 : (Cond.selects "GraphQuery$Tape" ({ cls := "GraphQuery$Tape", name := "size", desc := "()I" } : MethodName) ({ cls := "GraphQuery$Tape", name := "size", desc := "()I" } : MethodName)) ∈ xT := xT_in (List.mem_append_right _ (List.mem_append_left _ (List.mem_of_getElem? (i := 161) rfl))) rfl
theorem tw_402 : (Cond.code ({ cls := "GraphQuery$Tape", name := "size", desc := "()I" } : MethodName) prog_6_method_3_code (1 : Nat) (Option.some FieldType.int)) ∈ xT := xT_in (List.mem_append_right _ (List.mem_append_left _ (List.mem_of_getElem? (i := 162) rfl))) rfl
theorem tw_403 : (Cond.methodLink "GraphQuery" (123 : Nat) ({ cls := "GraphQuery$Tape", name := "kindAt", desc := "(I)I" } : MethodName)) ∈ xT := xT_in (List.mem_append_right _ (List.mem_append_left _ (List.mem_of_getElem? (i := 163) rfl))) rfl
theorem tw_404 : (Cond.methodLink "GraphQuery" (86 : Nat) ({ cls := "GraphQuery$Tape", name := "valueAt", desc := "(I)I" } : MethodName)) ∈ xT := xT_in (List.mem_append_right _ (List.mem_append_left _ (List.mem_of_getElem? (i := 164) rfl))) rfl
theorem tw_405 : (Cond.methodLink "GraphQuery" (126 : Nat) ({ cls := "GraphQuery$Graph", name := "numberOf", desc := "(I)I" } : MethodName)) ∈ xT := xT_in (List.mem_append_right _ (List.mem_append_left _ (List.mem_of_getElem? (i := 165) rfl))) rfl
theorem tw_406 : (Cond.instanceMethod ({ cls := "GraphQuery$Graph", name := "numberOf", desc := "(I)I" } : MethodName)) ∈ xT := xT_in (List.mem_append_right _ (List.mem_append_left _ (List.mem_of_getElem? (i := 166) rfl))) rfl
theorem tw_407 : (Cond.selects "GraphQuery$Graph" ({ cls := "GraphQuery$Graph", name := "numberOf", desc := "(I)I" } : MethodName) ({ cls := "GraphQuery$Graph", name := "numberOf", desc := "(I)I" } : MethodName)) ∈ xT := xT_in (List.mem_append_right _ (List.mem_append_left _ (List.mem_of_getElem? (i := 167) rfl))) rfl
theorem tw_408 : (Cond.code ({ cls := "GraphQuery$Graph", name := "numberOf", desc := "(I)I" } : MethodName) prog_2_method_5_code (2 : Nat) (Option.some FieldType.int)) ∈ xT := xT_in (List.mem_append_right _ (List.mem_append_left _ (List.mem_of_getElem? (i := 168) rfl))) rfl
theorem tw_409 : (Cond.methodLink "GraphQuery" (92 : Nat) ({ cls := "GraphQuery$Tape", name := "placeAt", desc := "(I)I" } : MethodName)) ∈ xT := xT_in (List.mem_append_right _ (List.mem_append_left _ (List.mem_of_getElem? (i := 169) rfl))) rfl
theorem tw_410 : (Cond.methodLink "GraphQuery" (95 : Nat) ({ cls := "GraphQuery$Runner", name := "run", desc := "(LGraphQuery$Tape;LGraphQuery$Graph;)I" } : MethodName)) ∈ xT := xT_in (List.mem_append_right _ (List.mem_append_left _ (List.mem_of_getElem? (i := 170) rfl))) rfl
theorem tw_411 : (Cond.instanceMethod ({ cls := "GraphQuery$Runner", name := "run", desc := "(LGraphQuery$Tape;LGraphQuery$Graph;)I" } : MethodName)) ∈ xT := xT_in (List.mem_append_right _ (List.mem_append_left _ (List.mem_of_getElem? (i := 171) rfl))) rfl
theorem tw_412 : (Cond.selects "GraphQuery$Runner" ({ cls := "GraphQuery$Runner", name := "run", desc := "(LGraphQuery$Tape;LGraphQuery$Graph;)I" } : MethodName) ({ cls := "GraphQuery$Runner", name := "run", desc := "(LGraphQuery$Tape;LGraphQuery$Graph;)I" } : MethodName)) ∈ xT := xT_in (List.mem_append_right _ (List.mem_append_left _ (List.mem_of_getElem? (i := 172) rfl))) rfl
theorem tw_413 : (Cond.code ({ cls := "GraphQuery$Runner", name := "run", desc := "(LGraphQuery$Tape;LGraphQuery$Graph;)I" } : MethodName) prog_5_method_2_code (7 : Nat) (Option.some FieldType.int)) ∈ xT := xT_in (List.mem_append_right _ (List.mem_append_left _ (List.mem_of_getElem? (i := 173) rfl))) rfl
theorem tw_414 : (Cond.methodLink "GraphQuery$Runner" (25 : Nat) ({ cls := "GraphQuery$Tape", name := "size", desc := "()I" } : MethodName)) ∈ xT := xT_in (List.mem_append_right _ (List.mem_append_left _ (List.mem_of_getElem? (i := 174) rfl))) rfl
theorem tw_415 : (Cond.methodLink "GraphQuery$Runner" (31 : Nat) ({ cls := "GraphQuery$Tape", name := "kindAt", desc := "(I)I" } : MethodName)) ∈ xT := xT_in (List.mem_append_right _ (List.mem_append_left _ (List.mem_of_getElem? (i := 175) rfl))) rfl
theorem tw_416 : (Cond.methodLink "GraphQuery$Runner" (35 : Nat) ({ cls := "GraphQuery$Tape", name := "valueAt", desc := "(I)I" } : MethodName)) ∈ xT := xT_in (List.mem_append_right _ (List.mem_append_left _ (List.mem_of_getElem? (i := 176) rfl))) rfl
theorem tw_417 : (Cond.methodLink "GraphQuery$Runner" (38 : Nat) ({ cls := "GraphQuery$Runner", name := "rowAt", desc := "([LGraphQuery$Row;I)LGraphQuery$Row;" } : MethodName)) ∈ xT := xT_in (List.mem_append_right _ (List.mem_append_left _ (List.mem_of_getElem? (i := 177) rfl))) rfl
theorem tw_418 : (Cond.static ({ cls := "GraphQuery$Runner", name := "rowAt", desc := "([LGraphQuery$Row;I)LGraphQuery$Row;" } : MethodName)) ∈ xT := xT_in (List.mem_append_right _ (List.mem_append_left _ (List.mem_of_getElem? (i := 178) rfl))) rfl
theorem tw_419 : (Cond.code ({ cls := "GraphQuery$Runner", name := "rowAt", desc := "([LGraphQuery$Row;I)LGraphQuery$Row;" } : MethodName) prog_5_method_8_code (2 : Nat) (Option.some (FieldType.object "GraphQuery$Row"))) ∈ xT := xT_in (List.mem_append_right _ (List.mem_append_left _ (List.mem_of_getElem? (i := 179) rfl))) rfl
theorem tw_420 : (Cond.methodLink "GraphQuery$Runner" (113 : Nat) ({ cls := "java/lang/Math", name := "min", desc := "(II)I" } : MethodName)) ∈ xT := xT_in (List.mem_append_right _ (List.mem_append_left _ (List.mem_of_getElem? (i := 180) rfl))) rfl
theorem tw_421 : (Cond.static ({ cls := "java/lang/Math", name := "min", desc := "(II)I" } : MethodName)) ∈ xT := xT_in (List.mem_append_right _ (List.mem_append_left _ (List.mem_of_getElem? (i := 181) rfl))) rfl
theorem tw_422 : (Cond.code ({ cls := "java/lang/Math", name := "min", desc := "(II)I" } : MethodName) prog_11_method_69_code (2 : Nat) (Option.some FieldType.int)) ∈ xT := xT_in (List.mem_append_right _ (List.mem_append_left _ (List.mem_of_getElem? (i := 182) rfl))) rfl
theorem tw_423 : (Cond.methodLink "GraphQuery$Runner" (119 : Nat) ({ cls := "java/lang/Math", name := "max", desc := "(II)I" } : MethodName)) ∈ xT := xT_in (List.mem_append_right _ (List.mem_append_left _ (List.mem_of_getElem? (i := 183) rfl))) rfl
theorem tw_424 : (Cond.static ({ cls := "java/lang/Math", name := "max", desc := "(II)I" } : MethodName)) ∈ xT := xT_in (List.mem_append_right _ (List.mem_append_left _ (List.mem_of_getElem? (i := 184) rfl))) rfl
theorem tw_425 : (Cond.code ({ cls := "java/lang/Math", name := "max", desc := "(II)I" } : MethodName) prog_11_method_65_code (2 : Nat) (Option.some FieldType.int)) ∈ xT := xT_in (List.mem_append_right _ (List.mem_append_left _ (List.mem_of_getElem? (i := 185) rfl))) rfl
theorem tw_426 : (Cond.methodLink "GraphQuery$Runner" (42 : Nat) ({ cls := "GraphQuery$Runner", name := "pop", desc := "()LGraphQuery$Row;" } : MethodName)) ∈ xT := xT_in (List.mem_append_right _ (List.mem_append_left _ (List.mem_of_getElem? (i := 186) rfl))) rfl
theorem tw_428 : (Cond.instanceMethod ({ cls := "GraphQuery$Runner", name := "pop", desc := "()LGraphQuery$Row;" } : MethodName)) ∈ xT := xT_in (List.mem_append_right _ (List.mem_append_left _ (List.mem_of_getElem? (i := 188) rfl))) rfl
theorem tw_429 : (Cond.code ({ cls := "GraphQuery$Runner", name := "pop", desc := "()LGraphQuery$Row;" } : MethodName) prog_5_method_7_code (1 : Nat) (Option.some (FieldType.object "GraphQuery$Row"))) ∈ xT := xT_in (List.mem_append_right _ (List.mem_append_left _ (List.mem_of_getElem? (i := 189) rfl))) rfl
theorem tw_430 : (Cond.methodLink "GraphQuery$Runner" (46 : Nat) ({ cls := "GraphQuery$Row", name := "copy", desc := "(LGraphQuery$Row;)V" } : MethodName)) ∈ xT := xT_in (List.mem_append_right _ (List.mem_append_left _ (List.mem_of_getElem? (i := 190) rfl))) rfl
theorem tw_431 : (Cond.instanceMethod ({ cls := "GraphQuery$Row", name := "copy", desc := "(LGraphQuery$Row;)V" } : MethodName)) ∈ xT := xT_in (List.mem_append_right _ (List.mem_append_left _ (List.mem_of_getElem? (i := 191) rfl))) rfl
theorem tw_432 : (Cond.selects "GraphQuery$Row" ({ cls := "GraphQuery$Row", name := "copy", desc := "(LGraphQuery$Row;)V" } : MethodName) ({ cls := "GraphQuery$Row", name := "copy", desc := "(LGraphQuery$Row;)V" } : MethodName)) ∈ xT := xT_in (List.mem_append_right _ (List.mem_append_left _ (List.mem_of_getElem? (i := 192) rfl))) rfl
theorem tw_433 : (Cond.code ({ cls := "GraphQuery$Row", name := "copy", desc := "(LGraphQuery$Row;)V" } : MethodName) prog_4_method_10_code (2 : Nat) (Option.none : Option Jvm.ClassFile.FieldType)) ∈ xT := xT_in (List.mem_append_right _ (List.mem_append_left _ (List.mem_of_getElem? (i := 193) rfl))) rfl
theorem tw_434 : (Cond.methodLink "GraphQuery$Row" (38 : Nat) ({ cls := "GraphQuery$Row", name := "clear", desc := "()V" } : MethodName)) ∈ xT := xT_in (List.mem_append_right _ (List.mem_append_left _ (List.mem_of_getElem? (i := 194) rfl))) rfl
theorem tw_435 : (Cond.instanceMethod ({ cls := "GraphQuery$Row", name := "clear", desc := "()V" } : MethodName)) ∈ xT := xT_in (List.mem_append_right _ (List.mem_append_left _ (List.mem_of_getElem? (i := 195) rfl))) rfl
theorem tw_436 : (Cond.selects "GraphQuery$Row" ({ cls := "GraphQuery$Row", name := "clear", desc := "()V" } : MethodName) ({ cls := "GraphQuery$Row", name := "clear", desc := "()V" } : MethodName)) ∈ xT := xT_in (List.mem_append_right _ (List.mem_append_left _ (List.mem_of_getElem? (i := 196) rfl))) rfl
theorem tw_437 : (Cond.code ({ cls := "GraphQuery$Row", name := "clear", desc := "()V" } : MethodName) prog_4_method_2_code (1 : Nat) (Option.none : Option Jvm.ClassFile.FieldType)) ∈ xT := xT_in (List.mem_append_right _ (List.mem_append_left _ (List.mem_of_getElem? (i := 197) rfl))) rfl
theorem tw_438 : (Cond.methodLink "GraphQuery$Row" (41 : Nat) ({ cls := "GraphQuery$Row", name := "addAll", desc := "(LGraphQuery$Row;)V" } : MethodName)) ∈ xT := xT_in (List.mem_append_right _ (List.mem_append_left _ (List.mem_of_getElem? (i := 198) rfl))) rfl
theorem tw_439 : (Cond.instanceMethod ({ cls := "GraphQuery$Row", name := "addAll", desc := "(LGraphQuery$Row;)V" } : MethodName)) ∈ xT := xT_in (List.mem_append_right _ (List.mem_append_left _ (List.mem_of_getElem? (i := 199) rfl))) rfl
theorem tw_440 : (Cond.selects "GraphQuery$Row" ({ cls := "GraphQuery$Row", name := "addAll", desc := "(LGraphQuery$Row;)V" } : MethodName) ({ cls := "GraphQuery$Row", name := "addAll", desc := "(LGraphQuery$Row;)V" } : MethodName)) ∈ xT := xT_in (List.mem_append_right _ (List.mem_append_left _ (List.mem_of_getElem? (i := 200) rfl))) rfl
theorem tw_441 : (Cond.code ({ cls := "GraphQuery$Row", name := "addAll", desc := "(LGraphQuery$Row;)V" } : MethodName) prog_4_method_8_code (3 : Nat) (Option.none : Option Jvm.ClassFile.FieldType)) ∈ xT := xT_in (List.mem_append_right _ (List.mem_append_left _ (List.mem_of_getElem? (i := 201) rfl))) rfl
theorem tw_442 : (Cond.methodLink "GraphQuery$Row" (26 : Nat) ({ cls := "GraphQuery$Row", name := "size", desc := "()I" } : MethodName)) ∈ xT := xT_in (List.mem_append_right _ (List.mem_append_left _ (List.mem_of_getElem? (i := 202) rfl))) rfl
theorem tw_443 : (Cond.instanceMethod ({ cls := "GraphQuery$Row", name := "size", desc := "()I" } : MethodName)) ∈ xT := xT_in (List.mem_append_right _ (List.mem_append_left _ (List.mem_of_getElem? (i := 203) rfl))) rfl
theorem tw_444 : (Cond.selects "GraphQuery$Row" ({ cls := "GraphQuery$Row", name := "size", desc := "()I" } : MethodName) ({ cls := "GraphQuery$Row", name := "size", desc := "()I" } : MethodName)) ∈ xT := xT_in (List.mem_append_right _ (List.mem_append_left _ (List.mem_of_getElem? (i := 204) rfl))) rfl
theorem tw_445 : (Cond.code ({ cls := "GraphQuery$Row", name := "size", desc := "()I" } : MethodName) prog_4_method_3_code (1 : Nat) (Option.some FieldType.int)) ∈ xT := xT_in (List.mem_append_right _ (List.mem_append_left _ (List.mem_of_getElem? (i := 205) rfl))) rfl
theorem tw_446 : (Cond.methodLink "GraphQuery$Row" (30 : Nat) ({ cls := "GraphQuery$Row", name := "at", desc := "(I)I" } : MethodName)) ∈ xT := xT_in (List.mem_append_right _ (List.mem_append_left _ (List.mem_of_getElem? (i := 206) rfl))) rfl
theorem tw_447 : (Cond.instanceMethod ({ cls := "GraphQuery$Row", name := "at", desc := "(I)I" } : MethodName)) ∈ xT := xT_in (List.mem_append_right _ (List.mem_append_left _ (List.mem_of_getElem? (i := 207) rfl))) rfl
theorem tw_448 : (Cond.selects "GraphQuery$Row" ({ cls := "GraphQuery$Row", name := "at", desc := "(I)I" } : MethodName) ({ cls := "GraphQuery$Row", name := "at", desc := "(I)I" } : MethodName)) ∈ xT := xT_in (List.mem_append_right _ (List.mem_append_left _ (List.mem_of_getElem? (i := 208) rfl))) rfl
theorem tw_449 : (Cond.code ({ cls := "GraphQuery$Row", name := "at", desc := "(I)I" } : MethodName) prog_4_method_5_code (2 : Nat) (Option.some FieldType.int)) ∈ xT := xT_in (List.mem_append_right _ (List.mem_append_left _ (List.mem_of_getElem? (i := 209) rfl))) rfl
theorem tw_450 : (Cond.methodLink "GraphQuery$Row" (34 : Nat) ({ cls := "GraphQuery$Row", name := "add", desc := "(I)V" } : MethodName)) ∈ xT := xT_in (List.mem_append_right _ (List.mem_append_left _ (List.mem_of_getElem? (i := 210) rfl))) rfl
theorem tw_451 : (Cond.instanceMethod ({ cls := "GraphQuery$Row", name := "add", desc := "(I)V" } : MethodName)) ∈ xT := xT_in (List.mem_append_right _ (List.mem_append_left _ (List.mem_of_getElem? (i := 211) rfl))) rfl
theorem tw_452 : (Cond.selects "GraphQuery$Row" ({ cls := "GraphQuery$Row", name := "add", desc := "(I)V" } : MethodName) ({ cls := "GraphQuery$Row", name := "add", desc := "(I)V" } : MethodName)) ∈ xT := xT_in (List.mem_append_right _ (List.mem_append_left _ (List.mem_of_getElem? (i := 212) rfl))) rfl
theorem tw_453 : (Cond.code ({ cls := "GraphQuery$Row", name := "add", desc := "(I)V" } : MethodName) prog_4_method_7_code (2 : Nat) (Option.none : Option Jvm.ClassFile.FieldType)) ∈ xT := xT_in (List.mem_append_right _ (List.mem_append_left _ (List.mem_of_getElem? (i := 213) rfl))) rfl
theorem tw_456 : (Cond.methodLink "GraphQuery$Runner" (54 : Nat) ({ cls := "GraphQuery$Runner", name := "makeOfTwo", desc := "(ILGraphQuery$Graph;)V" } : MethodName)) ∈ xT := xT_in (List.mem_append_right _ (List.mem_append_left _ (List.mem_of_getElem? (i := 216) rfl))) rfl
theorem tw_458 : (Cond.instanceMethod ({ cls := "GraphQuery$Runner", name := "makeOfTwo", desc := "(ILGraphQuery$Graph;)V" } : MethodName)) ∈ xT := xT_in (List.mem_append_right _ (List.mem_append_left _ (List.mem_of_getElem? (i := 218) rfl))) rfl
theorem tw_459 : (Cond.code ({ cls := "GraphQuery$Runner", name := "makeOfTwo", desc := "(ILGraphQuery$Graph;)V" } : MethodName) prog_5_method_5_code (5 : Nat) (Option.none : Option Jvm.ClassFile.FieldType)) ∈ xT := xT_in (List.mem_append_right _ (List.mem_append_left _ (List.mem_of_getElem? (i := 219) rfl))) rfl
theorem tw_460 : (Cond.methodLink "GraphQuery$Runner" (62 : Nat) ({ cls := "GraphQuery$Runner", name := "result", desc := "()LGraphQuery$Row;" } : MethodName)) ∈ xT := xT_in (List.mem_append_right _ (List.mem_append_left _ (List.mem_of_getElem? (i := 220) rfl))) rfl
theorem tw_461 : (Cond.instanceMethod ({ cls := "GraphQuery$Runner", name := "result", desc := "()LGraphQuery$Row;" } : MethodName)) ∈ xT := xT_in (List.mem_append_right _ (List.mem_append_left _ (List.mem_of_getElem? (i := 221) rfl))) rfl
theorem tw_462 : (Cond.selects "GraphQuery$Runner" ({ cls := "GraphQuery$Runner", name := "result", desc := "()LGraphQuery$Row;" } : MethodName) ({ cls := "GraphQuery$Runner", name := "result", desc := "()LGraphQuery$Row;" } : MethodName)) ∈ xT := xT_in (List.mem_append_right _ (List.mem_append_left _ (List.mem_of_getElem? (i := 222) rfl))) rfl
theorem tw_463 : (Cond.code ({ cls := "GraphQuery$Runner", name := "result", desc := "()LGraphQuery$Row;" } : MethodName) prog_5_method_3_code (1 : Nat) (Option.some (FieldType.object "GraphQuery$Row"))) ∈ xT := xT_in (List.mem_append_right _ (List.mem_append_left _ (List.mem_of_getElem? (i := 223) rfl))) rfl
theorem tw_464 : (Cond.methodLink "GraphQuery$Runner" (97 : Nat) ({ cls := "GraphQuery$Row", name := "addAll", desc := "(LGraphQuery$Row;)V" } : MethodName)) ∈ xT := xT_in (List.mem_append_right _ (List.mem_append_left _ (List.mem_of_getElem? (i := 224) rfl))) rfl
theorem tw_465 : (Cond.methodLink "GraphQuery$Runner" (100 : Nat) ({ cls := "GraphQuery$Row", name := "mask", desc := "()I" } : MethodName)) ∈ xT := xT_in (List.mem_append_right _ (List.mem_append_left _ (List.mem_of_getElem? (i := 225) rfl))) rfl
theorem tw_466 : (Cond.instanceMethod ({ cls := "GraphQuery$Row", name := "mask", desc := "()I" } : MethodName)) ∈ xT := xT_in (List.mem_append_right _ (List.mem_append_left _ (List.mem_of_getElem? (i := 226) rfl))) rfl
theorem tw_467 : (Cond.selects "GraphQuery$Row" ({ cls := "GraphQuery$Row", name := "mask", desc := "()I" } : MethodName) ({ cls := "GraphQuery$Row", name := "mask", desc := "()I" } : MethodName)) ∈ xT := xT_in (List.mem_append_right _ (List.mem_append_left _ (List.mem_of_getElem? (i := 227) rfl))) rfl
theorem tw_468 : (Cond.code ({ cls := "GraphQuery$Row", name := "mask", desc := "()I" } : MethodName) prog_4_method_4_code (1 : Nat) (Option.some FieldType.int)) ∈ xT := xT_in (List.mem_append_right _ (List.mem_append_left _ (List.mem_of_getElem? (i := 228) rfl))) rfl
theorem tw_469 : (Cond.methodLink "GraphQuery$Runner" (103 : Nat) ({ cls := "GraphQuery$Row", name := "keep", desc := "(I)V" } : MethodName)) ∈ xT := xT_in (List.mem_append_right _ (List.mem_append_left _ (List.mem_of_getElem? (i := 229) rfl))) rfl
theorem tw_470 : (Cond.instanceMethod ({ cls := "GraphQuery$Row", name := "keep", desc := "(I)V" } : MethodName)) ∈ xT := xT_in (List.mem_append_right _ (List.mem_append_left _ (List.mem_of_getElem? (i := 230) rfl))) rfl
theorem tw_471 : (Cond.selects "GraphQuery$Row" ({ cls := "GraphQuery$Row", name := "keep", desc := "(I)V" } : MethodName) ({ cls := "GraphQuery$Row", name := "keep", desc := "(I)V" } : MethodName)) ∈ xT := xT_in (List.mem_append_right _ (List.mem_append_left _ (List.mem_of_getElem? (i := 231) rfl))) rfl
theorem tw_472 : (Cond.code ({ cls := "GraphQuery$Row", name := "keep", desc := "(I)V" } : MethodName) prog_4_method_11_code (4 : Nat) (Option.none : Option Jvm.ClassFile.FieldType)) ∈ xT := xT_in (List.mem_append_right _ (List.mem_append_left _ (List.mem_of_getElem? (i := 232) rfl))) rfl
theorem tw_473 : (Cond.methodLink "GraphQuery$Runner" (106 : Nat) ({ cls := "GraphQuery$Graph", name := "findWay", desc := "(LGraphQuery$Row;LGraphQuery$Row;)V" } : MethodName)) ∈ xT := xT_in (List.mem_append_right _ (List.mem_append_left _ (List.mem_of_getElem? (i := 233) rfl))) rfl
theorem tw_474 : (Cond.instanceMethod ({ cls := "GraphQuery$Graph", name := "findWay", desc := "(LGraphQuery$Row;LGraphQuery$Row;)V" } : MethodName)) ∈ xT := xT_in (List.mem_append_right _ (List.mem_append_left _ (List.mem_of_getElem? (i := 234) rfl))) rfl
theorem tw_475 : (Cond.selects "GraphQuery$Graph" ({ cls := "GraphQuery$Graph", name := "findWay", desc := "(LGraphQuery$Row;LGraphQuery$Row;)V" } : MethodName) ({ cls := "GraphQuery$Graph", name := "findWay", desc := "(LGraphQuery$Row;LGraphQuery$Row;)V" } : MethodName)) ∈ xT := xT_in (List.mem_append_right _ (List.mem_append_left _ (List.mem_of_getElem? (i := 235) rfl))) rfl
theorem tw_476 : (Cond.code ({ cls := "GraphQuery$Graph", name := "findWay", desc := "(LGraphQuery$Row;LGraphQuery$Row;)V" } : MethodName) prog_2_method_17_code (6 : Nat) (Option.none : Option Jvm.ClassFile.FieldType)) ∈ xT := xT_in (List.mem_append_right _ (List.mem_append_left _ (List.mem_of_getElem? (i := 236) rfl))) rfl
theorem tw_477 : (Cond.methodLink "GraphQuery$Graph" (82 : Nat) ({ cls := "GraphQuery$Row", name := "size", desc := "()I" } : MethodName)) ∈ xT := xT_in (List.mem_append_right _ (List.mem_append_left _ (List.mem_of_getElem? (i := 237) rfl))) rfl
theorem tw_478 : (Cond.methodLink "GraphQuery$Graph" (86 : Nat) ({ cls := "GraphQuery$Row", name := "at", desc := "(I)I" } : MethodName)) ∈ xT := xT_in (List.mem_append_right _ (List.mem_append_left _ (List.mem_of_getElem? (i := 238) rfl))) rfl
theorem tw_479 : (Cond.methodLink "GraphQuery$Graph" (99 : Nat) ({ cls := "GraphQuery$Row", name := "has", desc := "(I)Z" } : MethodName)) ∈ xT := xT_in (List.mem_append_right _ (List.mem_append_left _ (List.mem_of_getElem? (i := 239) rfl))) rfl
theorem tw_480 : (Cond.instanceMethod ({ cls := "GraphQuery$Row", name := "has", desc := "(I)Z" } : MethodName)) ∈ xT := xT_in (List.mem_append_right _ (List.mem_append_right _ (List.mem_append_left _ (List.mem_of_getElem? (i := 0) rfl)))) rfl
theorem tw_481 : (Cond.selects "GraphQuery$Row" ({ cls := "GraphQuery$Row", name := "has", desc := "(I)Z" } : MethodName) ({ cls := "GraphQuery$Row", name := "has", desc := "(I)Z" } : MethodName)) ∈ xT := xT_in (List.mem_append_right _ (List.mem_append_right _ (List.mem_append_left _ (List.mem_of_getElem? (i := 1) rfl)))) rfl
theorem tw_482 : (Cond.code ({ cls := "GraphQuery$Row", name := "has", desc := "(I)Z" } : MethodName) prog_4_method_6_code (2 : Nat) (Option.some FieldType.boolean)) ∈ xT := xT_in (List.mem_append_right _ (List.mem_append_right _ (List.mem_append_left _ (List.mem_of_getElem? (i := 2) rfl)))) rfl
theorem tw_483 : (Cond.methodLink "GraphQuery$Graph" (103 : Nat) ({ cls := "GraphQuery$Graph", name := "noteNeedsOf", desc := "(ILGraphQuery$Row;)V" } : MethodName)) ∈ xT := xT_in (List.mem_append_right _ (List.mem_append_right _ (List.mem_append_left _ (List.mem_of_getElem? (i := 3) rfl)))) rfl
theorem tw_485 : (Cond.instanceMethod ({ cls := "GraphQuery$Graph", name := "noteNeedsOf", desc := "(ILGraphQuery$Row;)V" } : MethodName)) ∈ xT := xT_in (List.mem_append_right _ (List.mem_append_right _ (List.mem_append_left _ (List.mem_of_getElem? (i := 5) rfl)))) rfl
theorem tw_486 : (Cond.code ({ cls := "GraphQuery$Graph", name := "noteNeedsOf", desc := "(ILGraphQuery$Row;)V" } : MethodName) prog_2_method_18_code (5 : Nat) (Option.none : Option Jvm.ClassFile.FieldType)) ∈ xT := xT_in (List.mem_append_right _ (List.mem_append_right _ (List.mem_append_left _ (List.mem_of_getElem? (i := 6) rfl)))) rfl
theorem tw_487 : (Cond.methodLink "GraphQuery$Graph" (72 : Nat) ({ cls := "GraphQuery$Graph", name := "needAt", desc := "(II)I" } : MethodName)) ∈ xT := xT_in (List.mem_append_right _ (List.mem_append_right _ (List.mem_append_left _ (List.mem_of_getElem? (i := 7) rfl)))) rfl
theorem tw_488 : (Cond.methodLink "GraphQuery$Graph" (76 : Nat) ({ cls := "GraphQuery$Row", name := "add", desc := "(I)V" } : MethodName)) ∈ xT := xT_in (List.mem_append_right _ (List.mem_append_right _ (List.mem_append_left _ (List.mem_of_getElem? (i := 8) rfl)))) rfl
theorem tw_489 : (Cond.methodLink "GraphQuery$Graph" (106 : Nat) ({ cls := "GraphQuery$Row", name := "clear", desc := "()V" } : MethodName)) ∈ xT := xT_in (List.mem_append_right _ (List.mem_append_right _ (List.mem_append_left _ (List.mem_of_getElem? (i := 9) rfl)))) rfl
theorem tw_490 : (Cond.methodLink "GraphQuery$Graph" (109 : Nat) ({ cls := "GraphQuery$Row", name := "reverse", desc := "()V" } : MethodName)) ∈ xT := xT_in (List.mem_append_right _ (List.mem_append_right _ (List.mem_append_left _ (List.mem_of_getElem? (i := 10) rfl)))) rfl
theorem tw_491 : (Cond.instanceMethod ({ cls := "GraphQuery$Row", name := "reverse", desc := "()V" } : MethodName)) ∈ xT := xT_in (List.mem_append_right _ (List.mem_append_right _ (List.mem_append_left _ (List.mem_of_getElem? (i := 11) rfl)))) rfl
theorem tw_492 : (Cond.selects "GraphQuery$Row" ({ cls := "GraphQuery$Row", name := "reverse", desc := "()V" } : MethodName) ({ cls := "GraphQuery$Row", name := "reverse", desc := "()V" } : MethodName)) ∈ xT := xT_in (List.mem_append_right _ (List.mem_append_right _ (List.mem_append_left _ (List.mem_of_getElem? (i := 12) rfl)))) rfl
theorem tw_493 : (Cond.code ({ cls := "GraphQuery$Row", name := "reverse", desc := "()V" } : MethodName) prog_4_method_12_code (4 : Nat) (Option.none : Option Jvm.ClassFile.FieldType)) ∈ xT := xT_in (List.mem_append_right _ (List.mem_append_right _ (List.mem_append_left _ (List.mem_of_getElem? (i := 13) rfl)))) rfl
theorem tw_494 : (Cond.methodLink "GraphQuery$Runner" (58 : Nat) ({ cls := "GraphQuery$Runner", name := "make", desc := "(IILGraphQuery$Graph;)V" } : MethodName)) ∈ xT := xT_in (List.mem_append_right _ (List.mem_append_right _ (List.mem_append_left _ (List.mem_of_getElem? (i := 14) rfl)))) rfl
theorem tw_496 : (Cond.instanceMethod ({ cls := "GraphQuery$Runner", name := "make", desc := "(IILGraphQuery$Graph;)V" } : MethodName)) ∈ xT := xT_in (List.mem_append_right _ (List.mem_append_right _ (List.mem_append_left _ (List.mem_of_getElem? (i := 16) rfl)))) rfl
theorem tw_497 : (Cond.code ({ cls := "GraphQuery$Runner", name := "make", desc := "(IILGraphQuery$Graph;)V" } : MethodName) prog_5_method_4_code (4 : Nat) (Option.none : Option Jvm.ClassFile.FieldType)) ∈ xT := xT_in (List.mem_append_right _ (List.mem_append_right _ (List.mem_append_left _ (List.mem_of_getElem? (i := 17) rfl)))) rfl
theorem tw_498 : (Cond.methodLink "GraphQuery$Runner" (66 : Nat) ({ cls := "GraphQuery$Runner", name := "push", desc := "()LGraphQuery$Row;" } : MethodName)) ∈ xT := xT_in (List.mem_append_right _ (List.mem_append_right _ (List.mem_append_left _ (List.mem_of_getElem? (i := 18) rfl)))) rfl
theorem tw_500 : (Cond.instanceMethod ({ cls := "GraphQuery$Runner", name := "push", desc := "()LGraphQuery$Row;" } : MethodName)) ∈ xT := xT_in (List.mem_append_right _ (List.mem_append_right _ (List.mem_append_left _ (List.mem_of_getElem? (i := 20) rfl)))) rfl
theorem tw_501 : (Cond.code ({ cls := "GraphQuery$Runner", name := "push", desc := "()LGraphQuery$Row;" } : MethodName) prog_5_method_6_code (2 : Nat) (Option.some (FieldType.object "GraphQuery$Row"))) ∈ xT := xT_in (List.mem_append_right _ (List.mem_append_right _ (List.mem_append_left _ (List.mem_of_getElem? (i := 21) rfl)))) rfl
theorem tw_502 : (Cond.methodLink "GraphQuery$Runner" (110 : Nat) ({ cls := "GraphQuery$Row", name := "clear", desc := "()V" } : MethodName)) ∈ xT := xT_in (List.mem_append_right _ (List.mem_append_right _ (List.mem_append_left _ (List.mem_of_getElem? (i := 22) rfl)))) rfl
theorem tw_503 : (Cond.methodLink "GraphQuery$Runner" (69 : Nat) ({ cls := "GraphQuery$Graph", name := "numberOf", desc := "(I)I" } : MethodName)) ∈ xT := xT_in (List.mem_append_right _ (List.mem_append_right _ (List.mem_append_left _ (List.mem_of_getElem? (i := 23) rfl)))) rfl
theorem tw_504 : (Cond.methodLink "GraphQuery$Runner" (74 : Nat) ({ cls := "GraphQuery$Row", name := "add", desc := "(I)V" } : MethodName)) ∈ xT := xT_in (List.mem_append_right _ (List.mem_append_right _ (List.mem_append_left _ (List.mem_of_getElem? (i := 24) rfl)))) rfl
theorem tw_505 : (Cond.methodLink "GraphQuery$Runner" (78 : Nat) ({ cls := "GraphQuery$Graph", name := "listAll", desc := "(LGraphQuery$Row;)V" } : MethodName)) ∈ xT := xT_in (List.mem_append_right _ (List.mem_append_right _ (List.mem_append_left _ (List.mem_of_getElem? (i := 25) rfl)))) rfl
theorem tw_506 : (Cond.instanceMethod ({ cls := "GraphQuery$Graph", name := "listAll", desc := "(LGraphQuery$Row;)V" } : MethodName)) ∈ xT := xT_in (List.mem_append_right _ (List.mem_append_right _ (List.mem_append_left _ (List.mem_of_getElem? (i := 26) rfl)))) rfl
theorem tw_507 : (Cond.selects "GraphQuery$Graph" ({ cls := "GraphQuery$Graph", name := "listAll", desc := "(LGraphQuery$Row;)V" } : MethodName) ({ cls := "GraphQuery$Graph", name := "listAll", desc := "(LGraphQuery$Row;)V" } : MethodName)) ∈ xT := xT_in (List.mem_append_right _ (List.mem_append_right _ (List.mem_append_left _ (List.mem_of_getElem? (i := 27) rfl)))) rfl
theorem tw_508 : (Cond.code ({ cls := "GraphQuery$Graph", name := "listAll", desc := "(LGraphQuery$Row;)V" } : MethodName) prog_2_method_12_code (3 : Nat) (Option.none : Option Jvm.ClassFile.FieldType)) ∈ xT := xT_in (List.mem_append_right _ (List.mem_append_right _ (List.mem_append_left _ (List.mem_of_getElem? (i := 28) rfl)))) rfl
theorem tw_509 : (Cond.methodLink "GraphQuery$Runner" (81 : Nat) ({ cls := "GraphQuery$Graph", name := "growByNeeds", desc := "(LGraphQuery$Row;I)V" } : MethodName)) ∈ xT := xT_in (List.mem_append_right _ (List.mem_append_right _ (List.mem_append_left _ (List.mem_of_getElem? (i := 29) rfl)))) rfl
theorem tw_510 : (Cond.instanceMethod ({ cls := "GraphQuery$Graph", name := "growByNeeds", desc := "(LGraphQuery$Row;I)V" } : MethodName)) ∈ xT := xT_in (List.mem_append_right _ (List.mem_append_right _ (List.mem_append_left _ (List.mem_of_getElem? (i := 30) rfl)))) rfl
theorem tw_511 : (Cond.selects "GraphQuery$Graph" ({ cls := "GraphQuery$Graph", name := "growByNeeds", desc := "(LGraphQuery$Row;I)V" } : MethodName) ({ cls := "GraphQuery$Graph", name := "growByNeeds", desc := "(LGraphQuery$Row;I)V" } : MethodName)) ∈ xT := xT_in (List.mem_append_right _ (List.mem_append_right _ (List.mem_append_left _ (List.mem_of_getElem? (i := 31) rfl)))) rfl
theorem tw_512 : (Cond.code ({ cls := "GraphQuery$Graph", name := "growByNeeds", desc := "(LGraphQuery$Row;I)V" } : MethodName) prog_2_method_13_code (7 : Nat) (Option.none : Option Jvm.ClassFile.FieldType)) ∈ xT := xT_in (List.mem_append_right _ (List.mem_append_right _ (List.mem_append_left _ (List.mem_of_getElem? (i := 32) rfl)))) rfl
theorem tw_513 : (Cond.methodLink "GraphQuery$Graph" (89 : Nat) ({ cls := "GraphQuery$Graph", name := "addNeedsOf", desc := "(ILGraphQuery$Row;)V" } : MethodName)) ∈ xT := xT_in (List.mem_append_right _ (List.mem_append_right _ (List.mem_append_left _ (List.mem_of_getElem? (i := 33) rfl)))) rfl
theorem tw_515 : (Cond.instanceMethod ({ cls := "GraphQuery$Graph", name := "addNeedsOf", desc := "(ILGraphQuery$Row;)V" } : MethodName)) ∈ xT := xT_in (List.mem_append_right _ (List.mem_append_right _ (List.mem_append_left _ (List.mem_of_getElem? (i := 35) rfl)))) rfl
theorem tw_516 : (Cond.code ({ cls := "GraphQuery$Graph", name := "addNeedsOf", desc := "(ILGraphQuery$Row;)V" } : MethodName) prog_2_method_14_code (4 : Nat) (Option.none : Option Jvm.ClassFile.FieldType)) ∈ xT := xT_in (List.mem_append_right _ (List.mem_append_right _ (List.mem_append_left _ (List.mem_of_getElem? (i := 36) rfl)))) rfl
theorem tw_517 : (Cond.methodLink "GraphQuery$Runner" (85 : Nat) ({ cls := "GraphQuery$Graph", name := "growByUsers", desc := "(LGraphQuery$Row;I)V" } : MethodName)) ∈ xT := xT_in (List.mem_append_right _ (List.mem_append_right _ (List.mem_append_left _ (List.mem_of_getElem? (i := 37) rfl)))) rfl
theorem tw_518 : (Cond.instanceMethod ({ cls := "GraphQuery$Graph", name := "growByUsers", desc := "(LGraphQuery$Row;I)V" } : MethodName)) ∈ xT := xT_in (List.mem_append_right _ (List.mem_append_right _ (List.mem_append_left _ (List.mem_of_getElem? (i := 38) rfl)))) rfl
theorem tw_519 : (Cond.selects "GraphQuery$Graph" ({ cls := "GraphQuery$Graph", name := "growByUsers", desc := "(LGraphQuery$Row;I)V" } : MethodName) ({ cls := "GraphQuery$Graph", name := "growByUsers", desc := "(LGraphQuery$Row;I)V" } : MethodName)) ∈ xT := xT_in (List.mem_append_right _ (List.mem_append_right _ (List.mem_append_left _ (List.mem_of_getElem? (i := 39) rfl)))) rfl
theorem tw_520 : (Cond.code ({ cls := "GraphQuery$Graph", name := "growByUsers", desc := "(LGraphQuery$Row;I)V" } : MethodName) prog_2_method_15_code (7 : Nat) (Option.none : Option Jvm.ClassFile.FieldType)) ∈ xT := xT_in (List.mem_append_right _ (List.mem_append_right _ (List.mem_append_left _ (List.mem_of_getElem? (i := 40) rfl)))) rfl
theorem tw_521 : (Cond.methodLink "GraphQuery$Graph" (93 : Nat) ({ cls := "GraphQuery$Graph", name := "usersOf", desc := "(I)I" } : MethodName)) ∈ xT := xT_in (List.mem_append_right _ (List.mem_append_right _ (List.mem_append_left _ (List.mem_of_getElem? (i := 41) rfl)))) rfl
theorem tw_523 : (Cond.instanceMethod ({ cls := "GraphQuery$Graph", name := "usersOf", desc := "(I)I" } : MethodName)) ∈ xT := xT_in (List.mem_append_right _ (List.mem_append_right _ (List.mem_append_left _ (List.mem_of_getElem? (i := 43) rfl)))) rfl
theorem tw_524 : (Cond.code ({ cls := "GraphQuery$Graph", name := "usersOf", desc := "(I)I" } : MethodName) prog_2_method_16_code (2 : Nat) (Option.some FieldType.int)) ∈ xT := xT_in (List.mem_append_right _ (List.mem_append_right _ (List.mem_append_left _ (List.mem_of_getElem? (i := 44) rfl)))) rfl
theorem tw_525 : (Cond.methodLink "GraphQuery$Graph" (96 : Nat) ({ cls := "GraphQuery$Row", name := "addByNumbers", desc := "(I)V" } : MethodName)) ∈ xT := xT_in (List.mem_append_right _ (List.mem_append_right _ (List.mem_append_left _ (List.mem_of_getElem? (i := 45) rfl)))) rfl
theorem tw_526 : (Cond.instanceMethod ({ cls := "GraphQuery$Row", name := "addByNumbers", desc := "(I)V" } : MethodName)) ∈ xT := xT_in (List.mem_append_right _ (List.mem_append_right _ (List.mem_append_left _ (List.mem_of_getElem? (i := 46) rfl)))) rfl
theorem tw_527 : (Cond.selects "GraphQuery$Row" ({ cls := "GraphQuery$Row", name := "addByNumbers", desc := "(I)V" } : MethodName) ({ cls := "GraphQuery$Row", name := "addByNumbers", desc := "(I)V" } : MethodName)) ∈ xT := xT_in (List.mem_append_right _ (List.mem_append_right _ (List.mem_append_left _ (List.mem_of_getElem? (i := 47) rfl)))) rfl
theorem tw_528 : (Cond.code ({ cls := "GraphQuery$Row", name := "addByNumbers", desc := "(I)V" } : MethodName) prog_4_method_9_code (3 : Nat) (Option.none : Option Jvm.ClassFile.FieldType)) ∈ xT := xT_in (List.mem_append_right _ (List.mem_append_right _ (List.mem_append_left _ (List.mem_of_getElem? (i := 48) rfl)))) rfl
theorem tw_529 : (Cond.methodLink "GraphQuery$Runner" (88 : Nat) ({ cls := "GraphQuery$Graph", name := "keepKind", desc := "(LGraphQuery$Row;I)V" } : MethodName)) ∈ xT := xT_in (List.mem_append_right _ (List.mem_append_right _ (List.mem_append_left _ (List.mem_of_getElem? (i := 49) rfl)))) rfl
theorem tw_530 : (Cond.instanceMethod ({ cls := "GraphQuery$Graph", name := "keepKind", desc := "(LGraphQuery$Row;I)V" } : MethodName)) ∈ xT := xT_in (List.mem_append_right _ (List.mem_append_right _ (List.mem_append_left _ (List.mem_of_getElem? (i := 50) rfl)))) rfl
theorem tw_531 : (Cond.selects "GraphQuery$Graph" ({ cls := "GraphQuery$Graph", name := "keepKind", desc := "(LGraphQuery$Row;I)V" } : MethodName) ({ cls := "GraphQuery$Graph", name := "keepKind", desc := "(LGraphQuery$Row;I)V" } : MethodName)) ∈ xT := xT_in (List.mem_append_right _ (List.mem_append_right _ (List.mem_append_left _ (List.mem_of_getElem? (i := 51) rfl)))) rfl
theorem tw_532 : (Cond.code ({ cls := "GraphQuery$Graph", name := "keepKind", desc := "(LGraphQuery$Row;I)V" } : MethodName) prog_2_method_19_code (3 : Nat) (Option.none : Option Jvm.ClassFile.FieldType)) ∈ xT := xT_in (List.mem_append_right _ (List.mem_append_right _ (List.mem_append_left _ (List.mem_of_getElem? (i := 52) rfl)))) rfl
theorem tw_533 : (Cond.methodLink "GraphQuery$Graph" (112 : Nat) ({ cls := "GraphQuery$Graph", name := "ofKind", desc := "(I)I" } : MethodName)) ∈ xT := xT_in (List.mem_append_right _ (List.mem_append_right _ (List.mem_append_left _ (List.mem_of_getElem? (i := 53) rfl)))) rfl
theorem tw_535 : (Cond.instanceMethod ({ cls := "GraphQuery$Graph", name := "ofKind", desc := "(I)I" } : MethodName)) ∈ xT := xT_in (List.mem_append_right _ (List.mem_append_right _ (List.mem_append_left _ (List.mem_of_getElem? (i := 55) rfl)))) rfl
theorem tw_536 : (Cond.code ({ cls := "GraphQuery$Graph", name := "ofKind", desc := "(I)I" } : MethodName) prog_2_method_21_code (4 : Nat) (Option.some FieldType.int)) ∈ xT := xT_in (List.mem_append_right _ (List.mem_append_right _ (List.mem_append_left _ (List.mem_of_getElem? (i := 56) rfl)))) rfl
theorem tw_537 : (Cond.methodLink "GraphQuery$Graph" (115 : Nat) ({ cls := "GraphQuery$Row", name := "keep", desc := "(I)V" } : MethodName)) ∈ xT := xT_in (List.mem_append_right _ (List.mem_append_right _ (List.mem_append_left _ (List.mem_of_getElem? (i := 57) rfl)))) rfl
theorem tw_538 : (Cond.methodLink "GraphQuery$Runner" (91 : Nat) ({ cls := "GraphQuery$Graph", name := "findTests", desc := "(LGraphQuery$Row;)V" } : MethodName)) ∈ xT := xT_in (List.mem_append_right _ (List.mem_append_right _ (List.mem_append_left _ (List.mem_of_getElem? (i := 58) rfl)))) rfl
theorem tw_539 : (Cond.instanceMethod ({ cls := "GraphQuery$Graph", name := "findTests", desc := "(LGraphQuery$Row;)V" } : MethodName)) ∈ xT := xT_in (List.mem_append_right _ (List.mem_append_right _ (List.mem_append_left _ (List.mem_of_getElem? (i := 59) rfl)))) rfl
theorem tw_540 : (Cond.selects "GraphQuery$Graph" ({ cls := "GraphQuery$Graph", name := "findTests", desc := "(LGraphQuery$Row;)V" } : MethodName) ({ cls := "GraphQuery$Graph", name := "findTests", desc := "(LGraphQuery$Row;)V" } : MethodName)) ∈ xT := xT_in (List.mem_append_right _ (List.mem_append_right _ (List.mem_append_left _ (List.mem_of_getElem? (i := 60) rfl)))) rfl
theorem tw_541 : (Cond.code ({ cls := "GraphQuery$Graph", name := "findTests", desc := "(LGraphQuery$Row;)V" } : MethodName) prog_2_method_20_code (4 : Nat) (Option.none : Option Jvm.ClassFile.FieldType)) ∈ xT := xT_in (List.mem_append_right _ (List.mem_append_right _ (List.mem_append_left _ (List.mem_of_getElem? (i := 61) rfl)))) rfl
theorem tw_542 : (Cond.methodLink "GraphQuery$Graph" (118 : Nat) ({ cls := "GraphQuery$Row", name := "mask", desc := "()I" } : MethodName)) ∈ xT := xT_in (List.mem_append_right _ (List.mem_append_right _ (List.mem_append_left _ (List.mem_of_getElem? (i := 62) rfl)))) rfl
theorem tw_543 : (Cond.methodLink "GraphQuery$Graph" (60 : Nat) ({ cls := "GraphQuery$Graph", name := "joined", desc := "([II)I" } : MethodName)) ∈ xT := xT_in (List.mem_append_right _ (List.mem_append_right _ (List.mem_append_left _ (List.mem_of_getElem? (i := 63) rfl)))) rfl
theorem tw_545 : (Cond.instanceMethod ({ cls := "GraphQuery$Graph", name := "joined", desc := "([II)I" } : MethodName)) ∈ xT := xT_in (List.mem_append_right _ (List.mem_append_right _ (List.mem_append_left _ (List.mem_of_getElem? (i := 65) rfl)))) rfl
theorem tw_546 : (Cond.code ({ cls := "GraphQuery$Graph", name := "joined", desc := "([II)I" } : MethodName) prog_2_method_9_code (5 : Nat) (Option.some FieldType.int)) ∈ xT := xT_in (List.mem_append_right _ (List.mem_append_right _ (List.mem_append_left _ (List.mem_of_getElem? (i := 66) rfl)))) rfl
theorem tw_547 : (Cond.methodLink "GraphQuery$Runner" (94 : Nat) ({ cls := "GraphQuery$Graph", name := "findSame", desc := "(LGraphQuery$Row;)V" } : MethodName)) ∈ xT := xT_in (List.mem_append_right _ (List.mem_append_right _ (List.mem_append_left _ (List.mem_of_getElem? (i := 67) rfl)))) rfl
theorem tw_548 : (Cond.instanceMethod ({ cls := "GraphQuery$Graph", name := "findSame", desc := "(LGraphQuery$Row;)V" } : MethodName)) ∈ xT := xT_in (List.mem_append_right _ (List.mem_append_right _ (List.mem_append_left _ (List.mem_of_getElem? (i := 68) rfl)))) rfl
theorem tw_549 : (Cond.selects "GraphQuery$Graph" ({ cls := "GraphQuery$Graph", name := "findSame", desc := "(LGraphQuery$Row;)V" } : MethodName) ({ cls := "GraphQuery$Graph", name := "findSame", desc := "(LGraphQuery$Row;)V" } : MethodName)) ∈ xT := xT_in (List.mem_append_right _ (List.mem_append_right _ (List.mem_append_left _ (List.mem_of_getElem? (i := 69) rfl)))) rfl
theorem tw_550 : (Cond.code ({ cls := "GraphQuery$Graph", name := "findSame", desc := "(LGraphQuery$Row;)V" } : MethodName) prog_2_method_22_code (4 : Nat) (Option.none : Option Jvm.ClassFile.FieldType)) ∈ xT := xT_in (List.mem_append_right _ (List.mem_append_right _ (List.mem_append_left _ (List.mem_of_getElem? (i := 70) rfl)))) rfl
theorem tw_551 : (Cond.methodLink "GraphQuery$Graph" (121 : Nat) ({ cls := "GraphQuery$Graph", name := "packOf", desc := "(I)I" } : MethodName)) ∈ xT := xT_in (List.mem_append_right _ (List.mem_append_right _ (List.mem_append_left _ (List.mem_of_getElem? (i := 71) rfl)))) rfl
theorem tw_553 : (Cond.instanceMethod ({ cls := "GraphQuery$Graph", name := "packOf", desc := "(I)I" } : MethodName)) ∈ xT := xT_in (List.mem_append_right _ (List.mem_append_right _ (List.mem_append_left _ (List.mem_of_getElem? (i := 73) rfl)))) rfl
theorem tw_554 : (Cond.code ({ cls := "GraphQuery$Graph", name := "packOf", desc := "(I)I" } : MethodName) prog_2_method_23_code (2 : Nat) (Option.some FieldType.int)) ∈ xT := xT_in (List.mem_append_right _ (List.mem_append_right _ (List.mem_append_left _ (List.mem_of_getElem? (i := 74) rfl)))) rfl
theorem tw_555 : (Cond.methodLink "GraphQuery$Runner" (65 : Nat) ({ cls := "GraphQuery$Row", name := "size", desc := "()I" } : MethodName)) ∈ xT := xT_in (List.mem_append_right _ (List.mem_append_right _ (List.mem_append_left _ (List.mem_of_getElem? (i := 75) rfl)))) rfl
theorem tw_556 : (Cond.methodLink "GraphQuery" (99 : Nat) ({ cls := "GraphQuery$Runner", name := "result", desc := "()LGraphQuery$Row;" } : MethodName)) ∈ xT := xT_in (List.mem_append_right _ (List.mem_append_right _ (List.mem_append_left _ (List.mem_of_getElem? (i := 76) rfl)))) rfl
theorem tw_557 : (Cond.methodLink "GraphQuery" (103 : Nat) ({ cls := "GraphQuery$Row", name := "copy", desc := "(LGraphQuery$Row;)V" } : MethodName)) ∈ xT := xT_in (List.mem_append_right _ (List.mem_append_right _ (List.mem_append_left _ (List.mem_of_getElem? (i := 77) rfl)))) rfl
theorem tw_558 : (Cond.methodLink "GraphQuery" (107 : Nat) ({ cls := "GraphQuery$Row", name := "size", desc := "()I" } : MethodName)) ∈ xT := xT_in (List.mem_append_right _ (List.mem_append_right _ (List.mem_append_left _ (List.mem_of_getElem? (i := 78) rfl)))) rfl
theorem tw_559 : (Cond.arrayClass FieldType.byte) ∈ xT := xT_in (List.mem_append_right _ (List.mem_append_right _ (List.mem_append_left _ (List.mem_of_getElem? (i := 79) rfl)))) rfl
theorem tw_560 : (Cond.methodLink "GraphQueryLaw" (38 : Nat) ({ cls := "GraphQuery", name := "answer", desc := "(I)I" } : MethodName)) ∈ xT := xT_in (List.mem_append_right _ (List.mem_append_right _ (List.mem_append_left _ (List.mem_of_getElem? (i := 80) rfl)))) rfl
theorem tw_561 : (Cond.instanceMethod ({ cls := "GraphQuery", name := "answer", desc := "(I)I" } : MethodName)) ∈ xT := xT_in (List.mem_append_right _ (List.mem_append_right _ (List.mem_append_left _ (List.mem_of_getElem? (i := 81) rfl)))) rfl
theorem tw_562 : (Cond.selects "GraphQuery" ({ cls := "GraphQuery", name := "answer", desc := "(I)I" } : MethodName) ({ cls := "GraphQuery", name := "answer", desc := "(I)I" } : MethodName)) ∈ xT := xT_in (List.mem_append_right _ (List.mem_append_right _ (List.mem_append_left _ (List.mem_of_getElem? (i := 82) rfl)))) rfl
theorem tw_563 : (Cond.code ({ cls := "GraphQuery", name := "answer", desc := "(I)I" } : MethodName) prog_1_method_7_code (2 : Nat) (Option.some FieldType.int)) ∈ xT := xT_in (List.mem_append_right _ (List.mem_append_right _ (List.mem_append_left _ (List.mem_of_getElem? (i := 83) rfl)))) rfl
theorem tw_564 : (Cond.methodLink "GraphQuery" (110 : Nat) ({ cls := "GraphQuery$Row", name := "at", desc := "(I)I" } : MethodName)) ∈ xT := xT_in (List.mem_append_right _ (List.mem_append_right _ (List.mem_append_left _ (List.mem_of_getElem? (i := 84) rfl)))) rfl
theorem tw_565 : (Cond.methodLink "GraphQueryLaw" (43 : Nat) ({ cls := "GraphQuery", name := "nearest", desc := "()I" } : MethodName)) ∈ xT := xT_in (List.mem_append_right _ (List.mem_append_right _ (List.mem_append_left _ (List.mem_of_getElem? (i := 85) rfl)))) rfl
theorem tw_566 : (Cond.instanceMethod ({ cls := "GraphQuery", name := "nearest", desc := "()I" } : MethodName)) ∈ xT := xT_in (List.mem_append_right _ (List.mem_append_right _ (List.mem_append_left _ (List.mem_of_getElem? (i := 86) rfl)))) rfl
theorem tw_567 : (Cond.selects "GraphQuery" ({ cls := "GraphQuery", name := "nearest", desc := "()I" } : MethodName) ({ cls := "GraphQuery", name := "nearest", desc := "()I" } : MethodName)) ∈ xT := xT_in (List.mem_append_right _ (List.mem_append_right _ (List.mem_append_left _ (List.mem_of_getElem? (i := 87) rfl)))) rfl
theorem tw_568 : (Cond.code ({ cls := "GraphQuery", name := "nearest", desc := "()I" } : MethodName) prog_1_method_8_code (1 : Nat) (Option.some FieldType.int)) ∈ xT := xT_in (List.mem_append_right _ (List.mem_append_right _ (List.mem_append_left _ (List.mem_of_getElem? (i := 88) rfl)))) rfl
theorem tw_569 : (Cond.methodLink "GraphQuery" (113 : Nat) ({ cls := "GraphQuery$Graph", name := "nearestTo", desc := "(I)I" } : MethodName)) ∈ xT := xT_in (List.mem_append_right _ (List.mem_append_right _ (List.mem_append_left _ (List.mem_of_getElem? (i := 89) rfl)))) rfl
theorem tw_570 : (Cond.instanceMethod ({ cls := "GraphQuery$Graph", name := "nearestTo", desc := "(I)I" } : MethodName)) ∈ xT := xT_in (List.mem_append_right _ (List.mem_append_right _ (List.mem_append_left _ (List.mem_of_getElem? (i := 90) rfl)))) rfl
theorem tw_571 : (Cond.selects "GraphQuery$Graph" ({ cls := "GraphQuery$Graph", name := "nearestTo", desc := "(I)I" } : MethodName) ({ cls := "GraphQuery$Graph", name := "nearestTo", desc := "(I)I" } : MethodName)) ∈ xT := xT_in (List.mem_append_right _ (List.mem_append_right _ (List.mem_append_left _ (List.mem_of_getElem? (i := 91) rfl)))) rfl
theorem tw_572 : (Cond.code ({ cls := "GraphQuery$Graph", name := "nearestTo", desc := "(I)I" } : MethodName) prog_2_method_6_code (5 : Nat) (Option.some FieldType.int)) ∈ xT := xT_in (List.mem_append_right _ (List.mem_append_right _ (List.mem_append_left _ (List.mem_of_getElem? (i := 92) rfl)))) rfl
theorem tw_573 : (Cond.methodLink "GraphQuery$Graph" (47 : Nat) ({ cls := "GraphQuery$Graph", name := "closest", desc := "(IIII)I" } : MethodName)) ∈ xT := xT_in (List.mem_append_right _ (List.mem_append_right _ (List.mem_append_left _ (List.mem_of_getElem? (i := 93) rfl)))) rfl
theorem tw_575 : (Cond.instanceMethod ({ cls := "GraphQuery$Graph", name := "closest", desc := "(IIII)I" } : MethodName)) ∈ xT := xT_in (List.mem_append_right _ (List.mem_append_right _ (List.mem_append_left _ (List.mem_of_getElem? (i := 95) rfl)))) rfl
theorem tw_576 : (Cond.code ({ cls := "GraphQuery$Graph", name := "closest", desc := "(IIII)I" } : MethodName) prog_2_method_7_code (9 : Nat) (Option.some FieldType.int)) ∈ xT := xT_in (List.mem_append_right _ (List.mem_append_right _ (List.mem_append_left _ (List.mem_of_getElem? (i := 96) rfl)))) rfl
theorem tw_577 : (Cond.methodLink "GraphQuery$Graph" (51 : Nat) ({ cls := "GraphQuery$Graph", name := "numberOf", desc := "(I)I" } : MethodName)) ∈ xT := xT_in (List.mem_append_right _ (List.mem_append_right _ (List.mem_append_left _ (List.mem_of_getElem? (i := 97) rfl)))) rfl
theorem tw_578 : (Cond.methodLink "GraphQuery$Graph" (55 : Nat) ({ cls := "java/lang/Math", name := "abs", desc := "(I)I" } : MethodName)) ∈ xT := xT_in (List.mem_append_right _ (List.mem_append_right _ (List.mem_append_left _ (List.mem_of_getElem? (i := 98) rfl)))) rfl
theorem tw_579 : (Cond.static ({ cls := "java/lang/Math", name := "abs", desc := "(I)I" } : MethodName)) ∈ xT := xT_in (List.mem_append_right _ (List.mem_append_right _ (List.mem_append_left _ (List.mem_of_getElem? (i := 99) rfl)))) rfl
theorem tw_580 : (Cond.code ({ cls := "java/lang/Math", name := "abs", desc := "(I)I" } : MethodName) prog_11_method_59_code (1 : Nat) (Option.some FieldType.int)) ∈ xT := xT_in (List.mem_append_right _ (List.mem_append_right _ (List.mem_append_left _ (List.mem_of_getElem? (i := 100) rfl)))) rfl
theorem tw_581 : (Cond.methodLink "GraphQueryLaw" (47 : Nat) ({ cls := "GraphQuery", name := "far", desc := "(II)I" } : MethodName)) ∈ xT := xT_in (List.mem_append_right _ (List.mem_append_right _ (List.mem_append_left _ (List.mem_of_getElem? (i := 101) rfl)))) rfl
theorem tw_582 : (Cond.instanceMethod ({ cls := "GraphQuery", name := "far", desc := "(II)I" } : MethodName)) ∈ xT := xT_in (List.mem_append_right _ (List.mem_append_right _ (List.mem_append_left _ (List.mem_of_getElem? (i := 102) rfl)))) rfl
theorem tw_583 : (Cond.selects "GraphQuery" ({ cls := "GraphQuery", name := "far", desc := "(II)I" } : MethodName) ({ cls := "GraphQuery", name := "far", desc := "(II)I" } : MethodName)) ∈ xT := xT_in (List.mem_append_right _ (List.mem_append_right _ (List.mem_append_left _ (List.mem_of_getElem? (i := 103) rfl)))) rfl
theorem tw_584 : (Cond.code ({ cls := "GraphQuery", name := "far", desc := "(II)I" } : MethodName) prog_1_method_9_code (3 : Nat) (Option.some FieldType.int)) ∈ xT := xT_in (List.mem_append_right _ (List.mem_append_right _ (List.mem_append_left _ (List.mem_of_getElem? (i := 104) rfl)))) rfl
theorem tw_585 : (Cond.methodLink "GraphQuery" (116 : Nat) ({ cls := "GraphQuery$Graph", name := "stepsBetween", desc := "(II)I" } : MethodName)) ∈ xT := xT_in (List.mem_append_right _ (List.mem_append_right _ (List.mem_append_left _ (List.mem_of_getElem? (i := 105) rfl)))) rfl
theorem tw_586 : (Cond.instanceMethod ({ cls := "GraphQuery$Graph", name := "stepsBetween", desc := "(II)I" } : MethodName)) ∈ xT := xT_in (List.mem_append_right _ (List.mem_append_right _ (List.mem_append_left _ (List.mem_of_getElem? (i := 106) rfl)))) rfl
theorem tw_587 : (Cond.selects "GraphQuery$Graph" ({ cls := "GraphQuery$Graph", name := "stepsBetween", desc := "(II)I" } : MethodName) ({ cls := "GraphQuery$Graph", name := "stepsBetween", desc := "(II)I" } : MethodName)) ∈ xT := xT_in (List.mem_append_right _ (List.mem_append_right _ (List.mem_append_left _ (List.mem_of_getElem? (i := 107) rfl)))) rfl
theorem tw_588 : (Cond.code ({ cls := "GraphQuery$Graph", name := "stepsBetween", desc := "(II)I" } : MethodName) prog_2_method_8_code (5 : Nat) (Option.some FieldType.int)) ∈ xT := xT_in (List.mem_append_right _ (List.mem_append_right _ (List.mem_append_left _ (List.mem_of_getElem? (i := 108) rfl)))) rfl
theorem tw_589 : (Cond.methodLink "GraphQueryLaw" (51 : Nat) ({ cls := "GraphQuery", name := "ways", desc := "(III)I" } : MethodName)) ∈ xT := xT_in (List.mem_append_right _ (List.mem_append_right _ (List.mem_append_left _ (List.mem_of_getElem? (i := 109) rfl)))) rfl
theorem tw_590 : (Cond.instanceMethod ({ cls := "GraphQuery", name := "ways", desc := "(III)I" } : MethodName)) ∈ xT := xT_in (List.mem_append_right _ (List.mem_append_right _ (List.mem_append_left _ (List.mem_of_getElem? (i := 110) rfl)))) rfl
theorem tw_591 : (Cond.selects "GraphQuery" ({ cls := "GraphQuery", name := "ways", desc := "(III)I" } : MethodName) ({ cls := "GraphQuery", name := "ways", desc := "(III)I" } : MethodName)) ∈ xT := xT_in (List.mem_append_right _ (List.mem_append_right _ (List.mem_append_left _ (List.mem_of_getElem? (i := 111) rfl)))) rfl
theorem tw_592 : (Cond.code ({ cls := "GraphQuery", name := "ways", desc := "(III)I" } : MethodName) prog_1_method_10_code (4 : Nat) (Option.some FieldType.int)) ∈ xT := xT_in (List.mem_append_right _ (List.mem_append_right _ (List.mem_append_left _ (List.mem_of_getElem? (i := 112) rfl)))) rfl
theorem tw_593 : (Cond.methodLink "GraphQuery" (119 : Nat) ({ cls := "GraphQuery$Graph", name := "waysBetween", desc := "(III)I" } : MethodName)) ∈ xT := xT_in (List.mem_append_right _ (List.mem_append_right _ (List.mem_append_left _ (List.mem_of_getElem? (i := 113) rfl)))) rfl
theorem tw_594 : (Cond.instanceMethod ({ cls := "GraphQuery$Graph", name := "waysBetween", desc := "(III)I" } : MethodName)) ∈ xT := xT_in (List.mem_append_right _ (List.mem_append_right _ (List.mem_append_left _ (List.mem_of_getElem? (i := 114) rfl)))) rfl
theorem tw_595 : (Cond.selects "GraphQuery$Graph" ({ cls := "GraphQuery$Graph", name := "waysBetween", desc := "(III)I" } : MethodName) ({ cls := "GraphQuery$Graph", name := "waysBetween", desc := "(III)I" } : MethodName)) ∈ xT := xT_in (List.mem_append_right _ (List.mem_append_right _ (List.mem_append_left _ (List.mem_of_getElem? (i := 115) rfl)))) rfl
theorem tw_596 : (Cond.code ({ cls := "GraphQuery$Graph", name := "waysBetween", desc := "(III)I" } : MethodName) prog_2_method_10_code (4 : Nat) (Option.some FieldType.int)) ∈ xT := xT_in (List.mem_append_right _ (List.mem_append_right _ (List.mem_append_left _ (List.mem_of_getElem? (i := 116) rfl)))) rfl
theorem tw_597 : (Cond.methodLink "GraphQuery$Graph" (64 : Nat) ({ cls := "GraphQuery$Graph", name := "waysOn", desc := "(IIII)I" } : MethodName)) ∈ xT := xT_in (List.mem_append_right _ (List.mem_append_right _ (List.mem_append_left _ (List.mem_of_getElem? (i := 117) rfl)))) rfl
theorem tw_599 : (Cond.instanceMethod ({ cls := "GraphQuery$Graph", name := "waysOn", desc := "(IIII)I" } : MethodName)) ∈ xT := xT_in (List.mem_append_right _ (List.mem_append_right _ (List.mem_append_left _ (List.mem_of_getElem? (i := 119) rfl)))) rfl
theorem tw_600 : (Cond.code ({ cls := "GraphQuery$Graph", name := "waysOn", desc := "(IIII)I" } : MethodName) prog_2_method_11_code (8 : Nat) (Option.some FieldType.int)) ∈ xT := xT_in (List.mem_append_right _ (List.mem_append_right _ (List.mem_append_left _ (List.mem_of_getElem? (i := 120) rfl)))) rfl
theorem tw_601 : (Cond.methodLink "GraphQuery$Graph" (67 : Nat) ({ cls := "java/lang/Integer", name := "bitCount", desc := "(I)I" } : MethodName)) ∈ xT := xT_in (List.mem_append_right _ (List.mem_append_right _ (List.mem_append_left _ (List.mem_of_getElem? (i := 121) rfl)))) rfl
theorem tw_602 : (Cond.static ({ cls := "java/lang/Integer", name := "bitCount", desc := "(I)I" } : MethodName)) ∈ xT := xT_in (List.mem_append_right _ (List.mem_append_right _ (List.mem_append_left _ (List.mem_of_getElem? (i := 122) rfl)))) rfl
theorem tw_603 : (Cond.code ({ cls := "java/lang/Integer", name := "bitCount", desc := "(I)I" } : MethodName) prog_10_method_49_code (1 : Nat) (Option.some FieldType.int)) ∈ xT := xT_in (List.mem_append_right _ (List.mem_append_right _ (List.mem_append_left _ (List.mem_of_getElem? (i := 123) rfl)))) rfl
theorem tw_604 : (Cond.constant "java/lang/Integer" (265 : Nat) (1431655765 : Int32)) ∈ xT := xT_in (List.mem_append_right _ (List.mem_append_right _ (List.mem_append_left _ (List.mem_of_getElem? (i := 124) rfl)))) rfl
theorem tw_605 : (Cond.constant "java/lang/Integer" (266 : Nat) (858993459 : Int32)) ∈ xT := xT_in (List.mem_append_right _ (List.mem_append_right _ (List.mem_append_left _ (List.mem_of_getElem? (i := 125) rfl)))) rfl
theorem tw_606 : (Cond.constant "java/lang/Integer" (267 : Nat) (252645135 : Int32)) ∈ xT := xT_in (List.mem_append_right _ (List.mem_append_right _ (List.mem_append_left _ (List.mem_of_getElem? (i := 126) rfl)))) rfl
theorem tw_607 : (Cond.methodLink "GraphQueryLaw" (55 : Nat) ({ cls := "GraphQuery", name := "work", desc := "()I" } : MethodName)) ∈ xT := xT_in (List.mem_append_right _ (List.mem_append_right _ (List.mem_append_left _ (List.mem_of_getElem? (i := 127) rfl)))) rfl
theorem tw_608 : (Cond.instanceMethod ({ cls := "GraphQuery", name := "work", desc := "()I" } : MethodName)) ∈ xT := xT_in (List.mem_append_right _ (List.mem_append_right _ (List.mem_append_left _ (List.mem_of_getElem? (i := 128) rfl)))) rfl
theorem tw_609 : (Cond.selects "GraphQuery" ({ cls := "GraphQuery", name := "work", desc := "()I" } : MethodName) ({ cls := "GraphQuery", name := "work", desc := "()I" } : MethodName)) ∈ xT := xT_in (List.mem_append_right _ (List.mem_append_right _ (List.mem_append_left _ (List.mem_of_getElem? (i := 129) rfl)))) rfl
theorem tw_610 : (Cond.code ({ cls := "GraphQuery", name := "work", desc := "()I" } : MethodName) prog_1_method_11_code (1 : Nat) (Option.some FieldType.int)) ∈ xT := xT_in (List.mem_append_right _ (List.mem_append_right _ (List.mem_append_left _ (List.mem_of_getElem? (i := 130) rfl)))) rfl
theorem tw_611 : (Cond.classLink "GraphQueryLaw" (10 : Nat) "GraphQueryModel") ∈ xT := xT_in (List.mem_append_right _ (List.mem_append_right _ (List.mem_append_left _ (List.mem_of_getElem? (i := 131) rfl)))) rfl
theorem tw_612 : (Cond.instantiable "GraphQueryModel" (39 : Nat)) ∈ xT := xT_in (List.mem_append_right _ (List.mem_append_right _ (List.mem_append_left _ (List.mem_of_getElem? (i := 132) rfl)))) rfl
theorem tw_613 : (Cond.methodLink "GraphQueryLaw" (12 : Nat) ({ cls := "GraphQueryModel", name := "<init>", desc := "()V" } : MethodName)) ∈ xT := xT_in (List.mem_append_right _ (List.mem_append_right _ (List.mem_append_left _ (List.mem_of_getElem? (i := 133) rfl)))) rfl
theorem tw_614 : (Cond.instanceMethod ({ cls := "GraphQueryModel", name := "<init>", desc := "()V" } : MethodName)) ∈ xT := xT_in (List.mem_append_right _ (List.mem_append_right _ (List.mem_append_left _ (List.mem_of_getElem? (i := 134) rfl)))) rfl
theorem tw_615 : (Cond.code ({ cls := "GraphQueryModel", name := "<init>", desc := "()V" } : MethodName) prog_9_method_1_code (1 : Nat) (Option.none : Option Jvm.ClassFile.FieldType)) ∈ xT := xT_in (List.mem_append_right _ (List.mem_append_right _ (List.mem_append_left _ (List.mem_of_getElem? (i := 135) rfl)))) rfl
theorem tw_616 : (Cond.methodLink "GraphQueryModel" (1 : Nat) ({ cls := "java/lang/Object", name := "<init>", desc := "()V" } : MethodName)) ∈ xT := xT_in (List.mem_append_right _ (List.mem_append_right _ (List.mem_append_left _ (List.mem_of_getElem? (i := 136) rfl)))) rfl
theorem tw_617 : (Cond.fieldLink "GraphQueryModel" (83 : Nat) "GraphQueryModel" "code" "I") ∈ xT := xT_in (List.mem_append_right _ (List.mem_append_right _ (List.mem_append_left _ (List.mem_of_getElem? (i := 137) rfl)))) rfl
theorem tw_618 : (Cond.fieldLink "GraphQueryModel" (86 : Nat) "GraphQueryModel" "targets" "I") ∈ xT := xT_in (List.mem_append_right _ (List.mem_append_right _ (List.mem_append_left _ (List.mem_of_getElem? (i := 138) rfl)))) rfl
theorem tw_619 : (Cond.fieldLink "GraphQueryModel" (7 : Nat) "GraphQueryModel" "pack" "[I") ∈ xT := xT_in (List.mem_append_right _ (List.mem_append_right _ (List.mem_append_left _ (List.mem_of_getElem? (i := 139) rfl)))) rfl
theorem tw_620 : (Cond.fieldLink "GraphQueryModel" (13 : Nat) "GraphQueryModel" "digit" "[I") ∈ xT := xT_in (List.mem_append_right _ (List.mem_append_right _ (List.mem_append_left _ (List.mem_of_getElem? (i := 140) rfl)))) rfl
theorem tw_621 : (Cond.fieldLink "GraphQueryModel" (16 : Nat) "GraphQueryModel" "kind" "[I") ∈ xT := xT_in (List.mem_append_right _ (List.mem_append_right _ (List.mem_append_left _ (List.mem_of_getElem? (i := 141) rfl)))) rfl
theorem tw_622 : (Cond.fieldLink "GraphQueryModel" (19 : Nat) "GraphQueryModel" "many" "[I") ∈ xT := xT_in (List.mem_append_right _ (List.mem_append_right _ (List.mem_append_left _ (List.mem_of_getElem? (i := 142) rfl)))) rfl
theorem tw_623 : (Cond.fieldLink "GraphQueryModel" (22 : Nat) "GraphQueryModel" "need" "[I") ∈ xT := xT_in (List.mem_append_right _ (List.mem_append_right _ (List.mem_append_left _ (List.mem_of_getElem? (i := 143) rfl)))) rfl
theorem tw_624 : (Cond.fieldLink "GraphQueryModel" (25 : Nat) "GraphQueryModel" "text" "[I") ∈ xT := xT_in (List.mem_append_right _ (List.mem_append_right _ (List.mem_append_left _ (List.mem_of_getElem? (i := 144) rfl)))) rfl
theorem tw_625 : (Cond.fieldLink "GraphQueryModel" (101 : Nat) "GraphQueryModel" "size" "I") ∈ xT := xT_in (List.mem_append_right _ (List.mem_append_right _ (List.mem_append_left _ (List.mem_of_getElem? (i := 145) rfl)))) rfl
theorem tw_626 : (Cond.fieldLink "GraphQueryModel" (134 : Nat) "GraphQueryModel" "token" "I") ∈ xT := xT_in (List.mem_append_right _ (List.mem_append_right _ (List.mem_append_left _ (List.mem_of_getElem? (i := 146) rfl)))) rfl
theorem tw_627 : (Cond.fieldLink "GraphQueryModel" (110 : Nat) "GraphQueryModel" "at" "I") ∈ xT := xT_in (List.mem_append_right _ (List.mem_append_right _ (List.mem_append_left _ (List.mem_of_getElem? (i := 147) rfl)))) rfl
theorem tw_628 : (Cond.fieldLink "GraphQueryModel" (113 : Nat) "GraphQueryModel" "end" "I") ∈ xT := xT_in (List.mem_append_right _ (List.mem_append_right _ (List.mem_append_left _ (List.mem_of_getElem? (i := 148) rfl)))) rfl
theorem tw_629 : (Cond.fieldLink "GraphQueryModel" (140 : Nat) "GraphQueryModel" "value" "I") ∈ xT := xT_in (List.mem_append_right _ (List.mem_append_right _ (List.mem_append_left _ (List.mem_of_getElem? (i := 149) rfl)))) rfl
theorem tw_630 : (Cond.fieldLink "GraphQueryModel" (147 : Nat) "GraphQueryModel" "ill" "I") ∈ xT := xT_in (List.mem_append_right _ (List.mem_append_right _ (List.mem_append_left _ (List.mem_of_getElem? (i := 150) rfl)))) rfl
theorem tw_631 : (Cond.fieldLink "GraphQueryModel" (28 : Nat) "GraphQueryModel" "must" "[I") ∈ xT := xT_in (List.mem_append_right _ (List.mem_append_right _ (List.mem_append_left _ (List.mem_of_getElem? (i := 151) rfl)))) rfl
theorem tw_632 : (Cond.fieldLink "GraphQueryModel" (31 : Nat) "GraphQueryModel" "mustDeep" "[I") ∈ xT := xT_in (List.mem_append_right _ (List.mem_append_right _ (List.mem_append_left _ (List.mem_of_getElem? (i := 152) rfl)))) rfl
theorem tw_633 : (Cond.fieldLink "GraphQueryModel" (34 : Nat) "GraphQueryModel" "mustValue" "[I") ∈ xT := xT_in (List.mem_append_right _ (List.mem_append_right _ (List.mem_append_left _ (List.mem_of_getElem? (i := 153) rfl)))) rfl
theorem tw_634 : (Cond.fieldLink "GraphQueryModel" (37 : Nat) "GraphQueryModel" "open" "[I") ∈ xT := xT_in (List.mem_append_right _ (List.mem_append_right _ (List.mem_append_left _ (List.mem_of_getElem? (i := 154) rfl)))) rfl
theorem tw_635 : (Cond.fieldLink "GraphQueryModel" (156 : Nat) "GraphQueryModel" "musts" "I") ∈ xT := xT_in (List.mem_append_right _ (List.mem_append_right _ (List.mem_append_left _ (List.mem_of_getElem? (i := 155) rfl)))) rfl
theorem tw_636 : (Cond.fieldLink "GraphQueryModel" (40 : Nat) "GraphQueryModel" "order" "[I") ∈ xT := xT_in (List.mem_append_right _ (List.mem_append_right _ (List.mem_append_left _ (List.mem_of_getElem? (i := 156) rfl)))) rfl
theorem tw_637 : (Cond.fieldLink "GraphQueryModel" (43 : Nat) "GraphQueryModel" "orderValue" "[I") ∈ xT := xT_in (List.mem_append_right _ (List.mem_append_right _ (List.mem_append_left _ (List.mem_of_getElem? (i := 157) rfl)))) rfl
theorem tw_638 : (Cond.fieldLink "GraphQueryModel" (46 : Nat) "GraphQueryModel" "orderAt" "[I") ∈ xT := xT_in (List.mem_append_right _ (List.mem_append_right _ (List.mem_append_left _ (List.mem_of_getElem? (i := 158) rfl)))) rfl
theorem tw_639 : (Cond.fieldLink "GraphQueryModel" (159 : Nat) "GraphQueryModel" "orders" "I") ∈ xT := xT_in (List.mem_append_right _ (List.mem_append_right _ (List.mem_append_left _ (List.mem_of_getElem? (i := 159) rfl)))) rfl
theorem tw_640 : (Cond.fieldLink "GraphQueryModel" (49 : Nat) "GraphQueryModel" "list" "[I") ∈ xT := xT_in (List.mem_append_right _ (List.mem_append_right _ (List.mem_append_left _ (List.mem_of_getElem? (i := 160) rfl)))) rfl
theorem tw_641 : (Cond.fieldLink "GraphQueryModel" (52 : Nat) "GraphQueryModel" "listSize" "[I") ∈ xT := xT_in (List.mem_append_right _ (List.mem_append_right _ (List.mem_append_left _ (List.mem_of_getElem? (i := 161) rfl)))) rfl
theorem tw_642 : (Cond.fieldLink "GraphQueryModel" (55 : Nat) "GraphQueryModel" "bound" "[I") ∈ xT := xT_in (List.mem_append_right _ (List.mem_append_right _ (List.mem_append_left _ (List.mem_of_getElem? (i := 162) rfl)))) rfl
theorem tw_643 : (Cond.fieldLink "GraphQueryModel" (58 : Nat) "GraphQueryModel" "boundSize" "[I") ∈ xT := xT_in (List.mem_append_right _ (List.mem_append_right _ (List.mem_append_left _ (List.mem_of_getElem? (i := 163) rfl)))) rfl
theorem tw_644 : (Cond.fieldLink "GraphQueryModel" (61 : Nat) "GraphQueryModel" "boundLetter" "[I") ∈ xT := xT_in (List.mem_append_right _ (List.mem_append_right _ (List.mem_append_left _ (List.mem_of_getElem? (i := 164) rfl)))) rfl
theorem tw_645 : (Cond.fieldLink "GraphQueryModel" (183 : Nat) "GraphQueryModel" "lists" "I") ∈ xT := xT_in (List.mem_append_right _ (List.mem_append_right _ (List.mem_append_left _ (List.mem_of_getElem? (i := 165) rfl)))) rfl
theorem tw_646 : (Cond.fieldLink "GraphQueryModel" (209 : Nat) "GraphQueryModel" "bounds" "I") ∈ xT := xT_in (List.mem_append_right _ (List.mem_append_right _ (List.mem_append_left _ (List.mem_of_getElem? (i := 166) rfl)))) rfl
theorem tw_647 : (Cond.fieldLink "GraphQueryModel" (190 : Nat) "GraphQueryModel" "looked" "I") ∈ xT := xT_in (List.mem_append_right _ (List.mem_append_right _ (List.mem_append_left _ (List.mem_of_getElem? (i := 167) rfl)))) rfl
theorem tw_648 : (Cond.fieldLink "GraphQueryModel" (64 : Nat) "GraphQueryModel" "answer" "[I") ∈ xT := xT_in (List.mem_append_right _ (List.mem_append_right _ (List.mem_append_left _ (List.mem_of_getElem? (i := 168) rfl)))) rfl
theorem tw_649 : (Cond.fieldLink "GraphQueryModel" (67 : Nat) "GraphQueryModel" "from" "[I") ∈ xT := xT_in (List.mem_append_right _ (List.mem_append_right _ (List.mem_append_left _ (List.mem_of_getElem? (i := 169) rfl)))) rfl
theorem tw_650 : (Cond.fieldLink "GraphQueryModel" (70 : Nat) "GraphQueryModel" "rounds" "[I") ∈ xT := xT_in (List.mem_append_right _ (List.mem_append_right _ (List.mem_append_left _ (List.mem_of_getElem? (i := 170) rfl)))) rfl
theorem tw_651 : (Cond.fieldLink "GraphQueryModel" (239 : Nat) "GraphQueryModel" "answerSize" "I") ∈ xT := xT_in (List.mem_append_right _ (List.mem_append_right _ (List.mem_append_left _ (List.mem_of_getElem? (i := 171) rfl)))) rfl
theorem tw_652 : (Cond.fieldLink "GraphQueryModel" (236 : Nat) "GraphQueryModel" "work" "I") ∈ xT := xT_in (List.mem_append_right _ (List.mem_append_right _ (List.mem_append_left _ (List.mem_of_getElem? (i := 172) rfl)))) rfl
theorem tw_653 : (Cond.fieldLink "GraphQueryModel" (73 : Nat) "GraphQueryModel" "unknown" "I") ∈ xT := xT_in (List.mem_append_right _ (List.mem_append_right _ (List.mem_append_left _ (List.mem_of_getElem? (i := 173) rfl)))) rfl
theorem tw_654 : (Cond.fieldLink "GraphQueryModel" (77 : Nat) "GraphQueryModel" "onWay" "[I") ∈ xT := xT_in (List.mem_append_right _ (List.mem_append_right _ (List.mem_append_left _ (List.mem_of_getElem? (i := 174) rfl)))) rfl
theorem tw_655 : (Cond.fieldLink "GraphQueryModel" (80 : Nat) "GraphQueryModel" "nextOf" "[I") ∈ xT := xT_in (List.mem_append_right _ (List.mem_append_right _ (List.mem_append_left _ (List.mem_of_getElem? (i := 175) rfl)))) rfl
theorem tw_735 : (Cond.methodLink "GraphQueryLaw" (17 : Nat) ({ cls := "GraphQueryModel", name := "target", desc := "(III)I" } : MethodName)) ∈ xT := xT_in (List.mem_append_right _ (List.mem_append_right _ (List.mem_append_right _ (List.mem_of_getElem? (i := 15) rfl)))) rfl
theorem tw_736 : (Cond.instanceMethod ({ cls := "GraphQueryModel", name := "target", desc := "(III)I" } : MethodName)) ∈ xT := xT_in (List.mem_append_right _ (List.mem_append_right _ (List.mem_append_right _ (List.mem_of_getElem? (i := 16) rfl)))) rfl
theorem tw_737 : (Cond.selects "GraphQueryModel" ({ cls := "GraphQueryModel", name := "target", desc := "(III)I" } : MethodName) ({ cls := "GraphQueryModel", name := "target", desc := "(III)I" } : MethodName)) ∈ xT := xT_in (List.mem_append_right _ (List.mem_append_right _ (List.mem_append_right _ (List.mem_of_getElem? (i := 17) rfl)))) rfl
theorem tw_738 : (Cond.code ({ cls := "GraphQueryModel", name := "target", desc := "(III)I" } : MethodName) prog_9_method_5_code (4 : Nat) (Option.some FieldType.int)) ∈ xT := xT_in (List.mem_append_right _ (List.mem_append_right _ (List.mem_append_right _ (List.mem_of_getElem? (i := 18) rfl)))) rfl
theorem tw_739 : (Cond.methodLink "GraphQueryModel" (89 : Nat) ({ cls := "GraphQueryModel", name := "find", desc := "(II)I" } : MethodName)) ∈ xT := xT_in (List.mem_append_right _ (List.mem_append_right _ (List.mem_append_right _ (List.mem_of_getElem? (i := 19) rfl)))) rfl
theorem tw_741 : (Cond.instanceMethod ({ cls := "GraphQueryModel", name := "find", desc := "(II)I" } : MethodName)) ∈ xT := xT_in (List.mem_append_right _ (List.mem_append_right _ (List.mem_append_right _ (List.mem_of_getElem? (i := 21) rfl)))) rfl
theorem tw_742 : (Cond.code ({ cls := "GraphQueryModel", name := "find", desc := "(II)I" } : MethodName) prog_9_method_4_code (5 : Nat) (Option.some FieldType.int)) ∈ xT := xT_in (List.mem_append_right _ (List.mem_append_right _ (List.mem_append_right _ (List.mem_of_getElem? (i := 22) rfl)))) rfl
theorem tw_743 : (Cond.methodLink "GraphQueryLaw" (22 : Nat) ({ cls := "GraphQueryModel", name := "needs", desc := "(II)Z" } : MethodName)) ∈ xT := xT_in (List.mem_append_right _ (List.mem_append_right _ (List.mem_append_right _ (List.mem_of_getElem? (i := 23) rfl)))) rfl
theorem tw_744 : (Cond.instanceMethod ({ cls := "GraphQueryModel", name := "needs", desc := "(II)Z" } : MethodName)) ∈ xT := xT_in (List.mem_append_right _ (List.mem_append_right _ (List.mem_append_right _ (List.mem_of_getElem? (i := 24) rfl)))) rfl
theorem tw_745 : (Cond.selects "GraphQueryModel" ({ cls := "GraphQueryModel", name := "needs", desc := "(II)Z" } : MethodName) ({ cls := "GraphQueryModel", name := "needs", desc := "(II)Z" } : MethodName)) ∈ xT := xT_in (List.mem_append_right _ (List.mem_append_right _ (List.mem_append_right _ (List.mem_of_getElem? (i := 25) rfl)))) rfl
theorem tw_746 : (Cond.code ({ cls := "GraphQueryModel", name := "needs", desc := "(II)Z" } : MethodName) prog_9_method_7_code (3 : Nat) (Option.some FieldType.boolean)) ∈ xT := xT_in (List.mem_append_right _ (List.mem_append_right _ (List.mem_append_right _ (List.mem_of_getElem? (i := 26) rfl)))) rfl
theorem tw_747 : (Cond.methodLink "GraphQueryModel" (93 : Nat) ({ cls := "GraphQueryModel", name := "isTarget", desc := "(I)Z" } : MethodName)) ∈ xT := xT_in (List.mem_append_right _ (List.mem_append_right _ (List.mem_append_right _ (List.mem_of_getElem? (i := 27) rfl)))) rfl
theorem tw_749 : (Cond.instanceMethod ({ cls := "GraphQueryModel", name := "isTarget", desc := "(I)Z" } : MethodName)) ∈ xT := xT_in (List.mem_append_right _ (List.mem_append_right _ (List.mem_append_right _ (List.mem_of_getElem? (i := 29) rfl)))) rfl
theorem tw_750 : (Cond.code ({ cls := "GraphQueryModel", name := "isTarget", desc := "(I)Z" } : MethodName) prog_9_method_3_code (2 : Nat) (Option.some FieldType.boolean)) ∈ xT := xT_in (List.mem_append_right _ (List.mem_append_right _ (List.mem_append_right _ (List.mem_of_getElem? (i := 30) rfl)))) rfl
theorem tw_751 : (Cond.methodLink "GraphQueryModel" (97 : Nat) ({ cls := "GraphQueryModel", name := "isNeed", desc := "(II)Z" } : MethodName)) ∈ xT := xT_in (List.mem_append_right _ (List.mem_append_right _ (List.mem_append_right _ (List.mem_of_getElem? (i := 31) rfl)))) rfl
theorem tw_753 : (Cond.instanceMethod ({ cls := "GraphQueryModel", name := "isNeed", desc := "(II)Z" } : MethodName)) ∈ xT := xT_in (List.mem_append_right _ (List.mem_append_right _ (List.mem_append_right _ (List.mem_of_getElem? (i := 33) rfl)))) rfl
theorem tw_754 : (Cond.code ({ cls := "GraphQueryModel", name := "isNeed", desc := "(II)Z" } : MethodName) prog_9_method_6_code (5 : Nat) (Option.some FieldType.boolean)) ∈ xT := xT_in (List.mem_append_right _ (List.mem_append_right _ (List.mem_append_right _ (List.mem_of_getElem? (i := 34) rfl)))) rfl
theorem tw_755 : (Cond.methodLink "GraphQueryLaw" (27 : Nat) ({ cls := "GraphQueryModel", name := "need", desc := "(II)I" } : MethodName)) ∈ xT := xT_in (List.mem_append_right _ (List.mem_append_right _ (List.mem_append_right _ (List.mem_of_getElem? (i := 35) rfl)))) rfl
theorem tw_756 : (Cond.instanceMethod ({ cls := "GraphQueryModel", name := "need", desc := "(II)I" } : MethodName)) ∈ xT := xT_in (List.mem_append_right _ (List.mem_append_right _ (List.mem_append_right _ (List.mem_of_getElem? (i := 36) rfl)))) rfl
theorem tw_757 : (Cond.selects "GraphQueryModel" ({ cls := "GraphQueryModel", name := "need", desc := "(II)I" } : MethodName) ({ cls := "GraphQueryModel", name := "need", desc := "(II)I" } : MethodName)) ∈ xT := xT_in (List.mem_append_right _ (List.mem_append_right _ (List.mem_append_right _ (List.mem_of_getElem? (i := 37) rfl)))) rfl
theorem tw_758 : (Cond.code ({ cls := "GraphQueryModel", name := "need", desc := "(II)I" } : MethodName) prog_9_method_8_code (3 : Nat) (Option.some FieldType.int)) ∈ xT := xT_in (List.mem_append_right _ (List.mem_append_right _ (List.mem_append_right _ (List.mem_of_getElem? (i := 38) rfl)))) rfl
theorem tw_759 : (Cond.methodLink "GraphQueryLaw" (32 : Nat) ({ cls := "GraphQueryModel", name := "type", desc := "(C)Z" } : MethodName)) ∈ xT := xT_in (List.mem_append_right _ (List.mem_append_right _ (List.mem_append_right _ (List.mem_of_getElem? (i := 39) rfl)))) rfl
theorem tw_760 : (Cond.instanceMethod ({ cls := "GraphQueryModel", name := "type", desc := "(C)Z" } : MethodName)) ∈ xT := xT_in (List.mem_append_right _ (List.mem_append_right _ (List.mem_append_right _ (List.mem_of_getElem? (i := 40) rfl)))) rfl
theorem tw_761 : (Cond.selects "GraphQueryModel" ({ cls := "GraphQueryModel", name := "type", desc := "(C)Z" } : MethodName) ({ cls := "GraphQueryModel", name := "type", desc := "(C)Z" } : MethodName)) ∈ xT := xT_in (List.mem_append_right _ (List.mem_append_right _ (List.mem_append_right _ (List.mem_of_getElem? (i := 41) rfl)))) rfl
theorem tw_762 : (Cond.code ({ cls := "GraphQueryModel", name := "type", desc := "(C)Z" } : MethodName) prog_9_method_9_code (2 : Nat) (Option.some FieldType.boolean)) ∈ xT := xT_in (List.mem_append_right _ (List.mem_append_right _ (List.mem_append_right _ (List.mem_of_getElem? (i := 42) rfl)))) rfl
theorem tw_763 : (Cond.methodLink "GraphQueryLaw" (37 : Nat) ({ cls := "GraphQueryModel", name := "ask", desc := "()I" } : MethodName)) ∈ xT := xT_in (List.mem_append_right _ (List.mem_append_right _ (List.mem_append_right _ (List.mem_of_getElem? (i := 43) rfl)))) rfl
theorem tw_764 : (Cond.instanceMethod ({ cls := "GraphQueryModel", name := "ask", desc := "()I" } : MethodName)) ∈ xT := xT_in (List.mem_append_right _ (List.mem_append_right _ (List.mem_append_right _ (List.mem_of_getElem? (i := 44) rfl)))) rfl
theorem tw_765 : (Cond.selects "GraphQueryModel" ({ cls := "GraphQueryModel", name := "ask", desc := "()I" } : MethodName) ({ cls := "GraphQueryModel", name := "ask", desc := "()I" } : MethodName)) ∈ xT := xT_in (List.mem_append_right _ (List.mem_append_right _ (List.mem_append_right _ (List.mem_of_getElem? (i := 45) rfl)))) rfl
theorem tw_766 : (Cond.code ({ cls := "GraphQueryModel", name := "ask", desc := "()I" } : MethodName) prog_9_method_36_code (2 : Nat) (Option.some FieldType.int)) ∈ xT := xT_in (List.mem_append_right _ (List.mem_append_right _ (List.mem_append_right _ (List.mem_of_getElem? (i := 46) rfl)))) rfl
theorem tw_767 : (Cond.methodLink "GraphQueryModel" (230 : Nat) ({ cls := "GraphQueryModel", name := "read", desc := "()V" } : MethodName)) ∈ xT := xT_in (List.mem_append_right _ (List.mem_append_right _ (List.mem_append_right _ (List.mem_of_getElem? (i := 47) rfl)))) rfl
theorem tw_769 : (Cond.instanceMethod ({ cls := "GraphQueryModel", name := "read", desc := "()V" } : MethodName)) ∈ xT := xT_in (List.mem_append_right _ (List.mem_append_right _ (List.mem_append_right _ (List.mem_of_getElem? (i := 49) rfl)))) rfl
theorem tw_770 : (Cond.code ({ cls := "GraphQueryModel", name := "read", desc := "()V" } : MethodName) prog_9_method_19_code (2 : Nat) (Option.none : Option Jvm.ClassFile.FieldType)) ∈ xT := xT_in (List.mem_append_right _ (List.mem_append_right _ (List.mem_append_right _ (List.mem_of_getElem? (i := 50) rfl)))) rfl
theorem tw_771 : (Cond.methodLink "GraphQueryModel" (150 : Nat) ({ cls := "GraphQueryModel", name := "next", desc := "()V" } : MethodName)) ∈ xT := xT_in (List.mem_append_right _ (List.mem_append_right _ (List.mem_append_right _ (List.mem_of_getElem? (i := 51) rfl)))) rfl
theorem tw_773 : (Cond.instanceMethod ({ cls := "GraphQueryModel", name := "next", desc := "()V" } : MethodName)) ∈ xT := xT_in (List.mem_append_right _ (List.mem_append_right _ (List.mem_append_right _ (List.mem_of_getElem? (i := 53) rfl)))) rfl
theorem tw_774 : (Cond.code ({ cls := "GraphQueryModel", name := "next", desc := "()V" } : MethodName) prog_9_method_14_code (4 : Nat) (Option.none : Option Jvm.ClassFile.FieldType)) ∈ xT := xT_in (List.mem_append_right _ (List.mem_append_right _ (List.mem_append_right _ (List.mem_of_getElem? (i := 54) rfl)))) rfl
theorem tw_775 : (Cond.methodLink "GraphQueryModel" (137 : Nat) ({ cls := "GraphQueryModel", name := "isSign", desc := "(I)Z" } : MethodName)) ∈ xT := xT_in (List.mem_append_right _ (List.mem_append_right _ (List.mem_append_right _ (List.mem_of_getElem? (i := 55) rfl)))) rfl
theorem tw_776 : (Cond.static ({ cls := "GraphQueryModel", name := "isSign", desc := "(I)Z" } : MethodName)) ∈ xT := xT_in (List.mem_append_right _ (List.mem_append_right _ (List.mem_append_right _ (List.mem_of_getElem? (i := 56) rfl)))) rfl
theorem tw_777 : (Cond.code ({ cls := "GraphQueryModel", name := "isSign", desc := "(I)Z" } : MethodName) prog_9_method_12_code (1 : Nat) (Option.some FieldType.boolean)) ∈ xT := xT_in (List.mem_append_right _ (List.mem_append_right _ (List.mem_append_right _ (List.mem_of_getElem? (i := 57) rfl)))) rfl
theorem tw_778 : (Cond.methodLink "GraphQueryModel" (104 : Nat) ({ cls := "GraphQueryModel", name := "isDigit", desc := "(I)Z" } : MethodName)) ∈ xT := xT_in (List.mem_append_right _ (List.mem_append_right _ (List.mem_append_right _ (List.mem_of_getElem? (i := 58) rfl)))) rfl
theorem tw_779 : (Cond.static ({ cls := "GraphQueryModel", name := "isDigit", desc := "(I)Z" } : MethodName)) ∈ xT := xT_in (List.mem_append_right _ (List.mem_append_right _ (List.mem_append_right _ (List.mem_of_getElem? (i := 59) rfl)))) rfl
theorem tw_780 : (Cond.code ({ cls := "GraphQueryModel", name := "isDigit", desc := "(I)Z" } : MethodName) prog_9_method_10_code (1 : Nat) (Option.some FieldType.boolean)) ∈ xT := xT_in (List.mem_append_right _ (List.mem_append_right _ (List.mem_append_right _ (List.mem_of_getElem? (i := 60) rfl)))) rfl
theorem tw_781 : (Cond.methodLink "GraphQueryModel" (107 : Nat) ({ cls := "GraphQueryModel", name := "isGreat", desc := "(I)Z" } : MethodName)) ∈ xT := xT_in (List.mem_append_right _ (List.mem_append_right _ (List.mem_append_right _ (List.mem_of_getElem? (i := 61) rfl)))) rfl
theorem tw_782 : (Cond.static ({ cls := "GraphQueryModel", name := "isGreat", desc := "(I)Z" } : MethodName)) ∈ xT := xT_in (List.mem_append_right _ (List.mem_append_right _ (List.mem_append_right _ (List.mem_of_getElem? (i := 62) rfl)))) rfl
theorem tw_783 : (Cond.code ({ cls := "GraphQueryModel", name := "isGreat", desc := "(I)Z" } : MethodName) prog_9_method_11_code (1 : Nat) (Option.some FieldType.boolean)) ∈ xT := xT_in (List.mem_append_right _ (List.mem_append_right _ (List.mem_append_right _ (List.mem_of_getElem? (i := 63) rfl)))) rfl
theorem tw_784 : (Cond.methodLink "GraphQueryModel" (143 : Nat) ({ cls := "GraphQueryModel", name := "wordToken", desc := "()I" } : MethodName)) ∈ xT := xT_in (List.mem_append_right _ (List.mem_append_right _ (List.mem_append_right _ (List.mem_of_getElem? (i := 64) rfl)))) rfl
theorem tw_786 : (Cond.instanceMethod ({ cls := "GraphQueryModel", name := "wordToken", desc := "()I" } : MethodName)) ∈ xT := xT_in (List.mem_append_right _ (List.mem_append_right _ (List.mem_append_right _ (List.mem_of_getElem? (i := 66) rfl)))) rfl
theorem tw_787 : (Cond.code ({ cls := "GraphQueryModel", name := "wordToken", desc := "()I" } : MethodName) prog_9_method_13_code (4 : Nat) (Option.some FieldType.int)) ∈ xT := xT_in (List.mem_append_right _ (List.mem_append_right _ (List.mem_append_right _ (List.mem_of_getElem? (i := 67) rfl)))) rfl
theorem tw_788 : (Cond.constantLong "GraphQueryModel" (116 : Nat) (6384748 : Int64)) ∈ xT := xT_in (List.mem_append_right _ (List.mem_append_right _ (List.mem_append_right _ (List.mem_of_getElem? (i := 68) rfl)))) rfl
theorem tw_789 : (Cond.constantLong "GraphQueryModel" (118 : Nat) (1684369523 : Int64)) ∈ xT := xT_in (List.mem_append_right _ (List.mem_append_right _ (List.mem_append_right _ (List.mem_of_getElem? (i := 69) rfl)))) rfl
theorem tw_790 : (Cond.constantLong "GraphQueryModel" (120 : Nat) (504447201907 : Int64)) ∈ xT := xT_in (List.mem_append_right _ (List.mem_append_right _ (List.mem_append_right _ (List.mem_of_getElem? (i := 70) rfl)))) rfl
theorem tw_791 : (Cond.constantLong "GraphQueryModel" (122 : Nat) (7823737 : Int64)) ∈ xT := xT_in (List.mem_append_right _ (List.mem_append_right _ (List.mem_append_right _ (List.mem_of_getElem? (i := 71) rfl)))) rfl
theorem tw_792 : (Cond.constantLong "GraphQueryModel" (124 : Nat) (1802071652 : Int64)) ∈ xT := xT_in (List.mem_append_right _ (List.mem_append_right _ (List.mem_append_right _ (List.mem_of_getElem? (i := 72) rfl)))) rfl
theorem tw_793 : (Cond.constantLong "GraphQueryModel" (126 : Nat) (499918271603 : Int64)) ∈ xT := xT_in (List.mem_append_right _ (List.mem_append_right _ (List.mem_append_right _ (List.mem_of_getElem? (i := 73) rfl)))) rfl
theorem tw_794 : (Cond.constantLong "GraphQueryModel" (128 : Nat) (1935764837 : Int64)) ∈ xT := xT_in (List.mem_append_right _ (List.mem_append_right _ (List.mem_append_right _ (List.mem_of_getElem? (i := 74) rfl)))) rfl
theorem tw_795 : (Cond.constantLong "GraphQueryModel" (130 : Nat) (7103860 : Int64)) ∈ xT := xT_in (List.mem_append_right _ (List.mem_append_right _ (List.mem_append_right _ (List.mem_of_getElem? (i := 75) rfl)))) rfl
theorem tw_796 : (Cond.constantLong "GraphQueryModel" (132 : Nat) (26990 : Int64)) ∈ xT := xT_in (List.mem_append_right _ (List.mem_append_right _ (List.mem_append_right _ (List.mem_of_getElem? (i := 76) rfl)))) rfl
theorem tw_797 : (Cond.methodLink "GraphQueryModel" (162 : Nat) ({ cls := "GraphQueryModel", name := "wants", desc := "(III)V" } : MethodName)) ∈ xT := xT_in (List.mem_append_right _ (List.mem_append_right _ (List.mem_append_right _ (List.mem_of_getElem? (i := 77) rfl)))) rfl
theorem tw_799 : (Cond.instanceMethod ({ cls := "GraphQueryModel", name := "wants", desc := "(III)V" } : MethodName)) ∈ xT := xT_in (List.mem_append_right _ (List.mem_append_right _ (List.mem_append_right _ (List.mem_of_getElem? (i := 79) rfl)))) rfl
theorem tw_800 : (Cond.code ({ cls := "GraphQueryModel", name := "wants", desc := "(III)V" } : MethodName) prog_9_method_17_code (4 : Nat) (Option.none : Option Jvm.ClassFile.FieldType)) ∈ xT := xT_in (List.mem_append_right _ (List.mem_append_right _ (List.mem_append_right _ (List.mem_of_getElem? (i := 80) rfl)))) rfl
theorem tw_801 : (Cond.methodLink "GraphQueryModel" (166 : Nat) ({ cls := "GraphQueryModel", name := "come", desc := "(III)V" } : MethodName)) ∈ xT := xT_in (List.mem_append_right _ (List.mem_append_right _ (List.mem_append_right _ (List.mem_of_getElem? (i := 81) rfl)))) rfl
theorem tw_803 : (Cond.instanceMethod ({ cls := "GraphQueryModel", name := "come", desc := "(III)V" } : MethodName)) ∈ xT := xT_in (List.mem_append_right _ (List.mem_append_right _ (List.mem_append_right _ (List.mem_of_getElem? (i := 83) rfl)))) rfl
theorem tw_804 : (Cond.code ({ cls := "GraphQueryModel", name := "come", desc := "(III)V" } : MethodName) prog_9_method_20_code (5 : Nat) (Option.none : Option Jvm.ClassFile.FieldType)) ∈ xT := xT_in (List.mem_append_right _ (List.mem_append_right _ (List.mem_append_right _ (List.mem_of_getElem? (i := 84) rfl)))) rfl
theorem tw_805 : (Cond.methodLink "GraphQueryModel" (169 : Nat) ({ cls := "GraphQueryModel", name := "term", desc := "(I)V" } : MethodName)) ∈ xT := xT_in (List.mem_append_right _ (List.mem_append_right _ (List.mem_append_right _ (List.mem_of_getElem? (i := 85) rfl)))) rfl
theorem tw_807 : (Cond.instanceMethod ({ cls := "GraphQueryModel", name := "term", desc := "(I)V" } : MethodName)) ∈ xT := xT_in (List.mem_append_right _ (List.mem_append_right _ (List.mem_append_right _ (List.mem_of_getElem? (i := 87) rfl)))) rfl
theorem tw_808 : (Cond.code ({ cls := "GraphQueryModel", name := "term", desc := "(I)V" } : MethodName) prog_9_method_21_code (5 : Nat) (Option.none : Option Jvm.ClassFile.FieldType)) ∈ xT := xT_in (List.mem_append_right _ (List.mem_append_right _ (List.mem_append_right _ (List.mem_of_getElem? (i := 88) rfl)))) rfl
theorem tw_809 : (Cond.methodLink "GraphQueryModel" (153 : Nat) ({ cls := "GraphQueryModel", name := "fail", desc := "()V" } : MethodName)) ∈ xT := xT_in (List.mem_append_right _ (List.mem_append_right _ (List.mem_append_right _ (List.mem_of_getElem? (i := 89) rfl)))) rfl
theorem tw_811 : (Cond.instanceMethod ({ cls := "GraphQueryModel", name := "fail", desc := "()V" } : MethodName)) ∈ xT := xT_in (List.mem_append_right _ (List.mem_append_right _ (List.mem_append_right _ (List.mem_of_getElem? (i := 91) rfl)))) rfl
theorem tw_812 : (Cond.code ({ cls := "GraphQueryModel", name := "fail", desc := "()V" } : MethodName) prog_9_method_15_code (1 : Nat) (Option.none : Option Jvm.ClassFile.FieldType)) ∈ xT := xT_in (List.mem_append_right _ (List.mem_append_right _ (List.mem_append_right _ (List.mem_of_getElem? (i := 92) rfl)))) rfl
theorem tw_813 : (Cond.methodLink "GraphQueryModel" (176 : Nat) ({ cls := "GraphQueryModel", name := "write", desc := "(III)V" } : MethodName)) ∈ xT := xT_in (List.mem_append_right _ (List.mem_append_right _ (List.mem_append_right _ (List.mem_of_getElem? (i := 93) rfl)))) rfl
theorem tw_815 : (Cond.instanceMethod ({ cls := "GraphQueryModel", name := "write", desc := "(III)V" } : MethodName)) ∈ xT := xT_in (List.mem_append_right _ (List.mem_append_right _ (List.mem_append_right _ (List.mem_of_getElem? (i := 95) rfl)))) rfl
theorem tw_816 : (Cond.code ({ cls := "GraphQueryModel", name := "write", desc := "(III)V" } : MethodName) prog_9_method_18_code (4 : Nat) (Option.none : Option Jvm.ClassFile.FieldType)) ∈ xT := xT_in (List.mem_append_right _ (List.mem_append_right _ (List.mem_append_right _ (List.mem_of_getElem? (i := 96) rfl)))) rfl
theorem tw_817 : (Cond.methodLink "GraphQueryModel" (173 : Nat) ({ cls := "GraphQueryModel", name := "take", desc := "(I)V" } : MethodName)) ∈ xT := xT_in (List.mem_append_right _ (List.mem_append_right _ (List.mem_append_right _ (List.mem_of_getElem? (i := 97) rfl)))) rfl
theorem tw_819 : (Cond.instanceMethod ({ cls := "GraphQueryModel", name := "take", desc := "(I)V" } : MethodName)) ∈ xT := xT_in (List.mem_append_right _ (List.mem_append_right _ (List.mem_append_right _ (List.mem_of_getElem? (i := 99) rfl)))) rfl
theorem tw_820 : (Cond.code ({ cls := "GraphQueryModel", name := "take", desc := "(I)V" } : MethodName) prog_9_method_16_code (2 : Nat) (Option.none : Option Jvm.ClassFile.FieldType)) ∈ xT := xT_in (List.mem_append_right _ (List.mem_append_right _ (List.mem_append_right _ (List.mem_of_getElem? (i := 100) rfl)))) rfl
theorem tw_821 : (Cond.methodLink "GraphQueryModel" (179 : Nat) ({ cls := "GraphQueryModel", name := "others", desc := "(II)V" } : MethodName)) ∈ xT := xT_in (List.mem_append_right _ (List.mem_append_right _ (List.mem_append_right _ (List.mem_of_getElem? (i := 101) rfl)))) rfl
theorem tw_823 : (Cond.instanceMethod ({ cls := "GraphQueryModel", name := "others", desc := "(II)V" } : MethodName)) ∈ xT := xT_in (List.mem_append_right _ (List.mem_append_right _ (List.mem_append_right _ (List.mem_of_getElem? (i := 103) rfl)))) rfl
theorem tw_824 : (Cond.code ({ cls := "GraphQueryModel", name := "others", desc := "(II)V" } : MethodName) prog_9_method_22_code (4 : Nat) (Option.none : Option Jvm.ClassFile.FieldType)) ∈ xT := xT_in (List.mem_append_right _ (List.mem_append_right _ (List.mem_append_right _ (List.mem_of_getElem? (i := 104) rfl)))) rfl
theorem tw_825 : (Cond.methodLink "GraphQueryModel" (233 : Nat) ({ cls := "GraphQueryModel", name := "does", desc := "(II)V" } : MethodName)) ∈ xT := xT_in (List.mem_append_right _ (List.mem_append_right _ (List.mem_append_right _ (List.mem_of_getElem? (i := 105) rfl)))) rfl
theorem tw_827 : (Cond.instanceMethod ({ cls := "GraphQueryModel", name := "does", desc := "(II)V" } : MethodName)) ∈ xT := xT_in (List.mem_append_right _ (List.mem_append_right _ (List.mem_append_right _ (List.mem_of_getElem? (i := 107) rfl)))) rfl
theorem tw_828 : (Cond.code ({ cls := "GraphQueryModel", name := "does", desc := "(II)V" } : MethodName) prog_9_method_35_code (3 : Nat) (Option.none : Option Jvm.ClassFile.FieldType)) ∈ xT := xT_in (List.mem_append_right _ (List.mem_append_right _ (List.mem_append_right _ (List.mem_of_getElem? (i := 108) rfl)))) rfl
theorem tw_829 : (Cond.methodLink "GraphQueryModel" (215 : Nat) ({ cls := "GraphQueryModel", name := "make", desc := "(II)V" } : MethodName)) ∈ xT := xT_in (List.mem_append_right _ (List.mem_append_right _ (List.mem_append_right _ (List.mem_of_getElem? (i := 109) rfl)))) rfl
theorem tw_831 : (Cond.instanceMethod ({ cls := "GraphQueryModel", name := "make", desc := "(II)V" } : MethodName)) ∈ xT := xT_in (List.mem_append_right _ (List.mem_append_right _ (List.mem_append_right _ (List.mem_of_getElem? (i := 111) rfl)))) rfl
theorem tw_832 : (Cond.code ({ cls := "GraphQueryModel", name := "make", desc := "(II)V" } : MethodName) prog_9_method_34_code (4 : Nat) (Option.none : Option Jvm.ClassFile.FieldType)) ∈ xT := xT_in (List.mem_append_right _ (List.mem_append_right _ (List.mem_append_right _ (List.mem_of_getElem? (i := 112) rfl)))) rfl
theorem tw_833 : (Cond.methodLink "GraphQueryModel" (193 : Nat) ({ cls := "GraphQueryModel", name := "begin", desc := "()V" } : MethodName)) ∈ xT := xT_in (List.mem_append_right _ (List.mem_append_right _ (List.mem_append_right _ (List.mem_of_getElem? (i := 113) rfl)))) rfl
theorem tw_835 : (Cond.instanceMethod ({ cls := "GraphQueryModel", name := "begin", desc := "()V" } : MethodName)) ∈ xT := xT_in (List.mem_append_right _ (List.mem_append_right _ (List.mem_append_right _ (List.mem_of_getElem? (i := 115) rfl)))) rfl
theorem tw_836 : (Cond.code ({ cls := "GraphQueryModel", name := "begin", desc := "()V" } : MethodName) prog_9_method_25_code (1 : Nat) (Option.none : Option Jvm.ClassFile.FieldType)) ∈ xT := xT_in (List.mem_append_right _ (List.mem_append_right _ (List.mem_append_right _ (List.mem_of_getElem? (i := 116) rfl)))) rfl
theorem tw_837 : (Cond.methodLink "GraphQueryModel" (196 : Nat) ({ cls := "GraphQueryModel", name := "add", desc := "(I)V" } : MethodName)) ∈ xT := xT_in (List.mem_append_right _ (List.mem_append_right _ (List.mem_append_right _ (List.mem_of_getElem? (i := 117) rfl)))) rfl
theorem tw_839 : (Cond.instanceMethod ({ cls := "GraphQueryModel", name := "add", desc := "(I)V" } : MethodName)) ∈ xT := xT_in (List.mem_append_right _ (List.mem_append_right _ (List.mem_append_right _ (List.mem_of_getElem? (i := 119) rfl)))) rfl
theorem tw_840 : (Cond.code ({ cls := "GraphQueryModel", name := "add", desc := "(I)V" } : MethodName) prog_9_method_26_code (2 : Nat) (Option.none : Option Jvm.ClassFile.FieldType)) ∈ xT := xT_in (List.mem_append_right _ (List.mem_append_right _ (List.mem_append_right _ (List.mem_of_getElem? (i := 120) rfl)))) rfl
theorem tw_841 : (Cond.methodLink "GraphQueryModel" (212 : Nat) ({ cls := "GraphQueryModel", name := "recall", desc := "(I)V" } : MethodName)) ∈ xT := xT_in (List.mem_append_right _ (List.mem_append_right _ (List.mem_append_right _ (List.mem_of_getElem? (i := 121) rfl)))) rfl
theorem tw_843 : (Cond.instanceMethod ({ cls := "GraphQueryModel", name := "recall", desc := "(I)V" } : MethodName)) ∈ xT := xT_in (List.mem_append_right _ (List.mem_append_right _ (List.mem_append_right _ (List.mem_of_getElem? (i := 123) rfl)))) rfl
theorem tw_844 : (Cond.code ({ cls := "GraphQueryModel", name := "recall", desc := "(I)V" } : MethodName) prog_9_method_33_code (4 : Nat) (Option.none : Option Jvm.ClassFile.FieldType)) ∈ xT := xT_in (List.mem_append_right _ (List.mem_append_right _ (List.mem_append_right _ (List.mem_of_getElem? (i := 124) rfl)))) rfl
theorem tw_845 : (Cond.methodLink "GraphQueryModel" (218 : Nat) ({ cls := "GraphQueryModel", name := "join", desc := "(I)V" } : MethodName)) ∈ xT := xT_in (List.mem_append_right _ (List.mem_append_right _ (List.mem_append_right _ (List.mem_of_getElem? (i := 125) rfl)))) rfl
theorem tw_847 : (Cond.instanceMethod ({ cls := "GraphQueryModel", name := "join", desc := "(I)V" } : MethodName)) ∈ xT := xT_in (List.mem_append_right _ (List.mem_append_right _ (List.mem_append_right _ (List.mem_of_getElem? (i := 127) rfl)))) rfl
theorem tw_848 : (Cond.code ({ cls := "GraphQueryModel", name := "join", desc := "(I)V" } : MethodName) prog_9_method_28_code (7 : Nat) (Option.none : Option Jvm.ClassFile.FieldType)) ∈ xT := xT_in (List.mem_append_right _ (List.mem_append_right _ (List.mem_append_right _ (List.mem_of_getElem? (i := 128) rfl)))) rfl
theorem tw_849 : (Cond.methodLink "GraphQueryModel" (186 : Nat) ({ cls := "GraphQueryModel", name := "isIn", desc := "(III)Z" } : MethodName)) ∈ xT := xT_in (List.mem_append_right _ (List.mem_append_right _ (List.mem_append_right _ (List.mem_of_getElem? (i := 129) rfl)))) rfl
theorem tw_851 : (Cond.instanceMethod ({ cls := "GraphQueryModel", name := "isIn", desc := "(III)Z" } : MethodName)) ∈ xT := xT_in (List.mem_append_right _ (List.mem_append_right _ (List.mem_append_right _ (List.mem_of_getElem? (i := 131) rfl)))) rfl
theorem tw_852 : (Cond.code ({ cls := "GraphQueryModel", name := "isIn", desc := "(III)Z" } : MethodName) prog_9_method_23_code (6 : Nat) (Option.some FieldType.boolean)) ∈ xT := xT_in (List.mem_append_right _ (List.mem_append_right _ (List.mem_append_right _ (List.mem_of_getElem? (i := 132) rfl)))) rfl
theorem tw_853 : (Cond.methodLink "GraphQueryModel" (199 : Nat) ({ cls := "GraphQueryModel", name := "replace", desc := "(I)V" } : MethodName)) ∈ xT := xT_in (List.mem_append_right _ (List.mem_append_right _ (List.mem_append_right _ (List.mem_of_getElem? (i := 133) rfl)))) rfl
theorem tw_855 : (Cond.instanceMethod ({ cls := "GraphQueryModel", name := "replace", desc := "(I)V" } : MethodName)) ∈ xT := xT_in (List.mem_append_right _ (List.mem_append_right _ (List.mem_append_right _ (List.mem_of_getElem? (i := 135) rfl)))) rfl
theorem tw_856 : (Cond.code ({ cls := "GraphQueryModel", name := "replace", desc := "(I)V" } : MethodName) prog_9_method_27_code (4 : Nat) (Option.none : Option Jvm.ClassFile.FieldType)) ∈ xT := xT_in (List.mem_append_right _ (List.mem_append_right _ (List.mem_append_right _ (List.mem_of_getElem? (i := 136) rfl)))) rfl
theorem tw_857 : (Cond.methodLink "GraphQueryModel" (205 : Nat) ({ cls := "GraphQueryModel", name := "reach", desc := "(ZI)V" } : MethodName)) ∈ xT := xT_in (List.mem_append_right _ (List.mem_append_right _ (List.mem_append_right _ (List.mem_of_getElem? (i := 137) rfl)))) rfl
theorem tw_859 : (Cond.instanceMethod ({ cls := "GraphQueryModel", name := "reach", desc := "(ZI)V" } : MethodName)) ∈ xT := xT_in (List.mem_append_right _ (List.mem_append_right _ (List.mem_append_right _ (List.mem_of_getElem? (i := 139) rfl)))) rfl
theorem tw_860 : (Cond.code ({ cls := "GraphQueryModel", name := "reach", desc := "(ZI)V" } : MethodName) prog_9_method_29_code (9 : Nat) (Option.none : Option Jvm.ClassFile.FieldType)) ∈ xT := xT_in (List.mem_append_right _ (List.mem_append_right _ (List.mem_append_right _ (List.mem_of_getElem? (i := 140) rfl)))) rfl
theorem tw_861 : (Cond.methodLink "GraphQueryModel" (202 : Nat) ({ cls := "GraphQueryModel", name := "has", desc := "(II)Z" } : MethodName)) ∈ xT := xT_in (List.mem_append_right _ (List.mem_append_right _ (List.mem_append_right _ (List.mem_of_getElem? (i := 141) rfl)))) rfl
theorem tw_863 : (Cond.instanceMethod ({ cls := "GraphQueryModel", name := "has", desc := "(II)Z" } : MethodName)) ∈ xT := xT_in (List.mem_append_right _ (List.mem_append_right _ (List.mem_append_right _ (List.mem_of_getElem? (i := 143) rfl)))) rfl
theorem tw_864 : (Cond.code ({ cls := "GraphQueryModel", name := "has", desc := "(II)Z" } : MethodName) prog_9_method_24_code (3 : Nat) (Option.some FieldType.boolean)) ∈ xT := xT_in (List.mem_append_right _ (List.mem_append_right _ (List.mem_append_right _ (List.mem_of_getElem? (i := 144) rfl)))) rfl
theorem tw_865 : (Cond.methodLink "GraphQueryModel" (221 : Nat) ({ cls := "GraphQueryModel", name := "findWay", desc := "()V" } : MethodName)) ∈ xT := xT_in (List.mem_append_right _ (List.mem_append_right _ (List.mem_append_right _ (List.mem_of_getElem? (i := 145) rfl)))) rfl
theorem tw_867 : (Cond.instanceMethod ({ cls := "GraphQueryModel", name := "findWay", desc := "()V" } : MethodName)) ∈ xT := xT_in (List.mem_append_right _ (List.mem_append_right _ (List.mem_append_right _ (List.mem_of_getElem? (i := 147) rfl)))) rfl
theorem tw_868 : (Cond.code ({ cls := "GraphQueryModel", name := "findWay", desc := "()V" } : MethodName) prog_9_method_30_code (5 : Nat) (Option.none : Option Jvm.ClassFile.FieldType)) ∈ xT := xT_in (List.mem_append_right _ (List.mem_append_right _ (List.mem_append_right _ (List.mem_of_getElem? (i := 148) rfl)))) rfl
theorem tw_869 : (Cond.methodLink "GraphQueryModel" (224 : Nat) ({ cls := "GraphQueryModel", name := "bind", desc := "(I)V" } : MethodName)) ∈ xT := xT_in (List.mem_append_right _ (List.mem_append_right _ (List.mem_append_right _ (List.mem_of_getElem? (i := 149) rfl)))) rfl
theorem tw_871 : (Cond.instanceMethod ({ cls := "GraphQueryModel", name := "bind", desc := "(I)V" } : MethodName)) ∈ xT := xT_in (List.mem_append_right _ (List.mem_append_right _ (List.mem_append_right _ (List.mem_of_getElem? (i := 151) rfl)))) rfl
theorem tw_872 : (Cond.code ({ cls := "GraphQueryModel", name := "bind", desc := "(I)V" } : MethodName) prog_9_method_32_code (3 : Nat) (Option.none : Option Jvm.ClassFile.FieldType)) ∈ xT := xT_in (List.mem_append_right _ (List.mem_append_right _ (List.mem_append_right _ (List.mem_of_getElem? (i := 152) rfl)))) rfl
theorem tw_873 : (Cond.methodLink "GraphQueryModel" (227 : Nat) ({ cls := "GraphQueryModel", name := "filter", desc := "(II)V" } : MethodName)) ∈ xT := xT_in (List.mem_append_right _ (List.mem_append_right _ (List.mem_append_right _ (List.mem_of_getElem? (i := 153) rfl)))) rfl
theorem tw_875 : (Cond.instanceMethod ({ cls := "GraphQueryModel", name := "filter", desc := "(II)V" } : MethodName)) ∈ xT := xT_in (List.mem_append_right _ (List.mem_append_right _ (List.mem_append_right _ (List.mem_of_getElem? (i := 155) rfl)))) rfl
theorem tw_876 : (Cond.code ({ cls := "GraphQueryModel", name := "filter", desc := "(II)V" } : MethodName) prog_9_method_31_code (7 : Nat) (Option.none : Option Jvm.ClassFile.FieldType)) ∈ xT := xT_in (List.mem_append_right _ (List.mem_append_right _ (List.mem_append_right _ (List.mem_of_getElem? (i := 156) rfl)))) rfl
theorem tw_877 : (Cond.methodLink "GraphQueryLaw" (42 : Nat) ({ cls := "GraphQueryModel", name := "answer", desc := "(I)I" } : MethodName)) ∈ xT := xT_in (List.mem_append_right _ (List.mem_append_right _ (List.mem_append_right _ (List.mem_of_getElem? (i := 157) rfl)))) rfl
theorem tw_878 : (Cond.instanceMethod ({ cls := "GraphQueryModel", name := "answer", desc := "(I)I" } : MethodName)) ∈ xT := xT_in (List.mem_append_right _ (List.mem_append_right _ (List.mem_append_right _ (List.mem_of_getElem? (i := 158) rfl)))) rfl
theorem tw_879 : (Cond.selects "GraphQueryModel" ({ cls := "GraphQueryModel", name := "answer", desc := "(I)I" } : MethodName) ({ cls := "GraphQueryModel", name := "answer", desc := "(I)I" } : MethodName)) ∈ xT := xT_in (List.mem_append_right _ (List.mem_append_right _ (List.mem_append_right _ (List.mem_of_getElem? (i := 159) rfl)))) rfl
theorem tw_880 : (Cond.code ({ cls := "GraphQueryModel", name := "answer", desc := "(I)I" } : MethodName) prog_9_method_37_code (2 : Nat) (Option.some FieldType.int)) ∈ xT := xT_in (List.mem_append_right _ (List.mem_append_right _ (List.mem_append_right _ (List.mem_of_getElem? (i := 160) rfl)))) rfl
theorem tw_881 : (Cond.methodLink "GraphQueryLaw" (46 : Nat) ({ cls := "GraphQueryModel", name := "nearest", desc := "()I" } : MethodName)) ∈ xT := xT_in (List.mem_append_right _ (List.mem_append_right _ (List.mem_append_right _ (List.mem_of_getElem? (i := 161) rfl)))) rfl
theorem tw_882 : (Cond.instanceMethod ({ cls := "GraphQueryModel", name := "nearest", desc := "()I" } : MethodName)) ∈ xT := xT_in (List.mem_append_right _ (List.mem_append_right _ (List.mem_append_right _ (List.mem_of_getElem? (i := 162) rfl)))) rfl
theorem tw_883 : (Cond.selects "GraphQueryModel" ({ cls := "GraphQueryModel", name := "nearest", desc := "()I" } : MethodName) ({ cls := "GraphQueryModel", name := "nearest", desc := "()I" } : MethodName)) ∈ xT := xT_in (List.mem_append_right _ (List.mem_append_right _ (List.mem_append_right _ (List.mem_of_getElem? (i := 163) rfl)))) rfl
theorem tw_884 : (Cond.code ({ cls := "GraphQueryModel", name := "nearest", desc := "()I" } : MethodName) prog_9_method_38_code (7 : Nat) (Option.some FieldType.int)) ∈ xT := xT_in (List.mem_append_right _ (List.mem_append_right _ (List.mem_append_right _ (List.mem_of_getElem? (i := 164) rfl)))) rfl
theorem tw_885 : (Cond.methodLink "GraphQueryLaw" (50 : Nat) ({ cls := "GraphQueryModel", name := "far", desc := "(II)I" } : MethodName)) ∈ xT := xT_in (List.mem_append_right _ (List.mem_append_right _ (List.mem_append_right _ (List.mem_of_getElem? (i := 165) rfl)))) rfl
theorem tw_886 : (Cond.instanceMethod ({ cls := "GraphQueryModel", name := "far", desc := "(II)I" } : MethodName)) ∈ xT := xT_in (List.mem_append_right _ (List.mem_append_right _ (List.mem_append_right _ (List.mem_of_getElem? (i := 166) rfl)))) rfl
theorem tw_887 : (Cond.selects "GraphQueryModel" ({ cls := "GraphQueryModel", name := "far", desc := "(II)I" } : MethodName) ({ cls := "GraphQueryModel", name := "far", desc := "(II)I" } : MethodName)) ∈ xT := xT_in (List.mem_append_right _ (List.mem_append_right _ (List.mem_append_right _ (List.mem_of_getElem? (i := 167) rfl)))) rfl
theorem tw_888 : (Cond.code ({ cls := "GraphQueryModel", name := "far", desc := "(II)I" } : MethodName) prog_9_method_39_code (3 : Nat) (Option.some FieldType.int)) ∈ xT := xT_in (List.mem_append_right _ (List.mem_append_right _ (List.mem_append_right _ (List.mem_of_getElem? (i := 168) rfl)))) rfl
theorem tw_889 : (Cond.methodLink "GraphQueryLaw" (54 : Nat) ({ cls := "GraphQueryModel", name := "ways", desc := "(III)I" } : MethodName)) ∈ xT := xT_in (List.mem_append_right _ (List.mem_append_right _ (List.mem_append_right _ (List.mem_of_getElem? (i := 169) rfl)))) rfl
theorem tw_890 : (Cond.instanceMethod ({ cls := "GraphQueryModel", name := "ways", desc := "(III)I" } : MethodName)) ∈ xT := xT_in (List.mem_append_right _ (List.mem_append_right _ (List.mem_append_right _ (List.mem_of_getElem? (i := 170) rfl)))) rfl
theorem tw_891 : (Cond.selects "GraphQueryModel" ({ cls := "GraphQueryModel", name := "ways", desc := "(III)I" } : MethodName) ({ cls := "GraphQueryModel", name := "ways", desc := "(III)I" } : MethodName)) ∈ xT := xT_in (List.mem_append_right _ (List.mem_append_right _ (List.mem_append_right _ (List.mem_of_getElem? (i := 171) rfl)))) rfl
theorem tw_892 : (Cond.code ({ cls := "GraphQueryModel", name := "ways", desc := "(III)I" } : MethodName) prog_9_method_40_code (11 : Nat) (Option.some FieldType.int)) ∈ xT := xT_in (List.mem_append_right _ (List.mem_append_right _ (List.mem_append_right _ (List.mem_of_getElem? (i := 172) rfl)))) rfl
theorem tw_893 : (Cond.methodLink "GraphQueryLaw" (58 : Nat) ({ cls := "GraphQueryModel", name := "work", desc := "()I" } : MethodName)) ∈ xT := xT_in (List.mem_append_right _ (List.mem_append_right _ (List.mem_append_right _ (List.mem_of_getElem? (i := 173) rfl)))) rfl
theorem tw_894 : (Cond.instanceMethod ({ cls := "GraphQueryModel", name := "work", desc := "()I" } : MethodName)) ∈ xT := xT_in (List.mem_append_right _ (List.mem_append_right _ (List.mem_append_right _ (List.mem_of_getElem? (i := 174) rfl)))) rfl
theorem tw_895 : (Cond.selects "GraphQueryModel" ({ cls := "GraphQueryModel", name := "work", desc := "()I" } : MethodName) ({ cls := "GraphQueryModel", name := "work", desc := "()I" } : MethodName)) ∈ xT := xT_in (List.mem_append_right _ (List.mem_append_right _ (List.mem_append_right _ (List.mem_of_getElem? (i := 175) rfl)))) rfl
theorem tw_896 : (Cond.code ({ cls := "GraphQueryModel", name := "work", desc := "()I" } : MethodName) prog_9_method_41_code (1 : Nat) (Option.some FieldType.int)) ∈ xT := xT_in (List.mem_append_right _ (List.mem_append_right _ (List.mem_append_right _ (List.mem_of_getElem? (i := 176) rfl)))) rfl
theorem tw_897 : (Cond.fieldLink "java/lang/String" (9 : Nat) "java/lang/String" "value" "[B") ∈ xT := xT_in (List.mem_append_right _ (List.mem_append_right _ (List.mem_append_right _ (List.mem_of_getElem? (i := 177) rfl)))) rfl
theorem tw_898 : (Cond.fieldLink "java/lang/String" (15 : Nat) "java/lang/String" "coder" "B") ∈ xT := xT_in (List.mem_append_right _ (List.mem_append_right _ (List.mem_append_right _ (List.mem_of_getElem? (i := 178) rfl)))) rfl
/-- the links among nest mates, in a state -/
def xN (U : State) : Prop := va_Nw (Cond.methodLinkNest "GraphQuery$Graph" (44 : Nat) ({ cls := "GraphQuery", name := "isIn", desc := "(II)Z" } : MethodName) "GraphQuery") U ∧ va_Nw (Cond.methodLinkNest "GraphQuery$Text" (84 : Nat) ({ cls := "GraphQuery", name := "isJoin", desc := "(I)Z" } : MethodName) "GraphQuery") U ∧ va_Nw (Cond.methodLinkNest "GraphQuery$Parser" (55 : Nat) ({ cls := "GraphQuery", name := "isJoin", desc := "(I)Z" } : MethodName) "GraphQuery") U ∧ va_Nw (Cond.methodLinkNest "GraphQuery$Row" (22 : Nat) ({ cls := "GraphQuery", name := "isIn", desc := "(II)Z" } : MethodName) "GraphQuery") U ∧ va_Nw (Cond.methodLinkNest "GraphQuery$Runner" (50 : Nat) ({ cls := "GraphQuery", name := "isJoin", desc := "(I)Z" } : MethodName) "GraphQuery") U
theorem xN_189 {U : State} (h : xN U) : va_Nw (Cond.methodLinkNest "GraphQuery$Graph" (44 : Nat) ({ cls := "GraphQuery", name := "isIn", desc := "(II)Z" } : MethodName) "GraphQuery") U := h.1
theorem xN_317 {U : State} (h : xN U) : va_Nw (Cond.methodLinkNest "GraphQuery$Text" (84 : Nat) ({ cls := "GraphQuery", name := "isJoin", desc := "(I)Z" } : MethodName) "GraphQuery") U := h.2.1
theorem xN_382 {U : State} (h : xN U) : va_Nw (Cond.methodLinkNest "GraphQuery$Parser" (55 : Nat) ({ cls := "GraphQuery", name := "isJoin", desc := "(I)Z" } : MethodName) "GraphQuery") U := h.2.2.1
theorem xN_454 {U : State} (h : xN U) : va_Nw (Cond.methodLinkNest "GraphQuery$Row" (22 : Nat) ({ cls := "GraphQuery", name := "isIn", desc := "(II)Z" } : MethodName) "GraphQuery") U := h.2.2.2.1
theorem xN_455 {U : State} (h : xN U) : va_Nw (Cond.methodLinkNest "GraphQuery$Runner" (50 : Nat) ({ cls := "GraphQuery", name := "isJoin", desc := "(I)Z" } : MethodName) "GraphQuery") U := h.2.2.2.2
theorem xN.same {u U : State} (h : u.vm = U.vm) (n : xN u) : xN U := ⟨va_Nw.same rfl h (xN_189 n), va_Nw.same rfl h (xN_317 n), va_Nw.same rfl h (xN_382 n), va_Nw.same rfl h (xN_454 n), va_Nw.same rfl h (xN_455 n)⟩
theorem xN.warm {s U : State} (h : s.WarmedH U.vm) (n : xN s) : xN U := ⟨va_Nw.warmM h (xN_189 n), va_Nw.warmM h (xN_317 n), va_Nw.warmM h (xN_382 n), va_Nw.warmM h (xN_454 n), va_Nw.warmM h (xN_455 n)⟩
theorem ts_X_charAt : Cond.selects "GraphQuery$Text" yX_charAt yX_charAt ∈ xT := xT_sel (q := (yX_charAt, 2)) (by decide +kernel) (by decide +kernel)
theorem ts_X_rowKind : Cond.selects "GraphQuery$Text" yX_rowKind yX_rowKind ∈ xT := xT_sel (q := (yX_rowKind, 2)) (by decide +kernel) (by decide +kernel)
theorem ts_X_wordKind : Cond.selects "GraphQuery$Text" yX_wordKind yX_wordKind ∈ xT := xT_sel (q := (yX_wordKind, 2)) (by decide +kernel) (by decide +kernel)
theorem ts_X_spells : Cond.selects "GraphQuery$Text" yX_spells yX_spells ∈ xT := xT_sel (q := (yX_spells, 2)) (by decide +kernel) (by decide +kernel)
theorem ts_X_rowValue : Cond.selects "GraphQuery$Text" yX_rowValue yX_rowValue ∈ xT := xT_sel (q := (yX_rowValue, 2)) (by decide +kernel) (by decide +kernel)
theorem ts_P_sum : Cond.selects "GraphQuery$Parser" yP_sum yP_sum ∈ xT := xT_sel (q := (yP_sum, 5)) (by decide +kernel) (by decide +kernel)
theorem ts_P_term : Cond.selects "GraphQuery$Parser" yP_term yP_term ∈ xT := xT_sel (q := (yP_term, 5)) (by decide +kernel) (by decide +kernel)
theorem ts_P_emit : Cond.selects "GraphQuery$Parser" yP_emit yP_emit ∈ xT := xT_sel (q := (yP_emit, 5)) (by decide +kernel) (by decide +kernel)
theorem ts_P_letterTerm : Cond.selects "GraphQuery$Parser" yP_letterTerm yP_letterTerm ∈ xT := xT_sel (q := (yP_letterTerm, 5)) (by decide +kernel) (by decide +kernel)
theorem ts_P_slotOf : Cond.selects "GraphQuery$Parser" yP_slotOf yP_slotOf ∈ xT := xT_sel (q := (yP_slotOf, 5)) (by decide +kernel) (by decide +kernel)
theorem ts_P_take : Cond.selects "GraphQuery$Parser" yP_take yP_take ∈ xT := xT_sel (q := (yP_take, 5)) (by decide +kernel) (by decide +kernel)
theorem ts_P_roundsTerm : Cond.selects "GraphQuery$Parser" yP_roundsTerm yP_roundsTerm ∈ xT := xT_sel (q := (yP_roundsTerm, 5)) (by decide +kernel) (by decide +kernel)
theorem ts_P_plainTerm : Cond.selects "GraphQuery$Parser" yP_plainTerm yP_plainTerm ∈ xT := xT_sel (q := (yP_plainTerm, 5)) (by decide +kernel) (by decide +kernel)
theorem ts_P_wayTerm : Cond.selects "GraphQuery$Parser" yP_wayTerm yP_wayTerm ∈ xT := xT_sel (q := (yP_wayTerm, 5)) (by decide +kernel) (by decide +kernel)
theorem ts_P_kindTerm : Cond.selects "GraphQuery$Parser" yP_kindTerm yP_kindTerm ∈ xT := xT_sel (q := (yP_kindTerm, 5)) (by decide +kernel) (by decide +kernel)
theorem ts_P_letTerm : Cond.selects "GraphQuery$Parser" yP_letTerm yP_letTerm ∈ xT := xT_sel (q := (yP_letTerm, 5)) (by decide +kernel) (by decide +kernel)
theorem ts_P_setSlot : Cond.selects "GraphQuery$Parser" yP_setSlot yP_setSlot ∈ xT := xT_sel (q := (yP_setSlot, 5)) (by decide +kernel) (by decide +kernel)
theorem ts_Q_firstUnknown : Cond.selects "GraphQuery" yQ_firstUnknown yQ_firstUnknown ∈ xT := xT_sel (q := (yQ_firstUnknown, 7)) (by decide +kernel) (by decide +kernel)
theorem ts_N_pop : Cond.selects "GraphQuery$Runner" yN_pop yN_pop ∈ xT := xT_sel (q := (yN_pop, 3)) (by decide +kernel) (by decide +kernel)
theorem ts_N_makeOfTwo : Cond.selects "GraphQuery$Runner" yN_makeOfTwo yN_makeOfTwo ∈ xT := xT_sel (q := (yN_makeOfTwo, 3)) (by decide +kernel) (by decide +kernel)
theorem ts_G_noteNeedsOf : Cond.selects "GraphQuery$Graph" yG_noteNeedsOf yG_noteNeedsOf ∈ xT := xT_sel (q := (yG_noteNeedsOf, 9)) (by decide +kernel) (by decide +kernel)
theorem ts_N_make : Cond.selects "GraphQuery$Runner" yN_make yN_make ∈ xT := xT_sel (q := (yN_make, 3)) (by decide +kernel) (by decide +kernel)
theorem ts_N_push : Cond.selects "GraphQuery$Runner" yN_push yN_push ∈ xT := xT_sel (q := (yN_push, 3)) (by decide +kernel) (by decide +kernel)
theorem ts_G_addNeedsOf : Cond.selects "GraphQuery$Graph" yG_addNeedsOf yG_addNeedsOf ∈ xT := xT_sel (q := (yG_addNeedsOf, 9)) (by decide +kernel) (by decide +kernel)
theorem ts_G_usersOf : Cond.selects "GraphQuery$Graph" yG_usersOf yG_usersOf ∈ xT := xT_sel (q := (yG_usersOf, 9)) (by decide +kernel) (by decide +kernel)
theorem ts_G_ofKind : Cond.selects "GraphQuery$Graph" yG_ofKind yG_ofKind ∈ xT := xT_sel (q := (yG_ofKind, 9)) (by decide +kernel) (by decide +kernel)
theorem ts_G_joined : Cond.selects "GraphQuery$Graph" yG_joined yG_joined ∈ xT := xT_sel (q := (yG_joined, 9)) (by decide +kernel) (by decide +kernel)
theorem ts_G_packOf : Cond.selects "GraphQuery$Graph" yG_packOf yG_packOf ∈ xT := xT_sel (q := (yG_packOf, 9)) (by decide +kernel) (by decide +kernel)
theorem ts_G_closest : Cond.selects "GraphQuery$Graph" yG_closest yG_closest ∈ xT := xT_sel (q := (yG_closest, 9)) (by decide +kernel) (by decide +kernel)
theorem ts_G_waysOn : Cond.selects "GraphQuery$Graph" yG_waysOn yG_waysOn ∈ xT := xT_sel (q := (yG_waysOn, 9)) (by decide +kernel) (by decide +kernel)
theorem ts_M_find : Cond.selects "GraphQueryModel" yM_find yM_find ∈ xT := xT_sel (q := (yM_find, 39)) (by decide +kernel) (by decide +kernel)
theorem ts_M_isTarget : Cond.selects "GraphQueryModel" yM_isTarget yM_isTarget ∈ xT := xT_sel (q := (yM_isTarget, 39)) (by decide +kernel) (by decide +kernel)
theorem ts_M_isNeed : Cond.selects "GraphQueryModel" yM_isNeed yM_isNeed ∈ xT := xT_sel (q := (yM_isNeed, 39)) (by decide +kernel) (by decide +kernel)
theorem ts_M_read : Cond.selects "GraphQueryModel" yM_read yM_read ∈ xT := xT_sel (q := (yM_read, 39)) (by decide +kernel) (by decide +kernel)
theorem ts_M_next : Cond.selects "GraphQueryModel" yM_next yM_next ∈ xT := xT_sel (q := (yM_next, 39)) (by decide +kernel) (by decide +kernel)
theorem ts_M_wordToken : Cond.selects "GraphQueryModel" yM_wordToken yM_wordToken ∈ xT := xT_sel (q := (yM_wordToken, 39)) (by decide +kernel) (by decide +kernel)
theorem ts_M_wants : Cond.selects "GraphQueryModel" yM_wants yM_wants ∈ xT := xT_sel (q := (yM_wants, 39)) (by decide +kernel) (by decide +kernel)
theorem ts_M_come : Cond.selects "GraphQueryModel" yM_come yM_come ∈ xT := xT_sel (q := (yM_come, 39)) (by decide +kernel) (by decide +kernel)
theorem ts_M_term : Cond.selects "GraphQueryModel" yM_term yM_term ∈ xT := xT_sel (q := (yM_term, 39)) (by decide +kernel) (by decide +kernel)
theorem ts_M_fail : Cond.selects "GraphQueryModel" yM_fail yM_fail ∈ xT := xT_sel (q := (yM_fail, 39)) (by decide +kernel) (by decide +kernel)
theorem ts_M_write : Cond.selects "GraphQueryModel" yM_write yM_write ∈ xT := xT_sel (q := (yM_write, 39)) (by decide +kernel) (by decide +kernel)
theorem ts_M_take : Cond.selects "GraphQueryModel" yM_take yM_take ∈ xT := xT_sel (q := (yM_take, 39)) (by decide +kernel) (by decide +kernel)
theorem ts_M_others : Cond.selects "GraphQueryModel" yM_others yM_others ∈ xT := xT_sel (q := (yM_others, 39)) (by decide +kernel) (by decide +kernel)
theorem ts_M_does : Cond.selects "GraphQueryModel" yM_does yM_does ∈ xT := xT_sel (q := (yM_does, 39)) (by decide +kernel) (by decide +kernel)
theorem ts_M_make : Cond.selects "GraphQueryModel" yM_make yM_make ∈ xT := xT_sel (q := (yM_make, 39)) (by decide +kernel) (by decide +kernel)
theorem ts_M_begin : Cond.selects "GraphQueryModel" yM_begin yM_begin ∈ xT := xT_sel (q := (yM_begin, 39)) (by decide +kernel) (by decide +kernel)
theorem ts_M_add : Cond.selects "GraphQueryModel" yM_add yM_add ∈ xT := xT_sel (q := (yM_add, 39)) (by decide +kernel) (by decide +kernel)
theorem ts_M_recall : Cond.selects "GraphQueryModel" yM_recall yM_recall ∈ xT := xT_sel (q := (yM_recall, 39)) (by decide +kernel) (by decide +kernel)
theorem ts_M_join : Cond.selects "GraphQueryModel" yM_join yM_join ∈ xT := xT_sel (q := (yM_join, 39)) (by decide +kernel) (by decide +kernel)
theorem ts_M_isIn : Cond.selects "GraphQueryModel" yM_isIn yM_isIn ∈ xT := xT_sel (q := (yM_isIn, 39)) (by decide +kernel) (by decide +kernel)
theorem ts_M_replace : Cond.selects "GraphQueryModel" yM_replace yM_replace ∈ xT := xT_sel (q := (yM_replace, 39)) (by decide +kernel) (by decide +kernel)
theorem ts_M_reach : Cond.selects "GraphQueryModel" yM_reach yM_reach ∈ xT := xT_sel (q := (yM_reach, 39)) (by decide +kernel) (by decide +kernel)
theorem ts_M_has : Cond.selects "GraphQueryModel" yM_has yM_has ∈ xT := xT_sel (q := (yM_has, 39)) (by decide +kernel) (by decide +kernel)
theorem ts_M_findWay : Cond.selects "GraphQueryModel" yM_findWay yM_findWay ∈ xT := xT_sel (q := (yM_findWay, 39)) (by decide +kernel) (by decide +kernel)
theorem ts_M_bind : Cond.selects "GraphQueryModel" yM_bind yM_bind ∈ xT := xT_sel (q := (yM_bind, 39)) (by decide +kernel) (by decide +kernel)
theorem ts_M_filter : Cond.selects "GraphQueryModel" yM_filter yM_filter ∈ xT := xT_sel (q := (yM_filter, 39)) (by decide +kernel) (by decide +kernel)
end
section
-- ===== 02.base: contracts over ONE world list that is never cut =====
/-- the world ws, the classes cl and the array classes tys in a state; all cells lie in A -/
def x_B (D : va_G) (cl : List vw_C) (tys : List (ClassId × FieldType)) (A : Nat → Prop) (ws : va_W) (t : State) : Prop := va_P D cl ws t.heap ∧ va_K D cl tys t ∧ va_D A ws
/-- a method's start: its arguments, the world, and all that comes new lies in A -/
def x_P (D : va_G) (cl : List vw_C) (tys : List (ClassId × FieldType)) (A : Nat → Prop) (av : List Value) (ws : va_W) : Array Value → State → Prop := va_Pc av (fun U => x_B D cl tys A ws U ∧ (∀ q, U.heap.size ≤ q → A q) ∧ xN U)
theorem x_blind {D : va_G} {cl : List vw_C} {tys : List (ClassId × FieldType)} {A : Nat → Prop} {av : List Value} {ws : va_W} : FrameBlind (x_P D cl tys A av ws) := by
  intro a U g mk q
  obtain ⟨q0, ⟨qP, qK, qD⟩, qA, qN⟩ := q
  exact ⟨q0, ⟨qP, va_K.moved (u := U) (U := U.calling g mk a) (Vm.Alike.refl U.vm) qK, qD⟩, qA, xN.same (u := U) (U := U.calling g mk a) rfl qN⟩
/-- contracts: int (boolean, char), void, reference answers -/
abbrev x_Mi (l : Launch) (y : MethodName) (w : List Cond) (rm : Room) (D : va_G) (cl : List vw_C) (tys : List (ClassId × FieldType)) (A : Nat → Prop) (av : List Value) (ws : va_W) (post : Int32 → va_W → Prop) : Prop := Met l y w rm (x_P D cl tys A av ws) (va_Qi post (x_B D cl tys A) A) rm.cells rm.slots A
abbrev x_Mv (l : Launch) (y : MethodName) (w : List Cond) (rm : Room) (D : va_G) (cl : List vw_C) (tys : List (ClassId × FieldType)) (A : Nat → Prop) (av : List Value) (ws : va_W) (post : va_W → Prop) : Prop := Met l y w rm (x_P D cl tys A av ws) (va_Qv post (x_B D cl tys A) A) rm.cells rm.slots A
abbrev x_Mr (l : Launch) (y : MethodName) (w : List Cond) (rm : Room) (D : va_G) (cl : List vw_C) (tys : List (ClassId × FieldType)) (A : Nat → Prop) (av : List Value) (ws : va_W) (post : Nat → va_W → Prop) : Prop := Met l y w rm (x_P D cl tys A av ws) (va_Qr (fun _ : va_W => True) (fun ws1 a t => post a ws1 ∧ x_B D cl tys A ws1 t) A) rm.cells rm.slots A
section XE
variable {l : Launch} {y : MethodName} {w : List Cond} {rm : Room} {D : va_G} {cl : List vw_C} {tys : List (ClassId × FieldType)} {A : Nat → Prop} {av : List Value} {ws : va_W} {cc : ByteArray} {maxL : Nat} {ret : Option FieldType}
/-- a method's entry -/
theorem x_enter {Qc : Array Value → State → Outcome → State → Prop} {mc ms : Nat} {free : Addr → Prop} (hy : plainName y.cls = true) (hw : w = Cond.code y cc maxL ret :: xT) (hn : (lg_sl av).length ≤ maxL)
    (k : ∀ (p : Program) (e : Env) (s : State) (m : MethodId) (args : Array Value) (below : List Frame) (meth : Method) (c : Code) (ls : Array Slot), p.tables.exec = Jvm.exec → c.code = cc → meth.sig.returnType = ret → meth.locks = false → c.maxLocals = maxL → s.vm.findClass y.cls = some m.cls → meth.name = y.name → (∀ x ∈ xT, x.before args s = true) → va_K D cl tys s → va_P D cl ws s.heap → va_D A ws → va_S A s.heap s.heap [] → (∀ q, s.heap.size ≤ q → A q) → xN s → lv_has ls maxL (lv_args 0 av) →
      W p l e rm s m args below meth c s.heap [] 0 0 (MQ below Qc args s mc ms free) (F0 m 0 ls [])) : Met l y w rm (x_P D cl tys A av ws) Qc mc ms free := by
  refine Met.ofW (cc := cc) (maxL := maxL) (ret := ret) hy hw ?_
  intro p e s m args below meth c s₁ B hml hv
  obtain ⟨rfl, ⟨hP, hK, hD⟩, hA, hN⟩ := hv
  have hts : ∀ x ∈ xT, x.before av.toArray s = true := fun x hx => atoms_spec (ws := w) B.pre x (by rw [hw]; exact List.mem_cons_of_mem _ hx)
  have hl := lv_entry av (n := maxL) hn
  rw [lg_entry_eq]
  exact k p e s m _ below meth c _ B.exec B.bytes B.returns B.notSynchronized hml (findClass_of_methodNamed B.named) (name_of_methodNamed B.named B.method).1 hts hK hP hD va_S.rf hA hN hl
end XE
section XR
variable {p : Program} {l : Launch} {e : Env} {R : Room} {s : State} {m : MethodId} {args : Array Value} {below : List Frame} {meth : Method} {c : Code} {H : Heap} {locs : List Loc} {cells slots : Nat} {Q : State → Prop}
variable {cc : ByteArray} {pc : Nat} {ls : Array Slot} {rest : List Value} {D : va_G} {cl : List vw_C} {A : Nat → Prop} {tys : List (ClassId × FieldType)} {ws : va_W}
/-- the ends -/
theorem x_iret {v : Int32} {post : Int32 → va_W → Prop} (hx : p.tables.exec = Jvm.exec) (hb : c.code = cc) (hr : meth.sig.returnType = some .int) (hlk : meth.locks = false) (hK : va_K D cl tys s) (hP : va_P D cl ws H) (hD : va_D A ws) (hS : va_S A s.heap H locs) (hdg : decode cc pc = .ok (.ireturn, 1)) (hq : post v ws) :
    W p l e R s m args below meth c H locs cells slots (MQ below (va_Qi post (x_B D cl tys A) A) args s cells slots A) (F0 m pc ls [.int v]) :=
  W.iret (v := v) hx hb hr (fun t ht hW => ⟨⟨v, ws, rfl, hq, by rw [ht]; exact hP, va_K.moved hW.alike hK, hD⟩, hS.F ht⟩) hS.2.2 hdg hlk
theorem x_zret {v : Int32} {ty : FieldType} {post : Int32 → va_W → Prop} (hx : p.tables.exec = Jvm.exec) (hb : c.code = cc) (hr : meth.sig.returnType = some ty) (hn : narrow ty (.int v) = .int v) (hlk : meth.locks = false) (hK : va_K D cl tys s) (hP : va_P D cl ws H) (hD : va_D A ws) (hS : va_S A s.heap H locs) (hdg : decode cc pc = .ok (.ireturn, 1)) (hq : post v ws) :
    W p l e R s m args below meth c H locs cells slots (MQ below (va_Qi post (x_B D cl tys A) A) args s cells slots A) (F0 m pc ls [.int v]) :=
  W.zret (v := v) hx hb hr hn (fun t ht hW => ⟨⟨v, ws, rfl, hq, by rw [ht]; exact hP, va_K.moved hW.alike hK, hD⟩, hS.F ht⟩) hS.2.2 hdg hlk
theorem x_vret {post : va_W → Prop} (hx : p.tables.exec = Jvm.exec) (hb : c.code = cc) (hr : meth.sig.returnType = none) (hlk : meth.locks = false) (hK : va_K D cl tys s) (hP : va_P D cl ws H) (hD : va_D A ws) (hS : va_S A s.heap H locs) (hdg : decode cc pc = .ok (.return_, 1)) (hq : post ws) :
    W p l e R s m args below meth c H locs cells slots (MQ below (va_Qv post (x_B D cl tys A) A) args s cells slots A) (F0 m pc ls []) :=
  W.vret hx hb hr (fun t ht hW => ⟨⟨ws, rfl, hq, by rw [ht]; exact hP, va_K.moved hW.alike hK, hD⟩, hS.F ht⟩) hS.2.2 hdg hlk
theorem x_aret {v : Nat} {rt : FieldType} {post : Nat → va_W → Prop} (hx : p.tables.exec = Jvm.exec) (hb : c.code = cc) (hr : meth.sig.returnType = some rt) (hrt : (∃ n, rt = .object n) ∨ ∃ t, rt = .array t) (hlk : meth.locks = false) (hK : va_K D cl tys s) (hP : va_P D cl ws H) (hD : va_D A ws) (hS : va_S A s.heap H locs) (hdg : decode cc pc = .ok (.areturn, 1)) (hq : post v ws) :
    W p l e R s m args below meth c H locs cells slots (MQ below (va_Qr (fun _ : va_W => True) (fun ws1 a t => post a ws1 ∧ x_B D cl tys A ws1 t) A) args s cells slots A) (F0 m pc ls [.ref v]) :=
  W.aret (v := .ref v) hx hb hr hrt (Or.inr ⟨v, rfl⟩) (fun t ht hW => ⟨⟨ws, v, rfl, trivial, hq, by rw [ht]; exact hP, va_K.moved hW.alike hK, hD⟩, hS.F ht⟩) hS.2.2 hdg hlk
/-- what a call takes of its caller -/
theorem x_pre {U : State} {H0 : Heap} {av : List Value} (hK : va_K D cl tys s) (hP : va_P D cl ws H) (hD : va_D A ws) (hS : va_S A H0 H locs) (hA : ∀ q, H0.size ≤ q → A q) (hN : xN s) (hU : U.heap = H) (hW : s.WarmedH U.vm) : x_P D cl tys A av ws av.toArray U :=
  ⟨rfl, ⟨by rw [hU]; exact hP, va_K.moved hW.alike hK, hD⟩, fun q hq => hA q (Nat.le_trans hS.1 (by rw [hU] at hq; exact hq)), hN.warm hW⟩
variable {y : MethodName} {w : List Cond} {rm : Room} {av : List Value} {H0 : Heap} {st0 : List Value}
/-- a call that answers an int: hr comes from va_runV, va_runS, va_runVN, va_runSN .. -/
theorem x_calli {post : Int32 → va_W → Prop} {a : Array Value} {mc ms : Nat} (hr : va_Run p l e R s m args below meth c H locs cells slots mc ms (F0 m pc ls st0) rest (va_Qi post (x_B D cl tys A) A a) A) (hS : va_S A H0 H locs)
    (kk : ∀ (r : Int32) (ws1 : va_W) (H1 : Heap) (locs1 : List Loc), post r ws1 → va_P D cl ws1 H1 → va_D A ws1 → va_S A H0 H1 locs1 → W p l e R s m args below meth c H1 locs1 (cells + mc) (slots + ms) Q (F0 m (pc + 3) ls (.int r :: rest))) : W p l e R s m args below meth c H locs cells slots Q (F0 m pc ls st0) :=
  va_calli hr hS (fun _ _ h => h) (fun _ h => h) (fun r u t H1 locs1 ht _ hw hB _ _ hS1 => kk r u H1 locs1 hw (by have := hB.1; rw [ht] at this; exact this) hB.2.2 hS1)
theorem x_callv {post : va_W → Prop} {a : Array Value} {mc ms : Nat} (hr : va_Run p l e R s m args below meth c H locs cells slots mc ms (F0 m pc ls st0) rest (va_Qv post (x_B D cl tys A) A a) A) (hS : va_S A H0 H locs)
    (kk : ∀ (ws1 : va_W) (H1 : Heap) (locs1 : List Loc), post ws1 → va_P D cl ws1 H1 → va_D A ws1 → va_S A H0 H1 locs1 → W p l e R s m args below meth c H1 locs1 (cells + mc) (slots + ms) Q (F0 m (pc + 3) ls rest)) : W p l e R s m args below meth c H locs cells slots Q (F0 m pc ls st0) :=
  va_callv hr hS (fun _ _ h => h) (fun _ h => h) (fun u t H1 locs1 ht _ hw hB _ _ hS1 => kk u H1 locs1 hw (by have := hB.1; rw [ht] at this; exact this) hB.2.2 hS1)
theorem x_callr {post : Nat → va_W → Prop} {a : Array Value} {mc ms : Nat} (hr : va_Run p l e R s m args below meth c H locs cells slots mc ms (F0 m pc ls st0) rest (va_Qr (fun _ : va_W => True) (fun ws1 a t => post a ws1 ∧ x_B D cl tys A ws1 t) A a) A) (hS : va_S A H0 H locs)
    (kk : ∀ (r : Nat) (ws1 : va_W) (H1 : Heap) (locs1 : List Loc), post r ws1 → va_P D cl ws1 H1 → va_D A ws1 → va_S A H0 H1 locs1 → W p l e R s m args below meth c H1 locs1 (cells + mc) (slots + ms) Q (F0 m (pc + 3) ls (.ref r :: rest))) : W p l e R s m args below meth c H locs cells slots Q (F0 m pc ls st0) :=
  va_callr hr hS (fun _ _ h => h) (fun _ h => h) (fun u r t H1 locs1 ht _ _ hB _ _ hS1 => kk r u H1 locs1 hB.1 (by have := hB.2.1; rw [ht] at this; exact this) hB.2.2.2 hS1)
end XR
-- ===== one cell of the world changes =====
def x_upd (ws : va_W) (k : Nat) (q : Nat × va_E) (ws1 : va_W) : Prop := ws1[k]? = some q ∧ ∀ j, j ≠ k → ws1[j]? = ws[j]?
theorem x_lt {ws : va_W} {k : Nat} {q : Nat × va_E} (h : ws[k]? = some q) : k < ws.length := (List.getElem?_eq_some_iff.mp h).1
theorem x_gen {D : va_G} {cl : List vw_C} {A : Nat → Prop} {ws : va_W} {H : Heap} {k : Nat} {q0 q : Nat × va_E} (h : ws[k]? = some q0) (hP : va_P D cl (ws.set k q) H) (hD : va_D A (ws.set k q)) : ∃ ws1, x_upd ws k q ws1 ∧ va_P D cl ws1 H ∧ va_D A ws1 :=
  ⟨ws.set k q, ⟨by rw [List.getElem?_set_self (x_lt h)], fun j hj => List.getElem?_set_ne (Ne.symm hj)⟩, hP, hD⟩
-- ===== calls: every method's words are its code and xT =====
theorem xG {w0 : Cond} (h : w0 ∈ xT) : GoodIn xT (w0 :: xT) := by
  intro w hw
  have hm : w ∈ xT := (List.mem_cons.mp hw).elim (fun e => e ▸ h) id
  exact ⟨hm, good_of_word (xT_good w hm)⟩
/-- a room of d frames, no cells -/
def xR (d : Nat) : Room := { frames := d, cells := 0, slots := 0, locals := 40 * d }
section XC
variable {p : Program} {l : Launch} {e : Env} {R : Room} {s : State} {m : MethodId} {args : Array Value} {below : List Frame} {meth : Method} {c : Code} {H : Heap} {locs : List Loc} {cells slots : Nat}
variable {cc : ByteArray} {pc : Nat} {ls : Array Slot} {rest st0 As : List Value} {D : va_G} {cl : List vw_C} {A : Nat → Prop} {tys : List (ClassId × FieldType)} {ws : va_W} {H0 : Heap}
variable {y : MethodName} {bytes : ByteArray} {maxL nL mc ms n index : Nat} {ret : Option FieldType} {rm : Room} {Qc : Array Value → State → Outcome → State → Prop} {own C host : String} {a : Nat}
theorem x_runV (S : CallFix p m c cc nL s args xT own) (hM : Met l y (Cond.code y bytes maxL ret :: xT) rm (x_P D cl tys A (.ref a :: As) ws) Qc mc ms A) (h1 : Cond.methodLink own index y ∈ xT) (h2 : Cond.instanceMethod y ∈ xT) (h3 : Cond.selects C y y ∈ xT) (h4 : Cond.initialized C ∈ xT) (h5 : Cond.code y bytes maxL ret ∈ xT)
    (hd : y.cls = C ∧ y.cls ≠ "java/lang/invoke/MethodHandle" ∧ y.cls ≠ "java/lang/invoke/VarHandle" ∧ (parseMethodDescriptor y.desc).map (fun d => d.parameters.length) = some n) (hrc : rm.cells = mc) (hrs : rm.slots = ms) (hR : rm.frames + 1 ≤ R.frames ∧ 8 + (maxL + 11) + rm.locals ≤ R.locals) (hf : cells + mc ≤ R.cells ∧ slots + ms ≤ R.slots)
    (hv : ∃ cell : Cell, H[a]? = some cell ∧ cell.vm.isStatics = false ∧ s.vm.findClass C = some cell.cls) (hK : va_K D cl tys s) (hP : va_P D cl ws H) (hD : va_D A ws) (hS : va_S A H0 H locs) (hA : ∀ q, H0.size ≤ q → A q) (hN : xN s)
    (hn : As.length = n) (hsz : ls.size = nL) (hst : st0 = As.reverse ++ .ref a :: rest) (hW : 2 * (F0 m pc ls st0).monitorRoom + (rest.map fun v => v.category).sum ≤ 8) (hdg : decode cc pc = .ok (.invokevirtual index, 3)) :
    va_Run p l e R s m args below meth c H locs cells slots mc ms (F0 m pc ls st0) rest (Qc (Value.ref a :: As).toArray) A := by
  have ht := S.2.2.2.2
  refine va_runV (C := C) (index := index) (n := n) (ret := ret) (bytes := bytes) (maxL := maxL) S hM ⟨callB_of n ht (xG h5) rfl hrc hrs (by rw [hd.1]; exact ht _ h4) (ht _ h1) hd.2 hR, ht _ h2, ht _ h3⟩ ⟨x_blind, hv, fun U hU hW => x_pre hK hP hD hS hA hN hU hW⟩ rfl hn hsz hst hW hdg hf
theorem x_runS (S : CallFix p m c cc nL s args xT own) (hM : Met l y (Cond.code y bytes maxL ret :: xT) rm (x_P D cl tys A As ws) Qc mc ms A) (h1 : Cond.methodLink own index y ∈ xT) (h2 : Cond.static y ∈ xT) (h4 : Cond.initialized y.cls ∈ xT) (h5 : Cond.code y bytes maxL ret ∈ xT)
    (hd : y.cls ≠ "java/lang/invoke/MethodHandle" ∧ y.cls ≠ "java/lang/invoke/VarHandle" ∧ (parseMethodDescriptor y.desc).map (fun d => d.parameters.length) = some n) (hrc : rm.cells = mc) (hrs : rm.slots = ms) (hR : rm.frames + 1 ≤ R.frames ∧ 8 + (maxL + 11) + rm.locals ≤ R.locals) (hf : cells + mc ≤ R.cells ∧ slots + ms ≤ R.slots)
    (hK : va_K D cl tys s) (hP : va_P D cl ws H) (hD : va_D A ws) (hS : va_S A H0 H locs) (hA : ∀ q, H0.size ≤ q → A q) (hN : xN s)
    (hn : As.length = n) (hsz : ls.size = nL) (hst : st0 = As.reverse ++ rest) (hW : 2 * (F0 m pc ls st0).monitorRoom + (rest.map fun v => v.category).sum ≤ 8) (hdg : decode cc pc = .ok (.invokestatic index, 3)) :
    va_Run p l e R s m args below meth c H locs cells slots mc ms (F0 m pc ls st0) rest (Qc As.toArray) A := by
  have ht := S.2.2.2.2
  refine va_runS (index := index) (n := n) (ret := ret) (bytes := bytes) (maxL := maxL) S hM ⟨callB_of n ht (xG h5) rfl hrc hrs (ht _ h4) (ht _ h1) hd hR, ht _ h2⟩ ⟨x_blind, fun U hU hW => x_pre hK hP hD hS hA hN hU hW⟩ rfl hn hsz hst hW hdg hf
theorem x_runSN (S : CallFix p m c cc nL s args xT own) (hM : Met l y (Cond.code y bytes maxL ret :: xT) rm (x_P D cl tys A As ws) Qc mc ms A) (h1 : va_Nw (.methodLinkNest own index y host) s) (h2 : Cond.static y ∈ xT) (h4 : Cond.initialized y.cls ∈ xT) (h5 : Cond.code y bytes maxL ret ∈ xT)
    (hd : y.cls ≠ "java/lang/invoke/MethodHandle" ∧ y.cls ≠ "java/lang/invoke/VarHandle" ∧ (parseMethodDescriptor y.desc).map (fun d => d.parameters.length) = some n) (hrc : rm.cells = mc) (hrs : rm.slots = ms) (hR : rm.frames + 1 ≤ R.frames ∧ 8 + (maxL + 11) + rm.locals ≤ R.locals) (hf : cells + mc ≤ R.cells ∧ slots + ms ≤ R.slots)
    (hK : va_K D cl tys s) (hP : va_P D cl ws H) (hD : va_D A ws) (hS : va_S A H0 H locs) (hA : ∀ q, H0.size ≤ q → A q) (hN : xN s)
    (hn : As.length = n) (hsz : ls.size = nL) (hst : st0 = As.reverse ++ rest) (hW : 2 * (F0 m pc ls st0).monitorRoom + (rest.map fun v => v.category).sum ≤ 8) (hdg : decode cc pc = .ok (.invokestatic index, 3)) :
    va_Run p l e R s m args below meth c H locs cells slots mc ms (F0 m pc ls st0) rest (Qc As.toArray) A := by
  have ht := S.2.2.2.2
  refine va_runSN (index := index) (n := n) (ret := ret) (bytes := bytes) (maxL := maxL) S hM ⟨va_cnB n ht (xG h5) rfl hrc hrs h1 (ht _ h4) hd hR, ht _ h2, trivial⟩ ⟨x_blind, fun U hU hW => x_pre hK hP hD hS hA hN hU hW⟩ rfl hn hsz hst hW hdg hf
theorem x_runI (S : CallFix p m c cc nL s args xT own) (hM : Met l y (Cond.code y bytes maxL none :: xT) rm (x_P D cl tys A (.ref a :: As) ws) Qc mc ms A) (h1 : Cond.methodLink own index y ∈ xT) (h2 : Cond.instanceMethod y ∈ xT) (h4 : Cond.initialized y.cls ∈ xT) (h5 : Cond.code y bytes maxL none ∈ xT) (hy : y.name = "<init>")
    (hd : y.cls ≠ "java/lang/invoke/MethodHandle" ∧ y.cls ≠ "java/lang/invoke/VarHandle" ∧ (parseMethodDescriptor y.desc).map (fun d => d.parameters.length) = some n) (hrc : rm.cells = mc) (hrs : rm.slots = ms) (hR : rm.frames + 1 ≤ R.frames ∧ 8 + (maxL + 11) + rm.locals ≤ R.locals) (hf : cells + mc ≤ R.cells ∧ slots + ms ≤ R.slots)
    (hK : va_K D cl tys s) (hP : va_P D cl ws H) (hD : va_D A ws) (hS : va_S A H0 H locs) (hA : ∀ q, H0.size ≤ q → A q) (hN : xN s)
    (hn : As.length = n) (hsz : ls.size = nL) (hst : st0 = As.reverse ++ .ref a :: rest) (hW : 2 * (F0 m pc ls st0).monitorRoom + (rest.map fun v => v.category).sum ≤ 8) (hdg : decode cc pc = .ok (.invokespecial index, 3)) :
    va_Run p l e R s m args below meth c H locs cells slots mc ms (F0 m pc ls st0) rest (Qc (Value.ref a :: As).toArray) A := by
  have ht := S.2.2.2.2
  refine va_runI (index := index) (n := n) (bytes := bytes) (maxL := maxL) S hM ⟨callB_of n ht (xG h5) rfl hrc hrs (ht _ h4) (ht _ h1) hd hR, hy, ht _ h2⟩ ⟨x_blind, fun U hU hW => x_pre hK hP hD hS hA hN hU hW⟩ rfl hn hsz hst hW hdg hf
end XC
end
section
/-! ===== Int32 by its bits: bt x i ===== -/
def bt (x : Int32) (i : Nat) : Bool := x.toBitVec.getLsbD i
theorem b_ext {x y : Int32} (h : ∀ i, i < 32 → bt x i = bt y i) : x = y := Int32.toBitVec_inj.mp (BitVec.eq_of_getLsbD_eq (fun i hi => h i hi))
theorem b_or (x y : Int32) (i : Nat) : bt (x ||| y) i = (bt x i || bt y i) := by unfold bt; rw [Int32.toBitVec_or, BitVec.getLsbD_or]
theorem b_and (x y : Int32) (i : Nat) : bt (x &&& y) i = (bt x i && bt y i) := by unfold bt; rw [Int32.toBitVec_and, BitVec.getLsbD_and]
theorem b_xor (x y : Int32) (i : Nat) : bt (x ^^^ y) i = (bt x i ^^ bt y i) := by unfold bt; rw [Int32.toBitVec_xor, BitVec.getLsbD_xor]
theorem b_big {x : Int32} {i : Nat} (h : 32 ≤ i) : bt x i = false := BitVec.getLsbD_of_ge _ _ h
theorem b_255 (i : Nat) : bt 255 i = decide (i < 8) := by
  rcases Nat.lt_or_ge i 32 with h | h
  · exact (by decide +kernel : ∀ i, i < 32 → bt 255 i = decide (i < 8)) i h
  · rw [b_big h, decide_eq_false (by omega)]
theorem b_65535 (i : Nat) : bt 65535 i = decide (i < 16) := by
  rcases Nat.lt_or_ge i 32 with h | h
  · exact (by decide +kernel : ∀ i, i < 32 → bt 65535 i = decide (i < 16)) i h
  · rw [b_big h, decide_eq_false (by omega)]
theorem b_m1 : ∀ i, i < 32 → bt (-1) i = true := by decide +kernel
theorem b_0 (i : Nat) : bt 0 i = false := BitVec.getLsbD_zero
theorem s_l : ∀ n, n < 32 → ((nI n &&& 31).toBitVec.smod 32).toNat = n := by decide +kernel
theorem s_u : ∀ n, n < 32 → (((nI n).toUInt32 &&& Int32.toUInt32 31).toBitVec % 32).toNat = n := by decide +kernel
theorem b_shl (n : Nat) (hn : n < 32) (x : Int32) {i : Nat} (hi : i < 32) : bt (x <<< (nI n &&& 31)) i = (decide (n ≤ i) && bt x (i - n)) := by
  unfold bt
  rw [Int32.toBitVec_shiftLeft]
  show (x.toBitVec <<< ((nI n &&& 31).toBitVec.smod 32).toNat).getLsbD i = _
  rw [s_l n hn, BitVec.getLsbD_shiftLeft]
  rcases Nat.lt_or_ge i n with h | h
  · simp [h, Nat.not_le.mpr h]
  · simp [hi, h, Nat.not_lt.mpr h]
theorem b_ushr (n : Nat) (hn : n < 32) (x : Int32) (i : Nat) : bt ((x.toUInt32 >>> ((nI n).toUInt32 &&& Int32.toUInt32 31)).toInt32) i = bt x (n + i) := by
  show (x.toUInt32 >>> ((nI n).toUInt32 &&& Int32.toUInt32 31)).toBitVec.getLsbD i = x.toUInt32.toBitVec.getLsbD (n + i)
  rw [UInt32.toBitVec_shiftRight]
  show (x.toUInt32.toBitVec >>> (((nI n).toUInt32 &&& Int32.toUInt32 31).toBitVec % 32).toNat).getLsbD i = _
  rw [s_u n hn, BitVec.getLsbD_ushiftRight]
theorem b_sshr (n : Nat) (hn : n < 32) (x : Int32) {i : Nat} (hi : i < 32) : bt (x >>> (nI n &&& 31)) i = if n + i < 32 then bt x (n + i) else bt x 31 := by
  unfold bt
  rw [Int32.toBitVec_shiftRight]
  show (x.toBitVec.sshiftRight ((nI n &&& 31).toBitVec.smod 32).toNat).getLsbD i = _
  rw [s_l n hn, BitVec.getLsbD_sshiftRight, BitVec.msb_eq_getLsbD_last]
  simp [hi]
theorem b_shl8 (x : Int32) {i : Nat} (hi : i < 32) : bt (x <<< ((8 : Int32) &&& 31)) i = (decide (8 ≤ i) && bt x (i - 8)) := b_shl 8 (by omega) x hi
theorem b_shl16 (x : Int32) {i : Nat} (hi : i < 32) : bt (x <<< ((16 : Int32) &&& 31)) i = (decide (16 ≤ i) && bt x (i - 16)) := b_shl 16 (by omega) x hi
theorem b_shl24 (x : Int32) {i : Nat} (hi : i < 32) : bt (x <<< ((24 : Int32) &&& 31)) i = (decide (24 ≤ i) && bt x (i - 24)) := b_shl 24 (by omega) x hi
theorem b_sshr8 (x : Int32) {i : Nat} (hi : i < 32) : bt (x >>> ((8 : Int32) &&& 31)) i = if 8 + i < 32 then bt x (8 + i) else bt x 31 := b_sshr 8 (by omega) x hi
-- ===== bits of masks =====
theorem b_1 : ∀ i, i < 32 → bt 1 i = decide (i = 0) := by decide +kernel
theorem b_sh1 {t i : Nat} (ht : t < 32) (hi : i < 32) : bt ((1 : Int32) <<< (nI t &&& 31)) i = decide (i = t) := by
  rw [b_shl t ht 1 hi]
  by_cases h : t ≤ i
  · rw [b_1 (i - t) (by omega)]
    simp only [h, decide_true, Bool.true_and]
    by_cases e : i = t
    · rw [decide_eq_true e, decide_eq_true (by omega)]
    · rw [decide_eq_false e, decide_eq_false (by omega)]
  · rw [decide_eq_false h, decide_eq_false (by omega)]; rfl
theorem b_not (x : Int32) {i : Nat} (hi : i < 32) : bt (x ^^^ (-1)) i = !(bt x i) := by
  rw [b_xor, b_m1 i hi]; cases bt x i <;> rfl
theorem b_lsb (x : Int32) : x &&& 1 = 0 ↔ bt x 0 = false := by
  constructor
  · intro h
    have h1 : bt (x &&& 1) 0 = bt 0 0 := by rw [h]
    rw [b_and, b_0, b_1 0 (by omega)] at h1
    simpa using h1
  · intro h
    apply b_ext
    intro i hi
    rw [b_and, b_0, b_1 i hi]
    by_cases e : i = 0
    · subst e; rw [h]; rfl
    · rw [decide_eq_false e]; cases bt x i <;> rfl
/-- (m >>> t & 1) is 0 just where bit t isn't set -/
theorem b_test (m : Int32) {t : Nat} (ht : t < 32) : ((m.toUInt32 >>> ((nI t).toUInt32 &&& Int32.toUInt32 31)).toInt32 &&& 1) = 0 ↔ bt m t = false := by
  rw [b_lsb, b_ushr t ht]; rfl
def b2i (b : Bool) : Int32 := if b = true then 1 else 0
theorem b2i_t : b2i true = 1 := rfl
theorem b2i_f : b2i false = 0 := rfl
theorem b2i_0 {b : Bool} : b2i b = 0 ↔ b = false := by cases b <;> decide
theorem b2i_n0 {b : Bool} : ¬ b2i b = 0 ↔ b = true := by cases b <;> decide
theorem b2i_nar (b : Bool) : narrow .boolean (.int (b2i b)) = .int (b2i b) := by cases b <;> rfl
theorem i32_lt (x y : Int32) : x < y ↔ x.toInt < y.toInt := Int32.lt_iff_toInt_lt
theorem i32_le (x y : Int32) : x ≤ y ↔ x.toInt ≤ y.toInt := Int32.le_iff_toInt_le
theorem i32_eq (x y : Int32) : x = y ↔ x.toInt = y.toInt := ⟨fun h => by rw [h], fun h => Int32.toInt_inj.mp h⟩
theorem i32_30 : (30 : Int32).toInt = 30 := rfl
theorem i32_0 : (0 : Int32).toInt = 0 := rfl
/-- is t a target's number, and its bit set -/
def isInB (m t : Int32) : Bool := decide (0 ≤ t.toInt) && decide (t.toInt < 30) && bt m t.toInt.toNat
theorem isIn_neg {m t : Int32} (h : t < 0) : isInB m t = false := by
  rw [i32_lt, i32_0] at h
  unfold isInB
  rw [decide_eq_false (by omega)]; rfl
theorem isIn_big {m t : Int32} (h : 30 ≤ t) : isInB m t = false := by
  rw [i32_le, i32_30] at h
  unfold isInB
  rw [decide_eq_false (p := t.toInt < 30) (by omega)]
  cases decide (0 ≤ t.toInt) <;> rfl
theorem isIn_nI (m : Int32) {t : Nat} (h : t < 30) : isInB m (nI t) = bt m t := by
  unfold isInB
  rw [nI_toInt (by omega), decide_eq_true (by omega), decide_eq_true (by omega)]
  simp
theorem isIn_bit {m t : Int32} (h1 : ¬ t < 0) (h2 : ¬ 30 ≤ t) : ((m.toUInt32 >>> (t.toUInt32 &&& Int32.toUInt32 31)).toInt32 &&& 1) = 0 ↔ isInB m t = false := by
  obtain ⟨j, hj, rfl⟩ := nI_of h1
  have h3 : j < 30 := by
    rw [i32_le, i32_30, nI_toInt hj] at h2
    omega
  rw [isIn_nI m h3]
  exact b_test m (by omega)
theorem i30_of {t : Int32} (h1 : ¬ t < 0) (h2 : ¬ 30 ≤ t) : ∃ j : Nat, j < 30 ∧ t = nI j := by
  obtain ⟨j, hj, rfl⟩ := nI_of h1
  refine ⟨j, ?_, rfl⟩
  rw [i32_le, i32_30, nI_toInt hj] at h2
  omega
/-- no more than n different numbers below n -/
theorem nodup_len : ∀ (n : Nat) (L : List Nat), L.Nodup → (∀ t ∈ L, t < n) → L.length ≤ n := by
  intro n
  induction n with
  | zero =>
    intro L _ h
    cases L with
    | nil => exact Nat.le_refl _
    | cons a t => exact absurd (h a List.mem_cons_self) (by omega)
  | succ n ih =>
    intro L hn h
    have h2 := ih (L.erase n) (hn.erase n) (fun t ht => by
      have h3 := (hn.mem_erase_iff).mp ht
      have h4 := h t h3.2
      omega)
    have h5 : L.length ≤ (L.erase n).length + 1 := by
      by_cases hm : n ∈ L
      · rw [List.length_erase_of_mem hm]; omega
      · rw [List.erase_of_not_mem hm]; omega
    omega
-- ===== the pure picture of a Row =====
/-- the list behind add(t) -/
def addI (L : List Nat) (t : Int32) : List Nat := if 0 ≤ t.toInt ∧ t.toInt < 30 ∧ t.toInt.toNat ∉ L then L ++ [t.toInt.toNat] else L
theorem addI_neg {L : List Nat} {t : Int32} (h : t < 0) : addI L t = L := by
  rw [i32_lt, i32_0] at h
  unfold addI
  rw [if_neg (by omega)]
theorem addI_big {L : List Nat} {t : Int32} (h : 30 ≤ t) : addI L t = L := by
  rw [i32_le, i32_30] at h
  unfold addI
  rw [if_neg (by omega)]
theorem addI_nI (L : List Nat) {t : Nat} (h : t < 30) : addI L (nI t) = if t ∈ L then L else L ++ [t] := by
  unfold addI
  rw [nI_toInt (by omega)]
  by_cases hm : t ∈ L
  · rw [if_pos hm, if_neg (by simp [hm])]
  · rw [if_neg hm, if_pos (by simp [hm]; omega)]; simp
/-- the cells k, k + 1 are a Row with the list L, its array being f -/
def RowF (cI : ClassId) (ad : Nat → Nat) (ws : va_W) (k : Nat) (L : List Nat) (f : Nat → Int32) : Prop :=
  ∃ mk : Int32, ws[k]? = some (ad k, .inr (2, [.ref (ad (k + 1)), .int (nI L.length), .int mk])) ∧ ws[k + 1]? = some (ad (k + 1), .inl (cI, 30, .inl f)) ∧
    (∀ (i : Nat) (h : i < L.length), f i = nI L[i]) ∧ (∀ i, i < 32 → bt mk i = decide (i ∈ L)) ∧ L.Nodup ∧ ∀ t ∈ L, t < 30
def RowAt (cI : ClassId) (ad : Nat → Nat) (ws : va_W) (k : Nat) (L : List Nat) : Prop := ∃ f, RowF cI ad ws k L f
theorem RowF.le {cI : ClassId} {ad : Nat → Nat} {ws : va_W} {k : Nat} {L : List Nat} {f : Nat → Int32} (h : RowF cI ad ws k L f) : L.length ≤ 30 := by
  obtain ⟨mk, -, -, -, -, h1, h2⟩ := h
  exact nodup_len 30 L h1 h2
theorem RowAt.le {cI : ClassId} {ad : Nat → Nat} {ws : va_W} {k : Nat} {L : List Nat} (h : RowAt cI ad ws k L) : L.length ≤ 30 := h.elim fun _ h => h.le
theorem RowAt.lt {cI : ClassId} {ad : Nat → Nat} {ws : va_W} {k : Nat} {L : List Nat} (h : RowAt cI ad ws k L) : ∀ t ∈ L, t < 30 := by
  obtain ⟨f, mk, -, -, -, -, h1, h2⟩ := h
  exact h2
theorem RowAt.nd {cI : ClassId} {ad : Nat → Nat} {ws : va_W} {k : Nat} {L : List Nat} (h : RowAt cI ad ws k L) : L.Nodup := by
  obtain ⟨f, mk, -, -, -, -, h1, h2⟩ := h
  exact h1
theorem RowAt.obj {cI : ClassId} {ad : Nat → Nat} {ws : va_W} {k : Nat} {L : List Nat} (h : RowAt cI ad ws k L) : ∃ fs, ws[k]? = some (ad k, .inr (2, fs)) := by
  obtain ⟨f, mk, h0, -⟩ := h
  exact ⟨_, h0⟩
/-- nothing changed but the cells k, k + 1 -/
def x_two (k : Nat) (ws ws1 : va_W) : Prop := ∀ j, j ≠ k → j ≠ k + 1 → ws1[j]? = ws[j]?
theorem x_two.rf {k : Nat} {ws : va_W} : x_two k ws ws := fun _ _ _ => rfl
theorem x_two.tr {k : Nat} {a b c : va_W} (h1 : x_two k a b) (h2 : x_two k b c) : x_two k a c := fun j h h' => (h2 j h h').trans (h1 j h h')
theorem RowAt.keep {cI : ClassId} {ad : Nat → Nat} {ws ws1 : va_W} {k k2 : Nat} {L : List Nat} (h : RowAt cI ad ws k L) (h2 : x_two k2 ws ws1) (a1 : k ≠ k2) (a2 : k ≠ k2 + 1) (a3 : k + 1 ≠ k2) : RowAt cI ad ws1 k L := by
  obtain ⟨f, mk, h0, h1, r⟩ := h
  exact ⟨f, mk, (h2 k a1 a2).trans h0, (h2 (k + 1) a3 (by omega)).trans h1, r⟩
def addN (L : List Nat) (t : Nat) : List Nat := if t ∈ L then L else L ++ [t]
theorem addI_N (L : List Nat) {t : Nat} (h : t < 30) : addI L (nI t) = addN L t := addI_nI L h
theorem addI_m1 (L : List Nat) : addI L (-1) = L := addI_neg (by decide)
def addL (L M : List Nat) : List Nat := M.foldl addN L
theorem take_foldl {α β : Type} (g : β → α → β) (b : β) (M : List α) {i : Nat} (h : i < M.length) : (M.take (i + 1)).foldl g b = g ((M.take i).foldl g b) M[i] := by
  rw [List.take_succ_eq_append_getElem h, List.foldl_append]; rfl
end
section
theorem dQ_init_0 : decode bQ_init 0 = .ok (.aload_n 0, 1) := by decide +kernel
theorem dQ_init_1 : decode bQ_init 1 = .ok (.invokespecial 3, 3) := by decide +kernel
theorem dQ_init_4 : decode bQ_init 4 = .ok (.aload_n 0, 1) := by decide +kernel
theorem dQ_init_5 : decode bQ_init 5 = .ok (.new 9, 3) := by decide +kernel
theorem dQ_init_8 : decode bQ_init 8 = .ok (.dup, 1) := by decide +kernel
theorem dQ_init_9 : decode bQ_init 9 = .ok (.invokespecial 11, 3) := by decide +kernel
theorem dQ_init_12 : decode bQ_init 12 = .ok (.putfield 12, 3) := by decide +kernel
theorem dQ_init_15 : decode bQ_init 15 = .ok (.aload_n 0, 1) := by decide +kernel
theorem dQ_init_16 : decode bQ_init 16 = .ok (.new 16, 3) := by decide +kernel
theorem dQ_init_19 : decode bQ_init 19 = .ok (.dup, 1) := by decide +kernel
theorem dQ_init_20 : decode bQ_init 20 = .ok (.invokespecial 18, 3) := by decide +kernel
theorem dQ_init_23 : decode bQ_init 23 = .ok (.putfield 19, 3) := by decide +kernel
theorem dQ_init_26 : decode bQ_init 26 = .ok (.aload_n 0, 1) := by decide +kernel
theorem dQ_init_27 : decode bQ_init 27 = .ok (.new 23, 3) := by decide +kernel
theorem dQ_init_30 : decode bQ_init 30 = .ok (.dup, 1) := by decide +kernel
theorem dQ_init_31 : decode bQ_init 31 = .ok (.invokespecial 25, 3) := by decide +kernel
theorem dQ_init_34 : decode bQ_init 34 = .ok (.putfield 26, 3) := by decide +kernel
theorem dQ_init_37 : decode bQ_init 37 = .ok (.aload_n 0, 1) := by decide +kernel
theorem dQ_init_38 : decode bQ_init 38 = .ok (.new 30, 3) := by decide +kernel
theorem dQ_init_41 : decode bQ_init 41 = .ok (.dup, 1) := by decide +kernel
theorem dQ_init_42 : decode bQ_init 42 = .ok (.invokespecial 32, 3) := by decide +kernel
theorem dQ_init_45 : decode bQ_init 45 = .ok (.putfield 33, 3) := by decide +kernel
theorem dQ_init_48 : decode bQ_init 48 = .ok (.aload_n 0, 1) := by decide +kernel
theorem dQ_init_49 : decode bQ_init 49 = .ok (.new 37, 3) := by decide +kernel
theorem dQ_init_52 : decode bQ_init 52 = .ok (.dup, 1) := by decide +kernel
theorem dQ_init_53 : decode bQ_init 53 = .ok (.invokespecial 39, 3) := by decide +kernel
theorem dQ_init_56 : decode bQ_init 56 = .ok (.putfield 40, 3) := by decide +kernel
theorem dQ_init_59 : decode bQ_init 59 = .ok (.aload_n 0, 1) := by decide +kernel
theorem dQ_init_60 : decode bQ_init 60 = .ok (.iconst 0, 1) := by decide +kernel
theorem dQ_init_61 : decode bQ_init 61 = .ok (.putfield 44, 3) := by decide +kernel
theorem dQ_init_64 : decode bQ_init 64 = .ok (.aload_n 0, 1) := by decide +kernel
theorem dQ_init_65 : decode bQ_init 65 = .ok (.iconst (-1), 1) := by decide +kernel
theorem dQ_init_66 : decode bQ_init 66 = .ok (.putfield 48, 3) := by decide +kernel
theorem dQ_init_69 : decode bQ_init 69 = .ok (.return_, 1) := by decide +kernel
theorem dQ_target_0 : decode bQ_target 0 = .ok (.aload_n 0, 1) := by decide +kernel
theorem dQ_target_1 : decode bQ_target 1 = .ok (.getfield 12, 3) := by decide +kernel
theorem dQ_target_4 : decode bQ_target 4 = .ok (.iload_n 1, 1) := by decide +kernel
theorem dQ_target_5 : decode bQ_target 5 = .ok (.iload_n 2, 1) := by decide +kernel
theorem dQ_target_6 : decode bQ_target 6 = .ok (.iload_n 3, 1) := by decide +kernel
theorem dQ_target_7 : decode bQ_target 7 = .ok (.invokevirtual 51, 3) := by decide +kernel
theorem dQ_target_10 : decode bQ_target 10 = .ok (.ireturn, 1) := by decide +kernel
theorem dQ_needs_0 : decode bQ_needs 0 = .ok (.aload_n 0, 1) := by decide +kernel
theorem dQ_needs_1 : decode bQ_needs 1 = .ok (.getfield 12, 3) := by decide +kernel
theorem dQ_needs_4 : decode bQ_needs 4 = .ok (.iload_n 1, 1) := by decide +kernel
theorem dQ_needs_5 : decode bQ_needs 5 = .ok (.iload_n 2, 1) := by decide +kernel
theorem dQ_needs_6 : decode bQ_needs 6 = .ok (.invokevirtual 55, 3) := by decide +kernel
theorem dQ_needs_9 : decode bQ_needs 9 = .ok (.ireturn, 1) := by decide +kernel
theorem dQ_need_0 : decode bQ_need 0 = .ok (.aload_n 0, 1) := by decide +kernel
theorem dQ_need_1 : decode bQ_need 1 = .ok (.getfield 12, 3) := by decide +kernel
theorem dQ_need_4 : decode bQ_need 4 = .ok (.iload_n 1, 1) := by decide +kernel
theorem dQ_need_5 : decode bQ_need 5 = .ok (.iload_n 2, 1) := by decide +kernel
theorem dQ_need_6 : decode bQ_need 6 = .ok (.invokevirtual 59, 3) := by decide +kernel
theorem dQ_need_9 : decode bQ_need 9 = .ok (.ireturn, 1) := by decide +kernel
theorem dQ_type_0 : decode bQ_type 0 = .ok (.aload_n 0, 1) := by decide +kernel
theorem dQ_type_1 : decode bQ_type 1 = .ok (.getfield 19, 3) := by decide +kernel
theorem dQ_type_4 : decode bQ_type 4 = .ok (.iload_n 1, 1) := by decide +kernel
theorem dQ_type_5 : decode bQ_type 5 = .ok (.invokevirtual 63, 3) := by decide +kernel
theorem dQ_type_8 : decode bQ_type 8 = .ok (.ireturn, 1) := by decide +kernel
theorem dQ_ask_0 : decode bQ_ask 0 = .ok (.aload_n 0, 1) := by decide +kernel
theorem dQ_ask_1 : decode bQ_ask 1 = .ok (.getfield 26, 3) := by decide +kernel
theorem dQ_ask_4 : decode bQ_ask 4 = .ok (.aload_n 0, 1) := by decide +kernel
theorem dQ_ask_5 : decode bQ_ask 5 = .ok (.getfield 19, 3) := by decide +kernel
theorem dQ_ask_8 : decode bQ_ask 8 = .ok (.invokevirtual 67, 3) := by decide +kernel
theorem dQ_ask_11 : decode bQ_ask 11 = .ok (.istore_n 1, 1) := by decide +kernel
theorem dQ_ask_12 : decode bQ_ask 12 = .ok (.aload_n 0, 1) := by decide +kernel
theorem dQ_ask_13 : decode bQ_ask 13 = .ok (.getfield 19, 3) := by decide +kernel
theorem dQ_ask_16 : decode bQ_ask 16 = .ok (.invokevirtual 71, 3) := by decide +kernel
theorem dQ_ask_19 : decode bQ_ask 19 = .ok (.iload_n 1, 1) := by decide +kernel
theorem dQ_ask_20 : decode bQ_ask 20 = .ok (.ifCond .ne 13, 3) := by decide +kernel
theorem dQ_ask_23 : decode bQ_ask 23 = .ok (.iconst (-1), 1) := by decide +kernel
theorem dQ_ask_24 : decode bQ_ask 24 = .ok (.aload_n 0, 1) := by decide +kernel
theorem dQ_ask_25 : decode bQ_ask 25 = .ok (.getfield 26, 3) := by decide +kernel
theorem dQ_ask_28 : decode bQ_ask 28 = .ok (.invokevirtual 74, 3) := by decide +kernel
theorem dQ_ask_31 : decode bQ_ask 31 = .ok (.isub, 1) := by decide +kernel
theorem dQ_ask_32 : decode bQ_ask 32 = .ok (.ireturn, 1) := by decide +kernel
theorem dQ_ask_33 : decode bQ_ask 33 = .ok (.aload_n 0, 1) := by decide +kernel
theorem dQ_ask_34 : decode bQ_ask 34 = .ok (.getfield 26, 3) := by decide +kernel
theorem dQ_ask_37 : decode bQ_ask 37 = .ok (.invokevirtual 78, 3) := by decide +kernel
theorem dQ_ask_40 : decode bQ_ask 40 = .ok (.astore_n 2, 1) := by decide +kernel
theorem dQ_ask_41 : decode bQ_ask 41 = .ok (.aload_n 0, 1) := by decide +kernel
theorem dQ_ask_42 : decode bQ_ask 42 = .ok (.aload_n 2, 1) := by decide +kernel
theorem dQ_ask_43 : decode bQ_ask 43 = .ok (.invokevirtual 82, 3) := by decide +kernel
theorem dQ_ask_46 : decode bQ_ask 46 = .ok (.istore_n 3, 1) := by decide +kernel
theorem dQ_ask_47 : decode bQ_ask 47 = .ok (.iload_n 3, 1) := by decide +kernel
theorem dQ_ask_48 : decode bQ_ask 48 = .ok (.iconst (-1), 1) := by decide +kernel
theorem dQ_ask_49 : decode bQ_ask 49 = .ok (.if_icmp .eq 21, 3) := by decide +kernel
theorem dQ_ask_52 : decode bQ_ask 52 = .ok (.aload_n 0, 1) := by decide +kernel
theorem dQ_ask_53 : decode bQ_ask 53 = .ok (.aload_n 2, 1) := by decide +kernel
theorem dQ_ask_54 : decode bQ_ask 54 = .ok (.iload_n 3, 1) := by decide +kernel
theorem dQ_ask_55 : decode bQ_ask 55 = .ok (.invokevirtual 86, 3) := by decide +kernel
theorem dQ_ask_58 : decode bQ_ask 58 = .ok (.putfield 48, 3) := by decide +kernel
theorem dQ_ask_61 : decode bQ_ask 61 = .ok (.bipush (-101), 2) := by decide +kernel
theorem dQ_ask_63 : decode bQ_ask 63 = .ok (.aload_n 2, 1) := by decide +kernel
theorem dQ_ask_64 : decode bQ_ask 64 = .ok (.iload_n 3, 1) := by decide +kernel
theorem dQ_ask_65 : decode bQ_ask 65 = .ok (.invokevirtual 92, 3) := by decide +kernel
theorem dQ_ask_68 : decode bQ_ask 68 = .ok (.isub, 1) := by decide +kernel
theorem dQ_ask_69 : decode bQ_ask 69 = .ok (.ireturn, 1) := by decide +kernel
theorem dQ_ask_70 : decode bQ_ask 70 = .ok (.aload_n 0, 1) := by decide +kernel
theorem dQ_ask_71 : decode bQ_ask 71 = .ok (.aload_n 0, 1) := by decide +kernel
theorem dQ_ask_72 : decode bQ_ask 72 = .ok (.getfield 33, 3) := by decide +kernel
theorem dQ_ask_75 : decode bQ_ask 75 = .ok (.aload_n 2, 1) := by decide +kernel
theorem dQ_ask_76 : decode bQ_ask 76 = .ok (.aload_n 0, 1) := by decide +kernel
theorem dQ_ask_77 : decode bQ_ask 77 = .ok (.getfield 12, 3) := by decide +kernel
theorem dQ_ask_80 : decode bQ_ask 80 = .ok (.invokevirtual 95, 3) := by decide +kernel
theorem dQ_ask_83 : decode bQ_ask 83 = .ok (.putfield 44, 3) := by decide +kernel
theorem dQ_ask_86 : decode bQ_ask 86 = .ok (.aload_n 0, 1) := by decide +kernel
theorem dQ_ask_87 : decode bQ_ask 87 = .ok (.getfield 40, 3) := by decide +kernel
theorem dQ_ask_90 : decode bQ_ask 90 = .ok (.aload_n 0, 1) := by decide +kernel
theorem dQ_ask_91 : decode bQ_ask 91 = .ok (.getfield 33, 3) := by decide +kernel
theorem dQ_ask_94 : decode bQ_ask 94 = .ok (.invokevirtual 99, 3) := by decide +kernel
theorem dQ_ask_97 : decode bQ_ask 97 = .ok (.invokevirtual 103, 3) := by decide +kernel
theorem dQ_ask_100 : decode bQ_ask 100 = .ok (.aload_n 0, 1) := by decide +kernel
theorem dQ_ask_101 : decode bQ_ask 101 = .ok (.getfield 40, 3) := by decide +kernel
theorem dQ_ask_104 : decode bQ_ask 104 = .ok (.invokevirtual 107, 3) := by decide +kernel
theorem dQ_ask_107 : decode bQ_ask 107 = .ok (.ireturn, 1) := by decide +kernel
theorem dQ_answer_0 : decode bQ_answer 0 = .ok (.aload_n 0, 1) := by decide +kernel
theorem dQ_answer_1 : decode bQ_answer 1 = .ok (.getfield 40, 3) := by decide +kernel
theorem dQ_answer_4 : decode bQ_answer 4 = .ok (.iload_n 1, 1) := by decide +kernel
theorem dQ_answer_5 : decode bQ_answer 5 = .ok (.invokevirtual 110, 3) := by decide +kernel
theorem dQ_answer_8 : decode bQ_answer 8 = .ok (.ireturn, 1) := by decide +kernel
theorem dQ_nearest_0 : decode bQ_nearest 0 = .ok (.aload_n 0, 1) := by decide +kernel
theorem dQ_nearest_1 : decode bQ_nearest 1 = .ok (.getfield 12, 3) := by decide +kernel
theorem dQ_nearest_4 : decode bQ_nearest 4 = .ok (.aload_n 0, 1) := by decide +kernel
theorem dQ_nearest_5 : decode bQ_nearest 5 = .ok (.getfield 48, 3) := by decide +kernel
theorem dQ_nearest_8 : decode bQ_nearest 8 = .ok (.invokevirtual 113, 3) := by decide +kernel
theorem dQ_nearest_11 : decode bQ_nearest 11 = .ok (.ireturn, 1) := by decide +kernel
theorem dQ_far_0 : decode bQ_far 0 = .ok (.aload_n 0, 1) := by decide +kernel
theorem dQ_far_1 : decode bQ_far 1 = .ok (.getfield 12, 3) := by decide +kernel
theorem dQ_far_4 : decode bQ_far 4 = .ok (.iload_n 1, 1) := by decide +kernel
theorem dQ_far_5 : decode bQ_far 5 = .ok (.iload_n 2, 1) := by decide +kernel
theorem dQ_far_6 : decode bQ_far 6 = .ok (.invokevirtual 116, 3) := by decide +kernel
theorem dQ_far_9 : decode bQ_far 9 = .ok (.ireturn, 1) := by decide +kernel
theorem dQ_ways_0 : decode bQ_ways 0 = .ok (.aload_n 0, 1) := by decide +kernel
theorem dQ_ways_1 : decode bQ_ways 1 = .ok (.getfield 12, 3) := by decide +kernel
theorem dQ_ways_4 : decode bQ_ways 4 = .ok (.iload_n 1, 1) := by decide +kernel
theorem dQ_ways_5 : decode bQ_ways 5 = .ok (.iload_n 2, 1) := by decide +kernel
theorem dQ_ways_6 : decode bQ_ways 6 = .ok (.iload_n 3, 1) := by decide +kernel
theorem dQ_ways_7 : decode bQ_ways 7 = .ok (.invokevirtual 119, 3) := by decide +kernel
theorem dQ_ways_10 : decode bQ_ways 10 = .ok (.ireturn, 1) := by decide +kernel
theorem dQ_work_0 : decode bQ_work 0 = .ok (.aload_n 0, 1) := by decide +kernel
theorem dQ_work_1 : decode bQ_work 1 = .ok (.getfield 44, 3) := by decide +kernel
theorem dQ_work_4 : decode bQ_work 4 = .ok (.ireturn, 1) := by decide +kernel
theorem dQ_firstUnknown_0 : decode bQ_firstUnknown 0 = .ok (.iconst 0, 1) := by decide +kernel
theorem dQ_firstUnknown_1 : decode bQ_firstUnknown 1 = .ok (.istore_n 2, 1) := by decide +kernel
theorem dQ_firstUnknown_2 : decode bQ_firstUnknown 2 = .ok (.iload_n 2, 1) := by decide +kernel
theorem dQ_firstUnknown_3 : decode bQ_firstUnknown 3 = .ok (.aload_n 1, 1) := by decide +kernel
theorem dQ_firstUnknown_4 : decode bQ_firstUnknown 4 = .ok (.invokevirtual 122, 3) := by decide +kernel
theorem dQ_firstUnknown_7 : decode bQ_firstUnknown 7 = .ok (.if_icmp .ge 36, 3) := by decide +kernel
theorem dQ_firstUnknown_10 : decode bQ_firstUnknown 10 = .ok (.aload_n 1, 1) := by decide +kernel
theorem dQ_firstUnknown_11 : decode bQ_firstUnknown 11 = .ok (.iload_n 2, 1) := by decide +kernel
theorem dQ_firstUnknown_12 : decode bQ_firstUnknown 12 = .ok (.invokevirtual 123, 3) := by decide +kernel
theorem dQ_firstUnknown_15 : decode bQ_firstUnknown 15 = .ok (.iconst 2, 1) := by decide +kernel
theorem dQ_firstUnknown_16 : decode bQ_firstUnknown 16 = .ok (.if_icmp .ne 21, 3) := by decide +kernel
theorem dQ_firstUnknown_19 : decode bQ_firstUnknown 19 = .ok (.aload_n 0, 1) := by decide +kernel
theorem dQ_firstUnknown_20 : decode bQ_firstUnknown 20 = .ok (.getfield 12, 3) := by decide +kernel
theorem dQ_firstUnknown_23 : decode bQ_firstUnknown 23 = .ok (.aload_n 1, 1) := by decide +kernel
theorem dQ_firstUnknown_24 : decode bQ_firstUnknown 24 = .ok (.iload_n 2, 1) := by decide +kernel
theorem dQ_firstUnknown_25 : decode bQ_firstUnknown 25 = .ok (.invokevirtual 86, 3) := by decide +kernel
theorem dQ_firstUnknown_28 : decode bQ_firstUnknown 28 = .ok (.invokevirtual 126, 3) := by decide +kernel
theorem dQ_firstUnknown_31 : decode bQ_firstUnknown 31 = .ok (.iconst (-1), 1) := by decide +kernel
theorem dQ_firstUnknown_32 : decode bQ_firstUnknown 32 = .ok (.if_icmp .ne 5, 3) := by decide +kernel
theorem dQ_firstUnknown_35 : decode bQ_firstUnknown 35 = .ok (.iload_n 2, 1) := by decide +kernel
theorem dQ_firstUnknown_36 : decode bQ_firstUnknown 36 = .ok (.ireturn, 1) := by decide +kernel
theorem dQ_firstUnknown_37 : decode bQ_firstUnknown 37 = .ok (.iinc 2 1, 3) := by decide +kernel
theorem dQ_firstUnknown_40 : decode bQ_firstUnknown 40 = .ok (.goto (-38), 3) := by decide +kernel
theorem dQ_firstUnknown_43 : decode bQ_firstUnknown 43 = .ok (.iconst (-1), 1) := by decide +kernel
theorem dQ_firstUnknown_44 : decode bQ_firstUnknown 44 = .ok (.ireturn, 1) := by decide +kernel
theorem dQ_isJoin_0 : decode bQ_isJoin 0 = .ok (.iload_n 0, 1) := by decide +kernel
theorem dQ_isJoin_1 : decode bQ_isJoin 1 = .ok (.bipush 43, 2) := by decide +kernel
theorem dQ_isJoin_3 : decode bQ_isJoin 3 = .ok (.if_icmp .eq 15, 3) := by decide +kernel
theorem dQ_isJoin_6 : decode bQ_isJoin 6 = .ok (.iload_n 0, 1) := by decide +kernel
theorem dQ_isJoin_7 : decode bQ_isJoin 7 = .ok (.bipush 45, 2) := by decide +kernel
theorem dQ_isJoin_9 : decode bQ_isJoin 9 = .ok (.if_icmp .eq 9, 3) := by decide +kernel
theorem dQ_isJoin_12 : decode bQ_isJoin 12 = .ok (.iload_n 0, 1) := by decide +kernel
theorem dQ_isJoin_13 : decode bQ_isJoin 13 = .ok (.bipush 38, 2) := by decide +kernel
theorem dQ_isJoin_15 : decode bQ_isJoin 15 = .ok (.if_icmp .ne 7, 3) := by decide +kernel
theorem dQ_isJoin_18 : decode bQ_isJoin 18 = .ok (.iconst 1, 1) := by decide +kernel
theorem dQ_isJoin_19 : decode bQ_isJoin 19 = .ok (.goto 4, 3) := by decide +kernel
theorem dQ_isJoin_22 : decode bQ_isJoin 22 = .ok (.iconst 0, 1) := by decide +kernel
theorem dQ_isJoin_23 : decode bQ_isJoin 23 = .ok (.ireturn, 1) := by decide +kernel
theorem dQ_isIn_0 : decode bQ_isIn 0 = .ok (.iload_n 1, 1) := by decide +kernel
theorem dQ_isIn_1 : decode bQ_isIn 1 = .ok (.ifCond .lt 21, 3) := by decide +kernel
theorem dQ_isIn_4 : decode bQ_isIn 4 = .ok (.iload_n 1, 1) := by decide +kernel
theorem dQ_isIn_5 : decode bQ_isIn 5 = .ok (.bipush 30, 2) := by decide +kernel
theorem dQ_isIn_7 : decode bQ_isIn 7 = .ok (.if_icmp .ge 15, 3) := by decide +kernel
theorem dQ_isIn_10 : decode bQ_isIn 10 = .ok (.iload_n 0, 1) := by decide +kernel
theorem dQ_isIn_11 : decode bQ_isIn 11 = .ok (.iload_n 1, 1) := by decide +kernel
theorem dQ_isIn_12 : decode bQ_isIn 12 = .ok (.iushr, 1) := by decide +kernel
theorem dQ_isIn_13 : decode bQ_isIn 13 = .ok (.iconst 1, 1) := by decide +kernel
theorem dQ_isIn_14 : decode bQ_isIn 14 = .ok (.iand, 1) := by decide +kernel
theorem dQ_isIn_15 : decode bQ_isIn 15 = .ok (.ifCond .eq 7, 3) := by decide +kernel
theorem dQ_isIn_18 : decode bQ_isIn 18 = .ok (.iconst 1, 1) := by decide +kernel
theorem dQ_isIn_19 : decode bQ_isIn 19 = .ok (.goto 4, 3) := by decide +kernel
theorem dQ_isIn_22 : decode bQ_isIn 22 = .ok (.iconst 0, 1) := by decide +kernel
theorem dQ_isIn_23 : decode bQ_isIn 23 = .ok (.ireturn, 1) := by decide +kernel
end
section
theorem dR_init_0 : decode bR_init 0 = .ok (.aload_n 0, 1) := by decide +kernel
theorem dR_init_1 : decode bR_init 1 = .ok (.invokespecial 3, 3) := by decide +kernel
theorem dR_init_4 : decode bR_init 4 = .ok (.aload_n 0, 1) := by decide +kernel
theorem dR_init_5 : decode bR_init 5 = .ok (.bipush 30, 2) := by decide +kernel
theorem dR_init_7 : decode bR_init 7 = .ok (.newarray .int, 2) := by decide +kernel
theorem dR_init_9 : decode bR_init 9 = .ok (.putfield 9, 3) := by decide +kernel
theorem dR_init_12 : decode bR_init 12 = .ok (.aload_n 0, 1) := by decide +kernel
theorem dR_init_13 : decode bR_init 13 = .ok (.iconst 0, 1) := by decide +kernel
theorem dR_init_14 : decode bR_init 14 = .ok (.putfield 15, 3) := by decide +kernel
theorem dR_init_17 : decode bR_init 17 = .ok (.aload_n 0, 1) := by decide +kernel
theorem dR_init_18 : decode bR_init 18 = .ok (.iconst 0, 1) := by decide +kernel
theorem dR_init_19 : decode bR_init 19 = .ok (.putfield 19, 3) := by decide +kernel
theorem dR_init_22 : decode bR_init 22 = .ok (.return_, 1) := by decide +kernel
theorem dR_clear_0 : decode bR_clear 0 = .ok (.aload_n 0, 1) := by decide +kernel
theorem dR_clear_1 : decode bR_clear 1 = .ok (.iconst 0, 1) := by decide +kernel
theorem dR_clear_2 : decode bR_clear 2 = .ok (.putfield 15, 3) := by decide +kernel
theorem dR_clear_5 : decode bR_clear 5 = .ok (.aload_n 0, 1) := by decide +kernel
theorem dR_clear_6 : decode bR_clear 6 = .ok (.iconst 0, 1) := by decide +kernel
theorem dR_clear_7 : decode bR_clear 7 = .ok (.putfield 19, 3) := by decide +kernel
theorem dR_clear_10 : decode bR_clear 10 = .ok (.return_, 1) := by decide +kernel
theorem dR_size_0 : decode bR_size 0 = .ok (.aload_n 0, 1) := by decide +kernel
theorem dR_size_1 : decode bR_size 1 = .ok (.getfield 15, 3) := by decide +kernel
theorem dR_size_4 : decode bR_size 4 = .ok (.ireturn, 1) := by decide +kernel
theorem dR_mask_0 : decode bR_mask 0 = .ok (.aload_n 0, 1) := by decide +kernel
theorem dR_mask_1 : decode bR_mask 1 = .ok (.getfield 19, 3) := by decide +kernel
theorem dR_mask_4 : decode bR_mask 4 = .ok (.ireturn, 1) := by decide +kernel
theorem dR_at_0 : decode bR_at 0 = .ok (.iload_n 1, 1) := by decide +kernel
theorem dR_at_1 : decode bR_at 1 = .ok (.ifCond .lt 20, 3) := by decide +kernel
theorem dR_at_4 : decode bR_at 4 = .ok (.iload_n 1, 1) := by decide +kernel
theorem dR_at_5 : decode bR_at 5 = .ok (.aload_n 0, 1) := by decide +kernel
theorem dR_at_6 : decode bR_at 6 = .ok (.getfield 15, 3) := by decide +kernel
theorem dR_at_9 : decode bR_at 9 = .ok (.if_icmp .ge 12, 3) := by decide +kernel
theorem dR_at_12 : decode bR_at 12 = .ok (.aload_n 0, 1) := by decide +kernel
theorem dR_at_13 : decode bR_at 13 = .ok (.getfield 9, 3) := by decide +kernel
theorem dR_at_16 : decode bR_at 16 = .ok (.iload_n 1, 1) := by decide +kernel
theorem dR_at_17 : decode bR_at 17 = .ok (.iaload, 1) := by decide +kernel
theorem dR_at_18 : decode bR_at 18 = .ok (.goto 4, 3) := by decide +kernel
theorem dR_at_21 : decode bR_at 21 = .ok (.iconst (-1), 1) := by decide +kernel
theorem dR_at_22 : decode bR_at 22 = .ok (.ireturn, 1) := by decide +kernel
theorem dR_has_0 : decode bR_has 0 = .ok (.aload_n 0, 1) := by decide +kernel
theorem dR_has_1 : decode bR_has 1 = .ok (.getfield 19, 3) := by decide +kernel
theorem dR_has_4 : decode bR_has 4 = .ok (.iload_n 1, 1) := by decide +kernel
theorem dR_has_5 : decode bR_has 5 = .ok (.invokestatic 22, 3) := by decide +kernel
theorem dR_has_8 : decode bR_has 8 = .ok (.ireturn, 1) := by decide +kernel
theorem dR_add_0 : decode bR_add 0 = .ok (.iload_n 1, 1) := by decide +kernel
theorem dR_add_1 : decode bR_add 1 = .ok (.ifCond .lt 32, 3) := by decide +kernel
theorem dR_add_4 : decode bR_add 4 = .ok (.iload_n 1, 1) := by decide +kernel
theorem dR_add_5 : decode bR_add 5 = .ok (.bipush 30, 2) := by decide +kernel
theorem dR_add_7 : decode bR_add 7 = .ok (.if_icmp .ge 26, 3) := by decide +kernel
theorem dR_add_10 : decode bR_add 10 = .ok (.aload_n 0, 1) := by decide +kernel
theorem dR_add_11 : decode bR_add 11 = .ok (.getfield 19, 3) := by decide +kernel
theorem dR_add_14 : decode bR_add 14 = .ok (.iload_n 1, 1) := by decide +kernel
theorem dR_add_15 : decode bR_add 15 = .ok (.invokestatic 22, 3) := by decide +kernel
theorem dR_add_18 : decode bR_add 18 = .ok (.ifCond .ne 15, 3) := by decide +kernel
theorem dR_add_21 : decode bR_add 21 = .ok (.aload_n 0, 1) := by decide +kernel
theorem dR_add_22 : decode bR_add 22 = .ok (.getfield 15, 3) := by decide +kernel
theorem dR_add_25 : decode bR_add 25 = .ok (.aload_n 0, 1) := by decide +kernel
theorem dR_add_26 : decode bR_add 26 = .ok (.getfield 9, 3) := by decide +kernel
theorem dR_add_29 : decode bR_add 29 = .ok (.arraylength, 1) := by decide +kernel
theorem dR_add_30 : decode bR_add 30 = .ok (.if_icmp .lt 4, 3) := by decide +kernel
theorem dR_add_33 : decode bR_add 33 = .ok (.return_, 1) := by decide +kernel
theorem dR_add_34 : decode bR_add 34 = .ok (.aload_n 0, 1) := by decide +kernel
theorem dR_add_35 : decode bR_add 35 = .ok (.getfield 9, 3) := by decide +kernel
theorem dR_add_38 : decode bR_add 38 = .ok (.aload_n 0, 1) := by decide +kernel
theorem dR_add_39 : decode bR_add 39 = .ok (.getfield 15, 3) := by decide +kernel
theorem dR_add_42 : decode bR_add 42 = .ok (.iload_n 1, 1) := by decide +kernel
theorem dR_add_43 : decode bR_add 43 = .ok (.iastore, 1) := by decide +kernel
theorem dR_add_44 : decode bR_add 44 = .ok (.aload_n 0, 1) := by decide +kernel
theorem dR_add_45 : decode bR_add 45 = .ok (.dup, 1) := by decide +kernel
theorem dR_add_46 : decode bR_add 46 = .ok (.getfield 15, 3) := by decide +kernel
theorem dR_add_49 : decode bR_add 49 = .ok (.iconst 1, 1) := by decide +kernel
theorem dR_add_50 : decode bR_add 50 = .ok (.iadd, 1) := by decide +kernel
theorem dR_add_51 : decode bR_add 51 = .ok (.putfield 15, 3) := by decide +kernel
theorem dR_add_54 : decode bR_add 54 = .ok (.aload_n 0, 1) := by decide +kernel
theorem dR_add_55 : decode bR_add 55 = .ok (.dup, 1) := by decide +kernel
theorem dR_add_56 : decode bR_add 56 = .ok (.getfield 19, 3) := by decide +kernel
theorem dR_add_59 : decode bR_add 59 = .ok (.iconst 1, 1) := by decide +kernel
theorem dR_add_60 : decode bR_add 60 = .ok (.iload_n 1, 1) := by decide +kernel
theorem dR_add_61 : decode bR_add 61 = .ok (.ishl, 1) := by decide +kernel
theorem dR_add_62 : decode bR_add 62 = .ok (.ior, 1) := by decide +kernel
theorem dR_add_63 : decode bR_add 63 = .ok (.putfield 19, 3) := by decide +kernel
theorem dR_add_66 : decode bR_add 66 = .ok (.return_, 1) := by decide +kernel
theorem dR_addAll_0 : decode bR_addAll 0 = .ok (.iconst 0, 1) := by decide +kernel
theorem dR_addAll_1 : decode bR_addAll 1 = .ok (.istore_n 2, 1) := by decide +kernel
theorem dR_addAll_2 : decode bR_addAll 2 = .ok (.iload_n 2, 1) := by decide +kernel
theorem dR_addAll_3 : decode bR_addAll 3 = .ok (.aload_n 1, 1) := by decide +kernel
theorem dR_addAll_4 : decode bR_addAll 4 = .ok (.invokevirtual 26, 3) := by decide +kernel
theorem dR_addAll_7 : decode bR_addAll 7 = .ok (.if_icmp .ge 18, 3) := by decide +kernel
theorem dR_addAll_10 : decode bR_addAll 10 = .ok (.aload_n 0, 1) := by decide +kernel
theorem dR_addAll_11 : decode bR_addAll 11 = .ok (.aload_n 1, 1) := by decide +kernel
theorem dR_addAll_12 : decode bR_addAll 12 = .ok (.iload_n 2, 1) := by decide +kernel
theorem dR_addAll_13 : decode bR_addAll 13 = .ok (.invokevirtual 30, 3) := by decide +kernel
theorem dR_addAll_16 : decode bR_addAll 16 = .ok (.invokevirtual 34, 3) := by decide +kernel
theorem dR_addAll_19 : decode bR_addAll 19 = .ok (.iinc 2 1, 3) := by decide +kernel
theorem dR_addAll_22 : decode bR_addAll 22 = .ok (.goto (-20), 3) := by decide +kernel
theorem dR_addAll_25 : decode bR_addAll 25 = .ok (.return_, 1) := by decide +kernel
theorem dR_addByNumbers_0 : decode bR_addByNumbers 0 = .ok (.iconst 0, 1) := by decide +kernel
theorem dR_addByNumbers_1 : decode bR_addByNumbers 1 = .ok (.istore_n 2, 1) := by decide +kernel
theorem dR_addByNumbers_2 : decode bR_addByNumbers 2 = .ok (.iload_n 2, 1) := by decide +kernel
theorem dR_addByNumbers_3 : decode bR_addByNumbers 3 = .ok (.bipush 30, 2) := by decide +kernel
theorem dR_addByNumbers_5 : decode bR_addByNumbers 5 = .ok (.if_icmp .ge 22, 3) := by decide +kernel
theorem dR_addByNumbers_8 : decode bR_addByNumbers 8 = .ok (.iload_n 1, 1) := by decide +kernel
theorem dR_addByNumbers_9 : decode bR_addByNumbers 9 = .ok (.iload_n 2, 1) := by decide +kernel
theorem dR_addByNumbers_10 : decode bR_addByNumbers 10 = .ok (.invokestatic 22, 3) := by decide +kernel
theorem dR_addByNumbers_13 : decode bR_addByNumbers 13 = .ok (.ifCond .eq 8, 3) := by decide +kernel
theorem dR_addByNumbers_16 : decode bR_addByNumbers 16 = .ok (.aload_n 0, 1) := by decide +kernel
theorem dR_addByNumbers_17 : decode bR_addByNumbers 17 = .ok (.iload_n 2, 1) := by decide +kernel
theorem dR_addByNumbers_18 : decode bR_addByNumbers 18 = .ok (.invokevirtual 34, 3) := by decide +kernel
theorem dR_addByNumbers_21 : decode bR_addByNumbers 21 = .ok (.iinc 2 1, 3) := by decide +kernel
theorem dR_addByNumbers_24 : decode bR_addByNumbers 24 = .ok (.goto (-22), 3) := by decide +kernel
theorem dR_addByNumbers_27 : decode bR_addByNumbers 27 = .ok (.return_, 1) := by decide +kernel
theorem dR_copy_0 : decode bR_copy 0 = .ok (.aload_n 0, 1) := by decide +kernel
theorem dR_copy_1 : decode bR_copy 1 = .ok (.invokevirtual 38, 3) := by decide +kernel
theorem dR_copy_4 : decode bR_copy 4 = .ok (.aload_n 0, 1) := by decide +kernel
theorem dR_copy_5 : decode bR_copy 5 = .ok (.aload_n 1, 1) := by decide +kernel
theorem dR_copy_6 : decode bR_copy 6 = .ok (.invokevirtual 41, 3) := by decide +kernel
theorem dR_copy_9 : decode bR_copy 9 = .ok (.return_, 1) := by decide +kernel
theorem dR_keep_0 : decode bR_keep 0 = .ok (.aload_n 0, 1) := by decide +kernel
theorem dR_keep_1 : decode bR_keep 1 = .ok (.getfield 15, 3) := by decide +kernel
theorem dR_keep_4 : decode bR_keep 4 = .ok (.istore_n 2, 1) := by decide +kernel
theorem dR_keep_5 : decode bR_keep 5 = .ok (.aload_n 0, 1) := by decide +kernel
theorem dR_keep_6 : decode bR_keep 6 = .ok (.invokevirtual 38, 3) := by decide +kernel
theorem dR_keep_9 : decode bR_keep 9 = .ok (.iconst 0, 1) := by decide +kernel
theorem dR_keep_10 : decode bR_keep 10 = .ok (.istore_n 3, 1) := by decide +kernel
theorem dR_keep_11 : decode bR_keep 11 = .ok (.iload_n 3, 1) := by decide +kernel
theorem dR_keep_12 : decode bR_keep 12 = .ok (.iload_n 2, 1) := by decide +kernel
theorem dR_keep_13 : decode bR_keep 13 = .ok (.if_icmp .ge 41, 3) := by decide +kernel
theorem dR_keep_16 : decode bR_keep 16 = .ok (.iload_n 3, 1) := by decide +kernel
theorem dR_keep_17 : decode bR_keep 17 = .ok (.aload_n 0, 1) := by decide +kernel
theorem dR_keep_18 : decode bR_keep 18 = .ok (.getfield 9, 3) := by decide +kernel
theorem dR_keep_21 : decode bR_keep 21 = .ok (.arraylength, 1) := by decide +kernel
theorem dR_keep_22 : decode bR_keep 22 = .ok (.if_icmp .ge 32, 3) := by decide +kernel
theorem dR_keep_25 : decode bR_keep 25 = .ok (.iload_n 1, 1) := by decide +kernel
theorem dR_keep_26 : decode bR_keep 26 = .ok (.aload_n 0, 1) := by decide +kernel
theorem dR_keep_27 : decode bR_keep 27 = .ok (.getfield 9, 3) := by decide +kernel
theorem dR_keep_30 : decode bR_keep 30 = .ok (.iload_n 3, 1) := by decide +kernel
theorem dR_keep_31 : decode bR_keep 31 = .ok (.iaload, 1) := by decide +kernel
theorem dR_keep_32 : decode bR_keep 32 = .ok (.invokestatic 22, 3) := by decide +kernel
theorem dR_keep_35 : decode bR_keep 35 = .ok (.ifCond .eq 13, 3) := by decide +kernel
theorem dR_keep_38 : decode bR_keep 38 = .ok (.aload_n 0, 1) := by decide +kernel
theorem dR_keep_39 : decode bR_keep 39 = .ok (.aload_n 0, 1) := by decide +kernel
theorem dR_keep_40 : decode bR_keep 40 = .ok (.getfield 9, 3) := by decide +kernel
theorem dR_keep_43 : decode bR_keep 43 = .ok (.iload_n 3, 1) := by decide +kernel
theorem dR_keep_44 : decode bR_keep 44 = .ok (.iaload, 1) := by decide +kernel
theorem dR_keep_45 : decode bR_keep 45 = .ok (.invokevirtual 34, 3) := by decide +kernel
theorem dR_keep_48 : decode bR_keep 48 = .ok (.iinc 3 1, 3) := by decide +kernel
theorem dR_keep_51 : decode bR_keep 51 = .ok (.goto (-40), 3) := by decide +kernel
theorem dR_keep_54 : decode bR_keep 54 = .ok (.return_, 1) := by decide +kernel
theorem dR_reverse_0 : decode bR_reverse 0 = .ok (.iconst 0, 1) := by decide +kernel
theorem dR_reverse_1 : decode bR_reverse 1 = .ok (.istore_n 1, 1) := by decide +kernel
theorem dR_reverse_2 : decode bR_reverse 2 = .ok (.aload_n 0, 1) := by decide +kernel
theorem dR_reverse_3 : decode bR_reverse 3 = .ok (.getfield 15, 3) := by decide +kernel
theorem dR_reverse_6 : decode bR_reverse 6 = .ok (.iconst 1, 1) := by decide +kernel
theorem dR_reverse_7 : decode bR_reverse 7 = .ok (.isub, 1) := by decide +kernel
theorem dR_reverse_8 : decode bR_reverse 8 = .ok (.istore_n 2, 1) := by decide +kernel
theorem dR_reverse_9 : decode bR_reverse 9 = .ok (.iload_n 1, 1) := by decide +kernel
theorem dR_reverse_10 : decode bR_reverse 10 = .ok (.ifCond .lt 52, 3) := by decide +kernel
theorem dR_reverse_13 : decode bR_reverse 13 = .ok (.iload_n 1, 1) := by decide +kernel
theorem dR_reverse_14 : decode bR_reverse 14 = .ok (.iload_n 2, 1) := by decide +kernel
theorem dR_reverse_15 : decode bR_reverse 15 = .ok (.if_icmp .ge 47, 3) := by decide +kernel
theorem dR_reverse_18 : decode bR_reverse 18 = .ok (.iload_n 2, 1) := by decide +kernel
theorem dR_reverse_19 : decode bR_reverse 19 = .ok (.aload_n 0, 1) := by decide +kernel
theorem dR_reverse_20 : decode bR_reverse 20 = .ok (.getfield 9, 3) := by decide +kernel
theorem dR_reverse_23 : decode bR_reverse 23 = .ok (.arraylength, 1) := by decide +kernel
theorem dR_reverse_24 : decode bR_reverse 24 = .ok (.if_icmp .ge 38, 3) := by decide +kernel
theorem dR_reverse_27 : decode bR_reverse 27 = .ok (.aload_n 0, 1) := by decide +kernel
theorem dR_reverse_28 : decode bR_reverse 28 = .ok (.getfield 9, 3) := by decide +kernel
theorem dR_reverse_31 : decode bR_reverse 31 = .ok (.iload_n 1, 1) := by decide +kernel
theorem dR_reverse_32 : decode bR_reverse 32 = .ok (.iaload, 1) := by decide +kernel
theorem dR_reverse_33 : decode bR_reverse 33 = .ok (.istore_n 3, 1) := by decide +kernel
theorem dR_reverse_34 : decode bR_reverse 34 = .ok (.aload_n 0, 1) := by decide +kernel
theorem dR_reverse_35 : decode bR_reverse 35 = .ok (.getfield 9, 3) := by decide +kernel
theorem dR_reverse_38 : decode bR_reverse 38 = .ok (.iload_n 1, 1) := by decide +kernel
theorem dR_reverse_39 : decode bR_reverse 39 = .ok (.aload_n 0, 1) := by decide +kernel
theorem dR_reverse_40 : decode bR_reverse 40 = .ok (.getfield 9, 3) := by decide +kernel
theorem dR_reverse_43 : decode bR_reverse 43 = .ok (.iload_n 2, 1) := by decide +kernel
theorem dR_reverse_44 : decode bR_reverse 44 = .ok (.iaload, 1) := by decide +kernel
theorem dR_reverse_45 : decode bR_reverse 45 = .ok (.iastore, 1) := by decide +kernel
theorem dR_reverse_46 : decode bR_reverse 46 = .ok (.aload_n 0, 1) := by decide +kernel
theorem dR_reverse_47 : decode bR_reverse 47 = .ok (.getfield 9, 3) := by decide +kernel
theorem dR_reverse_50 : decode bR_reverse 50 = .ok (.iload_n 2, 1) := by decide +kernel
theorem dR_reverse_51 : decode bR_reverse 51 = .ok (.iload_n 3, 1) := by decide +kernel
theorem dR_reverse_52 : decode bR_reverse 52 = .ok (.iastore, 1) := by decide +kernel
theorem dR_reverse_53 : decode bR_reverse 53 = .ok (.iinc 1 1, 3) := by decide +kernel
theorem dR_reverse_56 : decode bR_reverse 56 = .ok (.iinc 2 (-1), 3) := by decide +kernel
theorem dR_reverse_59 : decode bR_reverse 59 = .ok (.goto (-50), 3) := by decide +kernel
theorem dR_reverse_62 : decode bR_reverse 62 = .ok (.return_, 1) := by decide +kernel
end
section
theorem ts_nf9 {x : Bool} (h : ¬ x = false) : x = true := by cases x <;> simp_all

set_option maxHeartbeats 4000000 in
set_option maxRecDepth 100000 in
/-- isIn(mask, t) -/
theorem cQ_isIn (l : Launch) (D : va_G) (tys : List (ClassId × FieldType)) (A : Nat → Prop) (ws : va_W) (mk t : Int32) : x_Mi l yQ_isIn wQ_isIn (xR 0) D xCl tys A [.int mk, .int t] ws (fun r ws1 => r = b2i (isInB mk t) ∧ ws = ws1) := by
  refine x_enter (by decide) rfl (Nat.le_of_ble_eq_true rfl) (fun p e s m args below meth c ls hx hb hr hlk hml hown hnm hts hK hP hD hS hA hN hl => ?_)
  have hl : lv_has ls 2 [(0, .int mk), (1, .int t)] := hl
  refine lv_iload_n hx hb dQ_isIn_0 rfl (lv_at hl 1 rfl) ?_
  refine lv_if_lt (tgt := 22) hx hb dQ_isIn_1 (by decide) (fun c1 => ?_) (fun c1 => ?_)
  · refine lv_iconst (v := 0) hx hb dQ_isIn_22 (by decide) ?_
    exact x_zret hx hb hr rfl hlk hK hP hD hS dQ_isIn_23 ⟨by rw [isIn_neg c1]; rfl, rfl⟩
  · refine lv_iload_n hx hb dQ_isIn_4 rfl (lv_at hl 1 rfl) ?_
    refine lv_bipush (v := 30) hx hb dQ_isIn_5 (by decide) ?_
    refine lv_icmp_ge (tgt := 22) hx hb dQ_isIn_7 (by decide) (fun c7 => ?_) (fun c7 => ?_)
    · refine lv_iconst (v := 0) hx hb dQ_isIn_22 (by decide) ?_
      exact x_zret hx hb hr rfl hlk hK hP hD hS dQ_isIn_23 ⟨by rw [isIn_big c7]; rfl, rfl⟩
    · refine lv_iload_n hx hb dQ_isIn_10 rfl (lv_at hl 0 rfl) ?_
      refine lv_iload_n hx hb dQ_isIn_11 rfl (lv_at hl 1 rfl) ?_
      refine lv_iushr (v := ((mk).toUInt32 >>> ((t).toUInt32 &&& Int32.toUInt32 31)).toInt32) hx hb dQ_isIn_12 rfl ?_
      refine lv_iconst (v := 1) hx hb dQ_isIn_13 (by decide) ?_
      refine lv_iand hx hb dQ_isIn_14 ?_
      refine lv_if_eq (tgt := 22) hx hb dQ_isIn_15 (by decide) (fun c15 => ?_) (fun c15 => ?_)
      · refine lv_iconst (v := 0) hx hb dQ_isIn_22 (by decide) ?_
        exact x_zret hx hb hr rfl hlk hK hP hD hS dQ_isIn_23 ⟨by rw [(isIn_bit c1 c7).mp c15]; rfl, rfl⟩
      · refine lv_iconst (v := 1) hx hb dQ_isIn_18 (by decide) ?_
        refine lv_goto (tgt := 23) hx hb dQ_isIn_19 (by decide) ?_
        exact x_zret hx hb hr rfl hlk hK hP hD hS dQ_isIn_23 ⟨by rw [ts_nf9 (fun h => c15 ((isIn_bit c1 c7).mpr h))]; rfl, rfl⟩

set_option maxHeartbeats 4000000 in
set_option maxRecDepth 100000 in
/-- Row.clear() -/
theorem cR_clear (l : Launch) (D : va_G) (tys : List (ClassId × FieldType)) (A : Nat → Prop) (ws : va_W) (cI : ClassId) (hI : tys[0]? = some (cI, .int)) (ad : Nat → Nat) (k : Nat) (L : List Nat) (f : Nat → Int32) (h : RowF cI ad ws k L f) : x_Mv l yR_clear wR_clear (xR 0) D xCl tys A [.ref (ad k)] ws (fun ws1 => x_two k ws ws1 ∧ RowF cI ad ws1 k [] f) := by
  obtain ⟨mk, h0, h1, hf, hm, hn, hlt⟩ := h
  refine x_enter (by decide) rfl (Nat.le_of_ble_eq_true rfl) (fun p e s m args below meth c ls hx hb hr hlk hml hown hnm hts hK hP hD hS hA hN hl => ?_)
  have hl : lv_has ls 1 [(0, .ref (ad k))] := hl
  refine lv_aload_n hx hb dR_clear_0 rfl (lv_at hl 0 rfl) ?_
  refine lv_iconst (v := 0) hx hb dR_clear_1 (by decide) ?_
  refine va_put (D := D) (cl := xCl) (ci := 2) (v := .int 0) (ty := .int) (C := rnR) (T := tbR) (N := 3) hx hb hts inR tyR toR nmR hown hK hP hD hS k h0 rfl 1 (by decide) (hts _ tw_127) (fun _ h9 => h9) rfl (by decide +kernel) rfl rfl (Nat.le_of_ble_eq_true rfl) dR_clear_2 (fun H locs hP hD hS => ?_)
  obtain ⟨ws_2, hu_1, hP, hD⟩ := x_gen h0 hP hD
  have h_3 : ws_2[k]? = some (ad k, .inr (2, [.ref (ad (k + 1)), .int 0, .int mk])) := hu_1.1
  have h_4 := (hu_1.2 (k + 1) (by omega)).trans h1
  refine lv_aload_n hx hb dR_clear_5 rfl (lv_at hl 0 rfl) ?_
  refine lv_iconst (v := 0) hx hb dR_clear_6 (by decide) ?_
  refine va_put (D := D) (cl := xCl) (ci := 2) (v := .int 0) (ty := .int) (C := rnR) (T := tbR) (N := 3) hx hb hts inR tyR toR nmR hown hK hP hD hS k h_3 rfl 2 (by decide) (hts _ tw_128) (fun _ h9 => h9) rfl (by decide +kernel) rfl rfl (Nat.le_of_ble_eq_true rfl) dR_clear_7 (fun H locs hP hD hS => ?_)
  obtain ⟨ws_6, hu_5, hP, hD⟩ := x_gen h_3 hP hD
  have h_7 : ws_6[k]? = some (ad k, .inr (2, [.ref (ad (k + 1)), .int 0, .int 0])) := hu_5.1
  have h_8 := (hu_5.2 (k + 1) (by omega)).trans h_4
  exact x_vret hx hb hr hlk hK hP hD hS dR_clear_10 ⟨(fun j a1 a2 => ((hu_5.2 j a1).trans (hu_1.2 j a1))), _, h_7, h_8, fun i h => absurd h (Nat.not_lt_zero i), fun i _ => b_0 i, List.nodup_nil, fun _ h => absurd h List.not_mem_nil⟩

set_option maxHeartbeats 4000000 in
set_option maxRecDepth 100000 in
/-- Row.size() -/
theorem cR_size (l : Launch) (D : va_G) (tys : List (ClassId × FieldType)) (A : Nat → Prop) (ws : va_W) (cI : ClassId) (hI : tys[0]? = some (cI, .int)) (ad : Nat → Nat) (k : Nat) (L : List Nat) (h : RowAt cI ad ws k L) : x_Mi l yR_size wR_size (xR 0) D xCl tys A [.ref (ad k)] ws (fun r ws1 => r = nI L.length ∧ ws = ws1) := by
  obtain ⟨f, mk, h0, h1, hf, hm, hn, hlt⟩ := h
  refine x_enter (by decide) rfl (Nat.le_of_ble_eq_true rfl) (fun p e s m args below meth c ls hx hb hr hlk hml hown hnm hts hK hP hD hS hA hN hl => ?_)
  have hl : lv_has ls 1 [(0, .ref (ad k))] := hl
  refine lv_aload_n hx hb dR_size_0 rfl (lv_at hl 0 rfl) ?_
  refine va_get (D := D) (cl := xCl) (ci := 2) (v := .int (nI L.length)) (C := rnR) (T := tbR) (N := 3) hx hb hts inR hown hK hP k h0 rfl 1 (by decide) (hts _ tw_127) (fun _ h9 => h9) rfl dR_size_1 ?_
  exact x_iret hx hb hr hlk hK hP hD hS dR_size_4 ⟨rfl, rfl⟩

set_option maxHeartbeats 4000000 in
set_option maxRecDepth 100000 in
/-- Row.mask() -/
theorem cR_mask (l : Launch) (D : va_G) (tys : List (ClassId × FieldType)) (A : Nat → Prop) (ws : va_W) (cI : ClassId) (hI : tys[0]? = some (cI, .int)) (ad : Nat → Nat) (k : Nat) (L : List Nat) (h : RowAt cI ad ws k L) : x_Mi l yR_mask wR_mask (xR 0) D xCl tys A [.ref (ad k)] ws (fun r ws1 => (∀ i, i < 32 → bt r i = decide (i ∈ L)) ∧ ws = ws1) := by
  obtain ⟨f, mk, h0, h1, hf, hm, hn, hlt⟩ := h
  refine x_enter (by decide) rfl (Nat.le_of_ble_eq_true rfl) (fun p e s m args below meth c ls hx hb hr hlk hml hown hnm hts hK hP hD hS hA hN hl => ?_)
  have hl : lv_has ls 1 [(0, .ref (ad k))] := hl
  refine lv_aload_n hx hb dR_mask_0 rfl (lv_at hl 0 rfl) ?_
  refine va_get (D := D) (cl := xCl) (ci := 2) (v := .int mk) (C := rnR) (T := tbR) (N := 3) hx hb hts inR hown hK hP k h0 rfl 2 (by decide) (hts _ tw_128) (fun _ h9 => h9) rfl dR_mask_1 ?_
  exact x_iret hx hb hr hlk hK hP hD hS dR_mask_4 ⟨hm, rfl⟩

/-- the i-th of a list, -1 where there is none -/
def atI (L : List Nat) (i : Int32) : Int32 := if 0 ≤ i.toInt ∧ i.toInt < L.length then nI (L.getD i.toInt.toNat 0) else -1
theorem atI_neg {L : List Nat} {i : Int32} (h : i < 0) : atI L i = -1 := by
  rw [i32_lt, i32_0] at h
  unfold atI
  rw [if_neg (by omega)]
theorem atI_big {L : List Nat} {i : Int32} (hL : L.length < 2 ^ 31) (h : nI L.length ≤ i) : atI L i = -1 := by
  rw [i32_le, nI_toInt hL] at h
  unfold atI
  rw [if_neg (by omega)]
theorem atI_nI {L : List Nat} {i : Nat} (h : i < L.length) (hL : L.length < 2 ^ 31) : atI L (nI i) = nI L[i] := by
  unfold atI
  rw [nI_toInt (by omega), if_pos ⟨by omega, by omega⟩]
  simp [h]
theorem ix_of {i : Int32} {n : Nat} (hn : n < 2 ^ 31) (h1 : ¬ i < 0) (h2 : ¬ nI n ≤ i) : ∃ j : Nat, j < n ∧ i = nI j := by
  obtain ⟨j, hj, rfl⟩ := nI_of h1
  refine ⟨j, ?_, rfl⟩
  rw [i32_le, nI_toInt hn, nI_toInt hj] at h2
  omega

set_option maxHeartbeats 4000000 in
set_option maxRecDepth 100000 in
/-- Row.at(i) -/
theorem cR_at (l : Launch) (D : va_G) (tys : List (ClassId × FieldType)) (A : Nat → Prop) (ws : va_W) (cI : ClassId) (hI : tys[0]? = some (cI, .int)) (ad : Nat → Nat) (k : Nat) (L : List Nat) (i : Int32) (h : RowAt cI ad ws k L) : x_Mi l yR_at wR_at (xR 0) D xCl tys A [.ref (ad k), .int i] ws (fun r ws1 => r = atI L i ∧ ws = ws1) := by
  have hle := h.le
  obtain ⟨f, mk, h0, h1, hf, hm, hn, hlt⟩ := h
  refine x_enter (by decide) rfl (Nat.le_of_ble_eq_true rfl) (fun p e s m args below meth c ls hx hb hr hlk hml hown hnm hts hK hP hD hS hA hN hl => ?_)
  have hl : lv_has ls 2 [(0, .ref (ad k)), (1, .int i)] := hl
  refine lv_iload_n hx hb dR_at_0 rfl (lv_at hl 1 rfl) ?_
  refine lv_if_lt (tgt := 21) hx hb dR_at_1 (by decide) (fun c1 => ?_) (fun c1 => ?_)
  · refine lv_iconst (v := (-1)) hx hb dR_at_21 (by decide) ?_
    exact x_iret hx hb hr hlk hK hP hD hS dR_at_22 ⟨(atI_neg c1).symm, rfl⟩
  · refine lv_iload_n hx hb dR_at_4 rfl (lv_at hl 1 rfl) ?_
    refine lv_aload_n hx hb dR_at_5 rfl (lv_at hl 0 rfl) ?_
    refine va_get (D := D) (cl := xCl) (ci := 2) (v := .int (nI L.length)) (C := rnR) (T := tbR) (N := 3) hx hb hts inR hown hK hP k h0 rfl 1 (by decide) (hts _ tw_127) (fun _ h9 => h9) rfl dR_at_6 ?_
    refine lv_icmp_ge (tgt := 21) hx hb dR_at_9 (by decide) (fun c9 => ?_) (fun c9 => ?_)
    · refine lv_iconst (v := (-1)) hx hb dR_at_21 (by decide) ?_
      exact x_iret hx hb hr hlk hK hP hD hS dR_at_22 ⟨(atI_big (by have := hle; omega) c9).symm, rfl⟩
    · obtain ⟨j, hj, ej⟩ := ix_of (by omega) c1 c9
      refine lv_aload_n hx hb dR_at_12 rfl (lv_at hl 0 rfl) ?_
      refine va_get (D := D) (cl := xCl) (ci := 2) (v := .ref (ad (k + 1))) (C := rnR) (T := tbR) (N := 3) hx hb hts inR hown hK hP k h0 rfl 0 (by decide) (hts _ tw_126) (fun _ h9 => h9) rfl dR_at_13 ?_
      refine lv_iload_n hx hb dR_at_16 rfl (lv_at hl 1 rfl) ?_
      refine va_iald hx hb hK hP (k + 1) 0 h1 hI (by rw [ej]; exact vp_in_nI (by omega) (by omega)) dR_at_17 ?_
      refine lv_goto (tgt := 22) hx hb dR_at_18 (by decide) ?_
      exact x_iret hx hb hr hlk hK hP hD hS dR_at_22 ⟨by rw [ej, atI_nI hj (by omega), nI_clamp (by omega)]; exact hf j hj, rfl⟩

theorem isIn_mem {mk : Int32} {L : List Nat} (hm : ∀ i, i < 32 → bt mk i = decide (i ∈ L)) {t : Nat} (ht : t < 30) : isInB mk (nI t) = decide (t ∈ L) := by
  rw [isIn_nI mk ht, hm t (by omega)]
/-- is t one of the list -/
def hasI (L : List Nat) (t : Int32) : Bool := decide (0 ≤ t.toInt) && decide (t.toInt < 30) && decide (t.toInt.toNat ∈ L)
theorem hasI_mk {mk : Int32} {L : List Nat} (hm : ∀ i, i < 32 → bt mk i = decide (i ∈ L)) (t : Int32) : isInB mk t = hasI L t := by
  unfold isInB hasI
  by_cases h : 0 ≤ t.toInt ∧ t.toInt < 30
  · rw [hm _ (by omega)]
  · by_cases h0 : 0 ≤ t.toInt
    · rw [decide_eq_false (p := t.toInt < 30) (by omega)]; cases decide (0 ≤ t.toInt) <;> rfl
    · rw [decide_eq_false h0]; rfl
theorem hasI_nI (L : List Nat) {t : Nat} (ht : t < 30) : hasI L (nI t) = decide (t ∈ L) := by
  unfold hasI
  rw [nI_toInt (by omega), decide_eq_true (by omega), decide_eq_true (by omega)]
  simp

set_option maxHeartbeats 4000000 in
set_option maxRecDepth 100000 in
/-- Row.has(t) -/
theorem cR_has (l : Launch) (D : va_G) (tys : List (ClassId × FieldType)) (A : Nat → Prop) (ws : va_W) (cI : ClassId) (hI : tys[0]? = some (cI, .int)) (ad : Nat → Nat) (k : Nat) (L : List Nat) (t : Int32) (h : RowAt cI ad ws k L) : x_Mi l yR_has wR_has (xR 1) D xCl tys A [.ref (ad k), .int t] ws (fun r ws1 => r = b2i (hasI L t) ∧ ws = ws1) := by
  obtain ⟨f, mk, h0, h1, hf, hm, hn, hlt⟩ := h
  refine x_enter (by decide) rfl (Nat.le_of_ble_eq_true rfl) (fun p e s m args below meth c ls hx hb hr hlk hml hown hnm hts hK hP hD hS hA hN hl => ?_)
  have hl : lv_has ls 2 [(0, .ref (ad k)), (1, .int t)] := hl
  refine lv_aload_n hx hb dR_has_0 rfl (lv_at hl 0 rfl) ?_
  refine va_get (D := D) (cl := xCl) (ci := 2) (v := .int mk) (C := rnR) (T := tbR) (N := 3) hx hb hts inR hown hK hP k h0 rfl 2 (by decide) (hts _ tw_128) (fun _ h9 => h9) rfl dR_has_1 ?_
  refine lv_iload_n hx hb dR_has_4 rfl (lv_at hl 1 rfl) ?_
  refine x_calli (x_runSN (n := 2) (As := [.int mk, .int t]) (rest := []) ⟨hx, hb, hml, hown, hts⟩ (cQ_isIn l D tys A ws mk t) (xN_454 hN) tw_190 tw_1 tw_191 (by decide +kernel) rfl rfl ⟨by decide, by decide⟩ ⟨Nat.zero_le _, Nat.zero_le _⟩ hK hP hD hS hA hN rfl hl.1 rfl (lv_room (Nat.le_of_ble_eq_true rfl)) dR_has_5) hS (fun r_2 ws_1 H locs hr1 hP hD hS => ?_)
  obtain ⟨hr1, rfl⟩ := hr1
  exact x_zret hx hb hr (by rw [hr1]; exact b2i_nar _) hlk hK hP hD hS dR_has_8 ⟨by rw [hr1, hasI_mk hm], rfl⟩

theorem RowAt.push {cI : ClassId} {ad : Nat → Nat} {ws : va_W} {k : Nat} {L : List Nat} {f f1 : Nat → Int32} {n1 mk mk1 t : Int32} {j : Nat} (h0 : ws[k]? = some (ad k, .inr (2, [.ref (ad (k + 1)), .int n1, .int mk1]))) (h1 : ws[k + 1]? = some (ad (k + 1), .inl (cI, 30, .inl f1)))
    (en : n1 = nI L.length + 1) (ef : f1 = upd f (nI L.length).toNatClampNeg t) (em : mk1 = mk ||| ((1 : Int32) <<< (t &&& 31))) (et : t = nI j) (hj : j < 30) (hjL : j ∉ L) (hf : ∀ (i : Nat) (h : i < L.length), f i = nI L[i]) (hm : ∀ i, i < 32 → bt mk i = decide (i ∈ L)) (hn : L.Nodup) (hlt : ∀ t ∈ L, t < 30) : ∃ f9, RowF cI ad ws k (addI L t) f9 ∧ ∀ i, i ≠ L.length → f9 i = f i := by
  have hle := nodup_len 30 L hn hlt
  subst et
  rw [addI_nI L hj, if_neg hjL]
  have e1 : n1 = nI (L ++ [j]).length := by rw [en, nI_1, List.length_append]; rfl
  subst e1 ef em
  refine ⟨_, ⟨_, h0, h1, ?_, ?_, ?_, ?_⟩, fun i hi => by rw [nI_clamp (by omega)]; exact if_neg hi⟩
  · intro i h
    rw [nI_clamp (by omega)]
    unfold upd
    by_cases e : i = L.length
    · rw [if_pos e]; subst e; simp
    · rw [if_neg e]
      have hi : i < L.length := by
        have : i < (L ++ [j]).length := h
        rw [List.length_append] at this
        simp only [List.length_singleton] at this
        omega
      rw [List.getElem_append_left hi]
      exact hf i hi
  · intro i hi
    rw [b_or, hm i hi, b_sh1 (by omega) hi]
    simp only [List.mem_append, List.mem_singleton]
    by_cases a : i ∈ L <;> by_cases b : i = j <;> simp [a, b]
  · rw [List.nodup_append]
    exact ⟨hn, by simp, fun a ha b hb => by
      rw [List.mem_singleton] at hb
      subst hb
      intro e
      subst e
      exact hjL ha⟩
  · intro t ht
    rcases List.mem_append.mp ht with h | h
    · exact hlt t h
    · rw [List.mem_singleton] at h
      omega

set_option maxHeartbeats 4000000 in
set_option maxRecDepth 100000 in
/-- Row.add(t) -/
theorem cR_add (l : Launch) (D : va_G) (tys : List (ClassId × FieldType)) (A : Nat → Prop) (ws : va_W) (cI : ClassId) (hI : tys[0]? = some (cI, .int)) (ad : Nat → Nat) (k : Nat) (L : List Nat) (t : Int32) (f : Nat → Int32) (h : RowF cI ad ws k L f) : x_Mv l yR_add wR_add (xR 1) D xCl tys A [.ref (ad k), .int t] ws (fun ws1 => x_two k ws ws1 ∧ ∃ f9, RowF cI ad ws1 k (addI L t) f9 ∧ ∀ i, i ≠ L.length → f9 i = f i) := by
  obtain ⟨mk, h0, h1, hf, hm, hn, hlt⟩ := h
  refine x_enter (by decide) rfl (Nat.le_of_ble_eq_true rfl) (fun p e s m args below meth c ls hx hb hr hlk hml hown hnm hts hK hP hD hS hA hN hl => ?_)
  have hl : lv_has ls 2 [(0, .ref (ad k)), (1, .int t)] := hl
  refine lv_iload_n hx hb dR_add_0 rfl (lv_at hl 1 rfl) ?_
  refine lv_if_lt (tgt := 33) hx hb dR_add_1 (by decide) (fun c1 => ?_) (fun c1 => ?_)
  · exact x_vret hx hb hr hlk hK hP hD hS dR_add_33 ⟨x_two.rf, by rw [addI_neg c1]; exact ⟨f, ⟨mk, h0, h1, hf, hm, hn, hlt⟩, fun _ _ => rfl⟩⟩
  · refine lv_iload_n hx hb dR_add_4 rfl (lv_at hl 1 rfl) ?_
    refine lv_bipush (v := 30) hx hb dR_add_5 (by decide) ?_
    refine lv_icmp_ge (tgt := 33) hx hb dR_add_7 (by decide) (fun c7 => ?_) (fun c7 => ?_)
    · exact x_vret hx hb hr hlk hK hP hD hS dR_add_33 ⟨x_two.rf, by rw [addI_big c7]; exact ⟨f, ⟨mk, h0, h1, hf, hm, hn, hlt⟩, fun _ _ => rfl⟩⟩
    · refine lv_aload_n hx hb dR_add_10 rfl (lv_at hl 0 rfl) ?_
      refine va_get (D := D) (cl := xCl) (ci := 2) (v := .int mk) (C := rnR) (T := tbR) (N := 3) hx hb hts inR hown hK hP k h0 rfl 2 (by decide) (hts _ tw_128) (fun _ h9 => h9) rfl dR_add_11 ?_
      refine lv_iload_n hx hb dR_add_14 rfl (lv_at hl 1 rfl) ?_
      refine x_calli (x_runSN (n := 2) (As := [.int mk, .int t]) (rest := []) ⟨hx, hb, hml, hown, hts⟩ (cQ_isIn l D tys A ws mk t) (xN_454 hN) tw_190 tw_1 tw_191 (by decide +kernel) rfl rfl ⟨by decide, by decide⟩ ⟨Nat.zero_le _, Nat.zero_le _⟩ hK hP hD hS hA hN rfl hl.1 rfl (lv_room (Nat.le_of_ble_eq_true rfl)) dR_add_15) hS (fun r_2 ws_1 H locs hr1 hP hD hS => ?_)
      obtain ⟨hr1, rfl⟩ := hr1
      refine lv_if_ne (tgt := 33) hx hb dR_add_18 (by decide) (fun c18 => ?_) (fun c18 => ?_)
      · exact x_vret hx hb hr hlk hK hP hD hS dR_add_33 ⟨x_two.rf, by obtain ⟨j, hj, et⟩ := i30_of c1 c7; rw [hr1, et, isIn_nI mk hj, hm j (by omega), b2i_n0, decide_eq_true_eq] at c18; rw [et, addI_nI L hj, if_pos c18]; exact ⟨f, ⟨mk, h0, h1, hf, hm, hn, hlt⟩, fun _ _ => rfl⟩⟩
      · obtain ⟨j, hj, et⟩ := i30_of c1 c7
        have hjL : j ∉ L := fun hh => by rw [hr1, et, isIn_nI mk hj, hm j (by omega), decide_eq_true hh] at c18; exact absurd c18 (by decide)
        have hll : L.length < 30 := by have := nodup_len 30 (L ++ [j]) (List.nodup_append.mpr ⟨hn, by simp, fun a ha b hb e => hjL (by rw [List.mem_singleton] at hb; rw [← hb, ← e]; exact ha)⟩) (fun t ht => by rcases List.mem_append.mp ht with h | h; exact hlt t h; rw [List.mem_singleton] at h; omega); rw [List.length_append] at this; simp only [List.length_singleton] at this; omega
        refine lv_aload_n hx hb dR_add_21 rfl (lv_at hl 0 rfl) ?_
        refine va_get (D := D) (cl := xCl) (ci := 2) (v := .int (nI L.length)) (C := rnR) (T := tbR) (N := 3) hx hb hts inR hown hK hP k h0 rfl 1 (by decide) (hts _ tw_127) (fun _ h9 => h9) rfl dR_add_22 ?_
        refine lv_aload_n hx hb dR_add_25 rfl (lv_at hl 0 rfl) ?_
        refine va_get (D := D) (cl := xCl) (ci := 2) (v := .ref (ad (k + 1))) (C := rnR) (T := tbR) (N := 3) hx hb hts inR hown hK hP k h0 rfl 0 (by decide) (hts _ tw_126) (fun _ h9 => h9) rfl dR_add_26 ?_
        refine va_alen (v := 30) hx hb hK hP (k + 1) 0 h1 hI (by rfl) dR_add_29 ?_
        refine lv_icmp_lt (tgt := 34) hx hb dR_add_30 (by decide) (fun c30 => ?_) (fun c30 => ?_)
        · refine lv_aload_n hx hb dR_add_34 rfl (lv_at hl 0 rfl) ?_
          refine va_get (D := D) (cl := xCl) (ci := 2) (v := .ref (ad (k + 1))) (C := rnR) (T := tbR) (N := 3) hx hb hts inR hown hK hP k h0 rfl 0 (by decide) (hts _ tw_126) (fun _ h9 => h9) rfl dR_add_35 ?_
          refine lv_aload_n hx hb dR_add_38 rfl (lv_at hl 0 rfl) ?_
          refine va_get (D := D) (cl := xCl) (ci := 2) (v := .int (nI L.length)) (C := rnR) (T := tbR) (N := 3) hx hb hts inR hown hK hP k h0 rfl 1 (by decide) (hts _ tw_127) (fun _ h9 => h9) rfl dR_add_39 ?_
          refine lv_iload_n hx hb dR_add_42 rfl (lv_at hl 1 rfl) ?_
          refine va_iast hx hb hK hP hD hS (k + 1) 0 h1 hI (vp_in_nI hll (by omega)) dR_add_43 (fun H locs hP hD hS => ?_)
          obtain ⟨ws_4, hu_3, hP, hD⟩ := x_gen h1 hP hD
          have h_5 : ws_4[k + 1]? = some (ad (k + 1), .inl (cI, 30, .inl (upd f ((nI L.length)).toNatClampNeg t))) := hu_3.1
          have h_6 := (hu_3.2 k (by omega)).trans h0
          refine lv_aload_n hx hb dR_add_44 rfl (lv_at hl 0 rfl) ?_
          refine lv_dup hx hb dR_add_45 rfl ?_
          refine va_get (D := D) (cl := xCl) (ci := 2) (v := .int (nI L.length)) (C := rnR) (T := tbR) (N := 3) hx hb hts inR hown hK hP k h_6 rfl 1 (by decide) (hts _ tw_127) (fun _ h9 => h9) rfl dR_add_46 ?_
          refine lv_iconst (v := 1) hx hb dR_add_49 (by decide) ?_
          refine lv_iadd hx hb dR_add_50 ?_
          refine lv_topi (fun v_7 ev_7 => ?_)
          refine va_put (D := D) (cl := xCl) (ci := 2) (v := .int v_7) (ty := .int) (C := rnR) (T := tbR) (N := 3) hx hb hts inR tyR toR nmR hown hK hP hD hS k h_6 rfl 1 (by decide) (hts _ tw_127) (fun _ h9 => h9) rfl (by decide +kernel) rfl rfl (Nat.le_of_ble_eq_true rfl) dR_add_51 (fun H locs hP hD hS => ?_)
          obtain ⟨ws_9, hu_8, hP, hD⟩ := x_gen h_6 hP hD
          have h_10 : ws_9[k]? = some (ad k, .inr (2, [.ref (ad (k + 1)), .int v_7, .int mk])) := hu_8.1
          have h_11 := (hu_8.2 (k + 1) (by omega)).trans h_5
          refine lv_aload_n hx hb dR_add_54 rfl (lv_at hl 0 rfl) ?_
          refine lv_dup hx hb dR_add_55 rfl ?_
          refine va_get (D := D) (cl := xCl) (ci := 2) (v := .int mk) (C := rnR) (T := tbR) (N := 3) hx hb hts inR hown hK hP k h_10 rfl 2 (by decide) (hts _ tw_128) (fun _ h9 => h9) rfl dR_add_56 ?_
          refine lv_iconst (v := 1) hx hb dR_add_59 (by decide) ?_
          refine lv_iload_n hx hb dR_add_60 rfl (lv_at hl 1 rfl) ?_
          refine lv_ishl hx hb dR_add_61 ?_
          refine lv_topi (fun v_12 ev_12 => ?_)
          refine lv_ior hx hb dR_add_62 ?_
          refine lv_topi (fun v_13 ev_13 => ?_)
          refine va_put (D := D) (cl := xCl) (ci := 2) (v := .int v_13) (ty := .int) (C := rnR) (T := tbR) (N := 3) hx hb hts inR tyR toR nmR hown hK hP hD hS k h_10 rfl 2 (by decide) (hts _ tw_128) (fun _ h9 => h9) rfl (by decide +kernel) rfl rfl (Nat.le_of_ble_eq_true rfl) dR_add_63 (fun H locs hP hD hS => ?_)
          obtain ⟨ws_15, hu_14, hP, hD⟩ := x_gen h_10 hP hD
          have h_16 : ws_15[k]? = some (ad k, .inr (2, [.ref (ad (k + 1)), .int v_7, .int v_13])) := hu_14.1
          have h_17 := (hu_14.2 (k + 1) (by omega)).trans h_11
          exact x_vret hx hb hr hlk hK hP hD hS dR_add_66 ⟨(fun j a1 a2 => ((hu_14.2 j a1).trans ((hu_8.2 j a1).trans (hu_3.2 j a2)))), RowAt.push h_16 h_17 ev_7 rfl (by rw [ev_13, ev_12]) et hj hjL hf hm hn hlt⟩
        · exact absurd (nI_lt hll (by omega)) c30
end
section
set_option maxHeartbeats 4000000 in
set_option maxRecDepth 100000 in
/-- Row.addAll(other) -/
theorem cR_addAll (l : Launch) (D : va_G) (tys : List (ClassId × FieldType)) (A : Nat → Prop) (ws : va_W) (cI : ClassId) (hI : tys[0]? = some (cI, .int)) (ad : Nat → Nat) (k k2 : Nat) (L M : List Nat) (a1 : k2 ≠ k) (a2 : k2 ≠ k + 1) (a3 : k2 + 1 ≠ k) (h : RowAt cI ad ws k L) (hM : RowAt cI ad ws k2 M) : x_Mv l yR_addAll wR_addAll (xR 2) D xCl tys A [.ref (ad k), .ref (ad k2)] ws (fun ws1 => x_two k ws ws1 ∧ RowAt cI ad ws1 k (addL L M)) := by
  refine x_enter (by decide) rfl (Nat.le_of_ble_eq_true rfl) (fun p e s m args below meth c ls hx hb hr hlk hml hown hnm hts hK hP hD hS hA hN hl => ?_)
  have hl : lv_has ls 3 [(0, .ref (ad k)), (1, .ref (ad k2))] := hl
  have loop_2 : ∀ (n : Nat) (i : Nat) (hi : i ≤ M.length) (ws1 : va_W) (H : Heap) (locs : List Loc) (ls : Array Slot), x_two k ws ws1 → RowAt cI ad ws1 k ((M.take i).foldl addN L) → RowAt cI ad ws1 k2 M → M.length - i < n → va_P D xCl ws1 H → va_D A ws1 → va_S A s.heap H locs → lv_has ls 3 [(0, .ref (ad k)), (1, .ref (ad k2)), (2, .int (nI i))] → W p l e (xR 2) s m args below meth c H locs 0 0 (MQ below (va_Qv (fun ws1 => x_two k ws ws1 ∧ RowAt cI ad ws1 k (addL L M)) (x_B D xCl tys A) A) args s 0 0 A) (F0 m 2 ls []) := by
    intro n
    induction n with
    | zero => intro i hi ws1 H locs ls hT hrow hM hme; exact absurd hme (Nat.not_lt_zero _)
    | succ n ih =>
      intro i hi ws1 H locs ls hT hrow hM hme hP hD hS hl
      have hle := hM.le
      obtain ⟨fsM, hMo⟩ := hM.obj
      obtain ⟨fsR, hRo⟩ := hrow.obj
      obtain ⟨f1, hR⟩ := id hrow
      refine lv_iload_n hx hb dR_addAll_2 rfl (lv_at hl 2 rfl) ?_
      refine lv_aload_n hx hb dR_addAll_3 rfl (lv_at hl 1 rfl) ?_
      refine x_calli (x_runV (n := 0) (As := []) (rest := [.int (nI i)]) ⟨hx, hb, hml, hown, hts⟩ (cR_size l D tys A ws1 cI hI ad k2 M hM) tw_442 tw_443 tw_444 tw_7 tw_445 (by decide +kernel) rfl rfl ⟨by decide, by decide⟩ ⟨Nat.zero_le _, Nat.zero_le _⟩ (va_recv hK hP (ci := 2) (q0 := k2) rfl hMo) hK hP hD hS hA hN rfl hl.1 rfl (lv_room (Nat.le_of_ble_eq_true rfl)) dR_addAll_4) hS (fun r_2 ws_1 H locs hz hP hD hS => ?_)
      obtain ⟨hz, rfl⟩ := hz
      refine lv_icmp_ge (tgt := 25) hx hb dR_addAll_7 (by decide) (fun c7 => ?_) (fun c7 => ?_)
      · exact x_vret hx hb hr hlk hK hP hD hS dR_addAll_25 ⟨hT, by have e : i = M.length := Nat.le_antisymm hi (by have := hM.le; rw [hz, nI_leI (by omega) (by omega)] at c7; exact c7); rw [e, List.take_length] at hrow; exact hrow⟩
      · have hi2 : i < M.length := by rw [hz, nI_leI (by omega) (by omega)] at c7; omega
        refine lv_aload_n hx hb dR_addAll_10 rfl (lv_at hl 0 rfl) ?_
        refine lv_aload_n hx hb dR_addAll_11 rfl (lv_at hl 1 rfl) ?_
        refine lv_iload_n hx hb dR_addAll_12 rfl (lv_at hl 2 rfl) ?_
        refine x_calli (x_runV (n := 1) (As := [.int (nI i)]) (rest := [.ref (ad k)]) ⟨hx, hb, hml, hown, hts⟩ (cR_at l D tys A ws1 cI hI ad k2 M ((nI i)) hM) tw_446 tw_447 tw_448 tw_7 tw_449 (by decide +kernel) rfl rfl ⟨by decide, by decide⟩ ⟨Nat.zero_le _, Nat.zero_le _⟩ (va_recv hK hP (ci := 2) (q0 := k2) rfl hMo) hK hP hD hS hA hN rfl hl.1 rfl (lv_room (Nat.le_of_ble_eq_true rfl)) dR_addAll_13) hS (fun ra ws_3 H locs ha hP hD hS => ?_)
        obtain ⟨ha, rfl⟩ := ha
        refine x_callv (x_runV (n := 1) (As := [.int ra]) (rest := []) ⟨hx, hb, hml, hown, hts⟩ (cR_add l D tys A ws1 cI hI ad k _ ra f1 hR) tw_450 tw_451 tw_452 tw_7 tw_453 (by decide +kernel) rfl rfl ⟨by decide, by decide⟩ ⟨Nat.zero_le _, Nat.zero_le _⟩ (va_recv hK hP (ci := 2) (q0 := k) rfl hRo) hK hP hD hS hA hN rfl hl.1 rfl (lv_room (Nat.le_of_ble_eq_true rfl)) dR_addAll_16) hS (fun ws_4 H locs hadd hP hD hS => ?_)
        obtain ⟨ht2, f9, hr2, -⟩ := hadd
        refine lv_iinc (v := (nI (i + 1))) (lv' := [(2, .int (nI (i + 1))), (0, .ref (ad k)), (1, .ref (ad k2))]) hx hb dR_addAll_19 hl (k := 2) rfl (nI_1 _) (by decide) rfl (fun ls hl => ?_)
        refine lv_goto (tgt := 2) hx hb dR_addAll_22 (by decide) ?_
        exact ih (i + 1) (by omega) ws_4 _ _ _ (hT.tr ht2) (by rw [take_foldl addN L M hi2, ← addI_N _ (hM.lt _ (List.getElem_mem hi2)), ← atI_nI hi2 (by omega), ← ha]; exact ⟨_, hr2⟩) (hM.keep ht2 a1 a2 a3) (by omega) hP hD hS (lv_sub hl [1, 2, 0] rfl)
  refine lv_iconst (v := 0) hx hb dR_addAll_0 (by decide) ?_
  refine lv_istore_n (lv' := [(2, .int 0), (0, .ref (ad k)), (1, .ref (ad k2))]) hx hb dR_addAll_1 rfl hl (by decide) rfl (fun ls hl => ?_)
  exact loop_2 _ 0 (Nat.zero_le _) ws _ _ _ x_two.rf h hM (Nat.lt_succ_self _) hP hD hS (lv_sub hl [1, 2, 0] rfl)

/-- those of a mask below n, added one by one -/
def addM (L : List Nat) (w : Int32) : Nat → List Nat
  | 0 => L
  | n + 1 => if bt w n = true then addN (addM L w n) n else addM L w n

set_option maxHeartbeats 4000000 in
set_option maxRecDepth 100000 in
/-- Row.addByNumbers(mask) -/
theorem cR_addByNumbers (l : Launch) (D : va_G) (tys : List (ClassId × FieldType)) (A : Nat → Prop) (ws : va_W) (cI : ClassId) (hI : tys[0]? = some (cI, .int)) (ad : Nat → Nat) (k : Nat) (L : List Nat) (w : Int32) (h : RowAt cI ad ws k L) : x_Mv l yR_addByNumbers wR_addByNumbers (xR 2) D xCl tys A [.ref (ad k), .int w] ws (fun ws1 => x_two k ws ws1 ∧ RowAt cI ad ws1 k (addM L w 30)) := by
  refine x_enter (by decide) rfl (Nat.le_of_ble_eq_true rfl) (fun p e s m args below meth c ls hx hb hr hlk hml hown hnm hts hK hP hD hS hA hN hl => ?_)
  have hl : lv_has ls 3 [(0, .ref (ad k)), (1, .int w)] := hl
  have loop_2 : ∀ (n : Nat) (i : Nat) (hi : i ≤ 30) (ws1 : va_W) (H : Heap) (locs : List Loc) (ls : Array Slot), x_two k ws ws1 → RowAt cI ad ws1 k (addM L w i) → 30 - i < n → va_P D xCl ws1 H → va_D A ws1 → va_S A s.heap H locs → lv_has ls 3 [(0, .ref (ad k)), (1, .int w), (2, .int (nI i))] → W p l e (xR 2) s m args below meth c H locs 0 0 (MQ below (va_Qv (fun ws1 => x_two k ws ws1 ∧ RowAt cI ad ws1 k (addM L w 30)) (x_B D xCl tys A) A) args s 0 0 A) (F0 m 2 ls []) := by
    intro n
    induction n with
    | zero => intro i hi ws1 H locs ls hT hrow hme; exact absurd hme (Nat.not_lt_zero _)
    | succ n ih =>
      intro i hi ws1 H locs ls hT hrow hme hP hD hS hl
      obtain ⟨fsR, hRo⟩ := hrow.obj
      obtain ⟨f1, hR⟩ := id hrow
      refine lv_iload_n hx hb dR_addByNumbers_2 rfl (lv_at hl 2 rfl) ?_
      refine lv_bipush (v := 30) hx hb dR_addByNumbers_3 (by decide) ?_
      refine lv_icmp_ge (tgt := 27) hx hb dR_addByNumbers_5 (by decide) (fun c5 => ?_) (fun c5 => ?_)
      · exact x_vret hx hb hr hlk hK hP hD hS dR_addByNumbers_27 ⟨hT, by have e : i = 30 := (by have c5 : nI 30 ≤ nI i := c5; rw [nI_leI (by omega) (by omega)] at c5; omega); rw [e] at hrow; exact hrow⟩
      · have hi2 : i < 30 := by have c5 : ¬ nI 30 ≤ nI i := c5; rw [nI_leI (by omega) (by omega)] at c5; omega
        refine lv_iload_n hx hb dR_addByNumbers_8 rfl (lv_at hl 1 rfl) ?_
        refine lv_iload_n hx hb dR_addByNumbers_9 rfl (lv_at hl 2 rfl) ?_
        refine x_calli (x_runSN (n := 2) (As := [.int w, .int (nI i)]) (rest := []) ⟨hx, hb, hml, hown, hts⟩ (cQ_isIn l D tys A ws1 w (nI i)) (xN_454 hN) tw_190 tw_1 tw_191 (by decide +kernel) rfl rfl ⟨by decide, by decide⟩ ⟨Nat.zero_le _, Nat.zero_le _⟩ hK hP hD hS hA hN rfl hl.1 rfl (lv_room (Nat.le_of_ble_eq_true rfl)) dR_addByNumbers_10) hS (fun rb ws_1 H locs hb1 hP hD hS => ?_)
        obtain ⟨hb1, rfl⟩ := hb1
        refine lv_if_eq (tgt := 21) hx hb dR_addByNumbers_13 (by decide) (fun c13 => ?_) (fun c13 => ?_)
        · refine lv_iinc (v := (nI (i + 1))) (lv' := [(2, .int (nI (i + 1))), (0, .ref (ad k)), (1, .int w)]) hx hb dR_addByNumbers_21 hl (k := 2) rfl (nI_1 _) (by decide) rfl (fun ls hl => ?_)
          refine lv_goto (tgt := 2) hx hb dR_addByNumbers_24 (by decide) ?_
          exact ih (i + 1) (by omega) ws1 _ _ _ hT (by have e : addM L w (i + 1) = addM L w i := (by rw [hb1, isIn_nI w hi2, b2i_0] at c13; show (if bt w i = true then _ else _) = _; rw [c13]; rfl); rw [e]; exact hrow) (by omega) hP hD hS (lv_sub hl [1, 2, 0] rfl)
        · refine lv_aload_n hx hb dR_addByNumbers_16 rfl (lv_at hl 0 rfl) ?_
          refine lv_iload_n hx hb dR_addByNumbers_17 rfl (lv_at hl 2 rfl) ?_
          refine x_callv (x_runV (n := 1) (As := [.int (nI i)]) (rest := []) ⟨hx, hb, hml, hown, hts⟩ (cR_add l D tys A ws1 cI hI ad k _ ((nI i)) f1 hR) tw_450 tw_451 tw_452 tw_7 tw_453 (by decide +kernel) rfl rfl ⟨by decide, by decide⟩ ⟨Nat.zero_le _, Nat.zero_le _⟩ (va_recv hK hP (ci := 2) (q0 := k) rfl hRo) hK hP hD hS hA hN rfl hl.1 rfl (lv_room (Nat.le_of_ble_eq_true rfl)) dR_addByNumbers_18) hS (fun ws_2 H locs hadd hP hD hS => ?_)
          obtain ⟨ht2, f9, hr2, -⟩ := hadd
          refine lv_iinc (v := (nI (i + 1))) (lv' := [(2, .int (nI (i + 1))), (0, .ref (ad k)), (1, .int w)]) hx hb dR_addByNumbers_21 hl (k := 2) rfl (nI_1 _) (by decide) rfl (fun ls hl => ?_)
          refine lv_goto (tgt := 2) hx hb dR_addByNumbers_24 (by decide) ?_
          exact ih (i + 1) (by omega) ws_2 _ _ _ (hT.tr ht2) (by have e : addM L w (i + 1) = addI (addM L w i) (nI i) := (by rw [hb1, isIn_nI w hi2, b2i_n0] at c13; rw [addI_N _ hi2]; show (if bt w i = true then _ else _) = _; rw [c13]; rfl); rw [e]; exact ⟨_, hr2⟩) (by omega) hP hD hS (lv_sub hl [1, 2, 0] rfl)
  refine lv_iconst (v := 0) hx hb dR_addByNumbers_0 (by decide) ?_
  refine lv_istore_n (lv' := [(2, .int 0), (0, .ref (ad k)), (1, .int w)]) hx hb dR_addByNumbers_1 rfl hl (by decide) rfl (fun ls hl => ?_)
  exact loop_2 _ 0 (Nat.zero_le _) ws _ _ _ x_two.rf h (Nat.lt_succ_self _) hP hD hS (lv_sub hl [1, 2, 0] rfl)

theorem addL_nil {M : List Nat} (h : M.Nodup) : addL [] M = M := by
  have key : ∀ (M N : List Nat), (N ++ M).Nodup → M.foldl addN N = N ++ M := by
    intro M
    induction M with
    | nil => intro N _; simp
    | cons a t ih =>
      intro N hn
      have ha : a ∉ N := fun hm => (List.nodup_append.mp hn).2.2 a hm a List.mem_cons_self rfl
      rw [List.foldl_cons, show addN N a = N ++ [a] from if_neg ha, ih (N ++ [a]) (by simpa using hn)]
      simp
  exact key M [] h

set_option maxHeartbeats 4000000 in
set_option maxRecDepth 100000 in
/-- Row.copy(other) -/
theorem cR_copy (l : Launch) (D : va_G) (tys : List (ClassId × FieldType)) (A : Nat → Prop) (ws : va_W) (cI : ClassId) (hI : tys[0]? = some (cI, .int)) (ad : Nat → Nat) (k k2 : Nat) (L M : List Nat) (a1 : k2 ≠ k) (a2 : k2 ≠ k + 1) (a3 : k2 + 1 ≠ k) (h : RowAt cI ad ws k L) (hM : RowAt cI ad ws k2 M) : x_Mv l yR_copy wR_copy (xR 3) D xCl tys A [.ref (ad k), .ref (ad k2)] ws (fun ws1 => x_two k ws ws1 ∧ RowAt cI ad ws1 k M) := by
  obtain ⟨fsR, hRo⟩ := h.obj
  obtain ⟨f1, hR⟩ := h
  refine x_enter (by decide) rfl (Nat.le_of_ble_eq_true rfl) (fun p e s m args below meth c ls hx hb hr hlk hml hown hnm hts hK hP hD hS hA hN hl => ?_)
  have hl : lv_has ls 2 [(0, .ref (ad k)), (1, .ref (ad k2))] := hl
  refine lv_aload_n hx hb dR_copy_0 rfl (lv_at hl 0 rfl) ?_
  refine x_callv (x_runV (n := 0) (As := []) (rest := []) ⟨hx, hb, hml, hown, hts⟩ (cR_clear l D tys A ws cI hI ad k L f1 hR) tw_434 tw_435 tw_436 tw_7 tw_437 (by decide +kernel) rfl rfl ⟨by decide, by decide⟩ ⟨Nat.zero_le _, Nat.zero_le _⟩ (va_recv hK hP (ci := 2) (q0 := k) rfl hRo) hK hP hD hS hA hN rfl hl.1 rfl (lv_room (Nat.le_of_ble_eq_true rfl)) dR_copy_1) hS (fun ws_1 H locs hcl hP hD hS => ?_)
  obtain ⟨ht1, hr1⟩ := hcl
  have hM := hM.keep ht1 a1 a2 a3
  obtain ⟨fsR, hRo⟩ := RowAt.obj ⟨_, hr1⟩
  refine lv_aload_n hx hb dR_copy_4 rfl (lv_at hl 0 rfl) ?_
  refine lv_aload_n hx hb dR_copy_5 rfl (lv_at hl 1 rfl) ?_
  refine x_callv (x_runV (n := 1) (As := [.ref (ad k2)]) (rest := []) ⟨hx, hb, hml, hown, hts⟩ (cR_addAll l D tys A ws_1 cI hI ad k k2 [] M a1 a2 a3 ⟨_, hr1⟩ hM) tw_438 tw_439 tw_440 tw_7 tw_441 (by decide +kernel) rfl rfl ⟨by decide, by decide⟩ ⟨Nat.zero_le _, Nat.zero_le _⟩ (va_recv hK hP (ci := 2) (q0 := k) rfl hRo) hK hP hD hS hA hN rfl hl.1 rfl (lv_room (Nat.le_of_ble_eq_true rfl)) dR_copy_6) hS (fun ws_2 H locs hal hP hD hS => ?_)
  obtain ⟨ht2, hr2⟩ := hal
  exact x_vret hx hb hr hlk hK hP hD hS dR_copy_9 ⟨ht1.tr ht2, by rw [addL_nil hM.nd] at hr2; exact hr2⟩
end
section
theorem nodup_take {L : List Nat} (h : L.Nodup) {i : Nat} (hi : i < L.length) : L[i] ∉ L.take i := by
  intro hm
  have e : L = L.take i ++ (L[i] :: L.drop (i + 1)) := by rw [← List.drop_eq_getElem_cons hi, List.take_append_drop]
  rw [e] at h
  have := (List.nodup_append.mp h).2.2 L[i] hm L[i] List.mem_cons_self
  exact this rfl
def fm (w : Int32) (L : List Nat) : List Nat := L.filter (fun t => bt w t)
theorem fm_f {w : Int32} {L : List Nat} {i : Nat} (hi : i < L.length) (h : bt w L[i] = false) : fm w (L.take (i + 1)) = fm w (L.take i) := by
  unfold fm
  rw [List.take_succ_eq_append_getElem hi, List.filter_append, List.filter_cons, h]; simp
theorem fm_t {w : Int32} {L : List Nat} {i : Nat} (hi : i < L.length) (hn : L.Nodup) (h : bt w L[i] = true) (h30 : L[i] < 30) : fm w (L.take (i + 1)) = addI (fm w (L.take i)) (nI L[i]) := by
  rw [addI_nI _ h30, if_neg (show L[i] ∉ fm w (L.take i) from fun hm => nodup_take hn hi (List.mem_filter.mp hm).1)]
  unfold fm
  rw [List.take_succ_eq_append_getElem hi, List.filter_append, List.filter_cons, h]; simp
theorem fm_len (w : Int32) (L : List Nat) (i : Nat) : (fm w (L.take i)).length ≤ i := by
  unfold fm
  exact Nat.le_trans (List.length_filter_le _ _) (by rw [List.length_take]; omega)

set_option maxHeartbeats 4000000 in
set_option maxRecDepth 100000 in
/-- Row.keep(mask) -/
theorem cR_keep (l : Launch) (D : va_G) (tys : List (ClassId × FieldType)) (A : Nat → Prop) (ws : va_W) (cI : ClassId) (hI : tys[0]? = some (cI, .int)) (ad : Nat → Nat) (k : Nat) (L : List Nat) (w : Int32) (h : RowAt cI ad ws k L) : x_Mv l yR_keep wR_keep (xR 2) D xCl tys A [.ref (ad k), .int w] ws (fun ws1 => x_two k ws ws1 ∧ RowAt cI ad ws1 k (fm w L)) := by
  have hle := h.le
  obtain ⟨f, hR⟩ := h
  obtain ⟨mk, h0, h1, hf, hm, hn, hlt⟩ := id hR
  refine x_enter (by decide) rfl (Nat.le_of_ble_eq_true rfl) (fun p e s m args below meth c ls hx hb hr hlk hml hown hnm hts hK hP hD hS hA hN hl => ?_)
  have hl : lv_has ls 4 [(0, .ref (ad k)), (1, .int w)] := hl
  have loop_11 : ∀ (n : Nat) (i : Nat) (hi : i ≤ L.length) (gg : Nat → Int32) (ws1 : va_W) (H : Heap) (locs : List Loc) (ls : Array Slot), x_two k ws ws1 → RowF cI ad ws1 k (fm w (L.take i)) gg → (∀ (x : Nat), i ≤ x → ∀ (h : x < L.length), gg x = nI L[x]) → L.length - i < n → va_P D xCl ws1 H → va_D A ws1 → va_S A s.heap H locs → lv_has ls 4 [(0, .ref (ad k)), (1, .int w), (2, .int (nI L.length)), (3, .int (nI i))] → W p l e (xR 2) s m args below meth c H locs 0 0 (MQ below (va_Qv (fun ws1 => x_two k ws ws1 ∧ RowAt cI ad ws1 k (fm w L)) (x_B D xCl tys A) A) args s 0 0 A) (F0 m 11 ls []) := by
    intro n
    induction n with
    | zero => intro i hi gg ws1 H locs ls hT hR hg hme; exact absurd hme (Nat.not_lt_zero _)
    | succ n ih =>
      intro i hi gg ws1 H locs ls hT hR hg hme hP hD hS hl
      refine lv_iload_n hx hb dR_keep_11 rfl (lv_at hl 3 rfl) ?_
      refine lv_iload_n hx hb dR_keep_12 rfl (lv_at hl 2 rfl) ?_
      refine lv_icmp_ge (tgt := 54) hx hb dR_keep_13 (by decide) (fun c13 => ?_) (fun c13 => ?_)
      · exact x_vret hx hb hr hlk hK hP hD hS dR_keep_54 ⟨hT, by have e : i = L.length := (by rw [nI_leI (by omega) (by omega)] at c13; omega); rw [e, List.take_length] at hR; exact ⟨_, hR⟩⟩
      · have hi2 : i < L.length := by rw [nI_leI (by omega) (by omega)] at c13; omega
        have h30 : L[i] < 30 := hlt _ (List.getElem_mem hi2)
        obtain ⟨mk1, hq0, hq1, hq2⟩ := id hR
        refine lv_iload_n hx hb dR_keep_16 rfl (lv_at hl 3 rfl) ?_
        refine lv_aload_n hx hb dR_keep_17 rfl (lv_at hl 0 rfl) ?_
        refine va_get (D := D) (cl := xCl) (ci := 2) (v := .ref (ad (k + 1))) (C := rnR) (T := tbR) (N := 3) hx hb hts inR hown hK hP k hq0 rfl 0 (by decide) (hts _ tw_126) (fun _ h9 => h9) rfl dR_keep_18 ?_
        refine va_alen (v := 30) hx hb hK hP (k + 1) 0 hq1 hI (by rfl) dR_keep_21 ?_
        refine lv_icmp_ge (tgt := 54) hx hb dR_keep_22 (by decide) (fun c22 => ?_) (fun c22 => ?_)
        · exact absurd ((nI_leI (a := 30) (by omega) (by omega)).mp c22) (by omega)
        · refine lv_iload_n hx hb dR_keep_25 rfl (lv_at hl 1 rfl) ?_
          refine lv_aload_n hx hb dR_keep_26 rfl (lv_at hl 0 rfl) ?_
          refine va_get (D := D) (cl := xCl) (ci := 2) (v := .ref (ad (k + 1))) (C := rnR) (T := tbR) (N := 3) hx hb hts inR hown hK hP k hq0 rfl 0 (by decide) (hts _ tw_126) (fun _ h9 => h9) rfl dR_keep_27 ?_
          refine lv_iload_n hx hb dR_keep_30 rfl (lv_at hl 3 rfl) ?_
          refine va_iald hx hb hK hP (k + 1) 0 hq1 hI (vp_in_nI (by omega) (by omega)) dR_keep_31 ?_
          refine lv_topi (fun v_1 ev_1 => ?_)
          have hv_1 : v_1 = nI L[i] := by rw [ev_1, nI_clamp (by omega)]; exact hg i (Nat.le_refl i) hi2
          refine x_calli (x_runSN (n := 2) (As := [.int w, .int v_1]) (rest := []) ⟨hx, hb, hml, hown, hts⟩ (cQ_isIn l D tys A ws1 w v_1) (xN_454 hN) tw_190 tw_1 tw_191 (by decide +kernel) rfl rfl ⟨by decide, by decide⟩ ⟨Nat.zero_le _, Nat.zero_le _⟩ hK hP hD hS hA hN rfl hl.1 rfl (lv_room (Nat.le_of_ble_eq_true rfl)) dR_keep_32) hS (fun rb ws_2 H locs hb1 hP hD hS => ?_)
          obtain ⟨hb1, rfl⟩ := hb1
          refine lv_if_eq (tgt := 48) hx hb dR_keep_35 (by decide) (fun c35 => ?_) (fun c35 => ?_)
          · refine lv_iinc (v := (nI (i + 1))) (lv' := [(3, .int (nI (i + 1))), (0, .ref (ad k)), (1, .int w), (2, .int (nI L.length))]) hx hb dR_keep_48 hl (k := 3) rfl (nI_1 _) (by decide) rfl (fun ls hl => ?_)
            refine lv_goto (tgt := 11) hx hb dR_keep_51 (by decide) ?_
            exact ih (i + 1) (by omega) gg ws1 _ _ _ hT (by rw [hb1, hv_1, isIn_nI w h30, b2i_0] at c35; rw [fm_f hi2 c35]; exact hR) (fun x hx hx2 => hg x (by omega) hx2) (by omega) hP hD hS (lv_sub hl [1, 2, 3, 0] rfl)
          · refine lv_aload_n hx hb dR_keep_38 rfl (lv_at hl 0 rfl) ?_
            refine lv_aload_n hx hb dR_keep_39 rfl (lv_at hl 0 rfl) ?_
            refine va_get (D := D) (cl := xCl) (ci := 2) (v := .ref (ad (k + 1))) (C := rnR) (T := tbR) (N := 3) hx hb hts inR hown hK hP k hq0 rfl 0 (by decide) (hts _ tw_126) (fun _ h9 => h9) rfl dR_keep_40 ?_
            refine lv_iload_n hx hb dR_keep_43 rfl (lv_at hl 3 rfl) ?_
            refine va_iald hx hb hK hP (k + 1) 0 hq1 hI (vp_in_nI (by omega) (by omega)) dR_keep_44 ?_
            refine lv_topi (fun v_3 ev_3 => ?_)
            have hv_3 : v_3 = nI L[i] := by rw [ev_3, nI_clamp (by omega)]; exact hg i (Nat.le_refl i) hi2
            refine x_callv (x_runV (n := 1) (As := [.int v_3]) (rest := []) ⟨hx, hb, hml, hown, hts⟩ (cR_add l D tys A ws1 cI hI ad k _ v_3 gg hR) tw_450 tw_451 tw_452 tw_7 tw_453 (by decide +kernel) rfl rfl ⟨by decide, by decide⟩ ⟨Nat.zero_le _, Nat.zero_le _⟩ (va_recv hK hP (ci := 2) (q0 := k) rfl hq0) hK hP hD hS hA hN rfl hl.1 rfl (lv_room (Nat.le_of_ble_eq_true rfl)) dR_keep_45) hS (fun ws_4 H locs hadd hP hD hS => ?_)
            obtain ⟨ht2, f9, hr2, hf9⟩ := hadd
            refine lv_iinc (v := (nI (i + 1))) (lv' := [(3, .int (nI (i + 1))), (0, .ref (ad k)), (1, .int w), (2, .int (nI L.length))]) hx hb dR_keep_48 hl (k := 3) rfl (nI_1 _) (by decide) rfl (fun ls hl => ?_)
            refine lv_goto (tgt := 11) hx hb dR_keep_51 (by decide) ?_
            exact ih (i + 1) (by omega) f9 ws_4 _ _ _ (hT.tr ht2) (by rw [hb1, hv_1, isIn_nI w h30, b2i_n0] at c35; rw [fm_t hi2 hn c35 h30, ← hv_3]; exact hr2) (fun x hx hx2 => by have := fm_len w L i; rw [hf9 x (by omega)]; exact hg x (by omega) hx2) (by omega) hP hD hS (lv_sub hl [1, 2, 3, 0] rfl)
  refine lv_aload_n hx hb dR_keep_0 rfl (lv_at hl 0 rfl) ?_
  refine va_get (D := D) (cl := xCl) (ci := 2) (v := .int (nI L.length)) (C := rnR) (T := tbR) (N := 3) hx hb hts inR hown hK hP k h0 rfl 1 (by decide) (hts _ tw_127) (fun _ h9 => h9) rfl dR_keep_1 ?_
  refine lv_istore_n (lv' := [(2, .int (nI L.length)), (0, .ref (ad k)), (1, .int w)]) hx hb dR_keep_4 rfl hl (by decide) rfl (fun ls hl => ?_)
  refine lv_aload_n hx hb dR_keep_5 rfl (lv_at hl 1 rfl) ?_
  refine x_callv (x_runV (n := 0) (As := []) (rest := []) ⟨hx, hb, hml, hown, hts⟩ (cR_clear l D tys A ws cI hI ad k L f hR) tw_434 tw_435 tw_436 tw_7 tw_437 (by decide +kernel) rfl rfl ⟨by decide, by decide⟩ ⟨Nat.zero_le _, Nat.zero_le _⟩ (va_recv hK hP (ci := 2) (q0 := k) rfl h0) hK hP hD hS hA hN rfl hl.1 rfl (lv_room (Nat.le_of_ble_eq_true rfl)) dR_keep_6) hS (fun ws_5 H locs hcl hP hD hS => ?_)
  obtain ⟨ht1, hr1⟩ := hcl
  refine lv_iconst (v := 0) hx hb dR_keep_9 (by decide) ?_
  refine lv_istore_n (lv' := [(3, .int 0), (2, .int (nI L.length)), (0, .ref (ad k)), (1, .int w)]) hx hb dR_keep_10 rfl hl (by decide) rfl (fun ls hl => ?_)
  exact loop_11 _ 0 (Nat.zero_le _) f ws_5 _ _ _ ht1 (by rw [List.take_zero]; exact hr1) (fun x _ hx => hf x hx) (Nat.lt_succ_self _) hP hD hS (lv_sub hl [2, 3, 1, 0] rfl)

theorem nodup_rev {L : List Nat} (h : L.Nodup) : L.reverse.Nodup := by
  unfold List.Nodup at *
  rw [List.pairwise_reverse]
  exact h.imp (fun h => Ne.symm h)
/-- an array half turned round: i places at each end -/
def revH (L : List Nat) (i : Nat) (g : Nat → Int32) : Prop := ∀ (x : Nat) (h : x < L.length), g x = if x < i ∨ L.length ≤ x + i then nI (L[L.length - 1 - x]) else nI L[x]
theorem revH_0 {L : List Nat} {f : Nat → Int32} (h : ∀ (i : Nat) (h : i < L.length), f i = nI L[i]) : revH L 0 f := by
  intro x hx
  rw [if_neg (by omega)]
  exact h x hx
theorem revH_s {L : List Nat} {i : Nat} {g : Nat → Int32} (h : revH L i g) (hi : 2 * i + 1 < L.length) {a b : Int32} (ea : a = g i) (eb : b = g (L.length - 1 - i)) : revH L (i + 1) (upd (upd g i b) (L.length - 1 - i) a) := by
  intro x hx
  unfold upd
  by_cases e1 : x = L.length - 1 - i
  · rw [if_pos e1, ea, h i (by omega), if_neg (by omega), if_pos (by omega)]
    congr 1
    congr 1
    omega
  · rw [if_neg e1]
    by_cases e2 : x = i
    · rw [if_pos e2, eb, h (L.length - 1 - i) (by omega), if_neg (by omega), if_pos (by omega)]
      subst e2
      rfl
    · rw [if_neg e2, h x hx]
      by_cases e3 : x < i ∨ L.length ≤ x + i
      · rw [if_pos e3, if_pos (by omega)]
      · rw [if_neg e3, if_neg (by omega)]
theorem revH_e {L : List Nat} {i : Nat} {g : Nat → Int32} (h : revH L i g) (hi : L.length ≤ 2 * i + 1) : ∀ (x : Nat) (hx : x < L.reverse.length), g x = nI L.reverse[x] := by
  intro x hx
  have hx2 : x < L.length := by rw [List.length_reverse] at hx; exact hx
  rw [h x hx2, List.getElem_reverse]
  by_cases e3 : x < i ∨ L.length ≤ x + i
  · rw [if_pos e3]
  · rw [if_neg e3]
    congr 1
    congr 1
    omega

theorem i32_eq_sub1 {x : Int32} (h : -1000 < x.toInt) (h2 : x.toInt < 1000) : (x + (-1)).toInt = x.toInt - 1 := by
  rw [Int32.toInt_add, show (-1 : Int32).toInt = -1 from rfl]
  exact Int.bmod_eq_of_le (by omega) (by omega)

set_option maxHeartbeats 4000000 in
set_option maxRecDepth 100000 in
/-- Row.reverse() -/
theorem cR_reverse (l : Launch) (D : va_G) (tys : List (ClassId × FieldType)) (A : Nat → Prop) (ws : va_W) (cI : ClassId) (hI : tys[0]? = some (cI, .int)) (ad : Nat → Nat) (k : Nat) (L : List Nat) (h : RowAt cI ad ws k L) : x_Mv l yR_reverse wR_reverse (xR 0) D xCl tys A [.ref (ad k)] ws (fun ws1 => x_two k ws ws1 ∧ RowAt cI ad ws1 k L.reverse) := by
  have hle := h.le
  obtain ⟨f, mk, h0, h1, hf, hm, hn, hlt⟩ := h
  refine x_enter (by decide) rfl (Nat.le_of_ble_eq_true rfl) (fun p e s m args below meth c ls hx hb hr hlk hml hown hnm hts hK hP hD hS hA hN hl => ?_)
  have hl : lv_has ls 4 [(0, .ref (ad k))] := hl
  have loop_9 : ∀ (n : Nat) (i : Nat) (hi : Int32) (gg : Nat → Int32) (ws1 : va_W) (H : Heap) (locs : List Loc) (ls : Array Slot), hi.toInt = (L.length : Int) - 1 - i → x_two k ws ws1 → ws1[k]? = some (ad k, .inr (2, [.ref (ad (k + 1)), .int (nI L.length), .int mk])) → ws1[k + 1]? = some (ad (k + 1), .inl (cI, 30, .inl gg)) → revH L i gg → 2 * i ≤ L.length + 1 → L.length - i < n → va_P D xCl ws1 H → va_D A ws1 → va_S A s.heap H locs → lv_has ls 4 [(0, .ref (ad k)), (1, .int (nI i)), (2, .int hi)] → W p l e (xR 0) s m args below meth c H locs 0 0 (MQ below (va_Qv (fun ws1 => x_two k ws ws1 ∧ RowAt cI ad ws1 k L.reverse) (x_B D xCl tys A) A) args s 0 0 A) (F0 m 9 ls []) := by
    intro n
    induction n with
    | zero => intro i hi gg ws1 H locs ls ehi hT hq0 hq1 hrev hi1 hme; exact absurd hme (Nat.not_lt_zero _)
    | succ n ih =>
      intro i hi gg ws1 H locs ls ehi hT hq0 hq1 hrev hi1 hme hP hD hS hl
      refine lv_iload_n hx hb dR_reverse_9 rfl (lv_at hl 1 rfl) ?_
      refine lv_if_lt (tgt := 62) hx hb dR_reverse_10 (by decide) (fun c10 => ?_) (fun c10 => ?_)
      · exact absurd c10 (nI_pos (by omega))
      · refine lv_iload_n hx hb dR_reverse_13 rfl (lv_at hl 1 rfl) ?_
        refine lv_iload_n hx hb dR_reverse_14 rfl (lv_at hl 2 rfl) ?_
        refine lv_icmp_ge (tgt := 62) hx hb dR_reverse_15 (by decide) (fun c15 => ?_) (fun c15 => ?_)
        · exact x_vret hx hb hr hlk hK hP hD hS dR_reverse_62 ⟨hT, gg, mk, (by rw [List.length_reverse]; exact hq0), hq1, revH_e hrev (by rw [i32_le, nI_toInt (by omega), ehi] at c15; omega), (fun x hx => by rw [hm x hx]; exact decide_eq_decide.mpr List.mem_reverse.symm), (nodup_rev hn), (fun t ht => hlt t (List.mem_reverse.mp ht))⟩
        · have hi2 : 2 * i + 1 < L.length := by rw [i32_le, nI_toInt (by omega), ehi] at c15; omega
          have ehi2 : hi = nI (L.length - 1 - i) := by rw [i32_eq, nI_toInt (by omega), ehi]; omega
          refine lv_iload_n hx hb dR_reverse_18 rfl (lv_at hl 2 rfl) ?_
          refine lv_aload_n hx hb dR_reverse_19 rfl (lv_at hl 0 rfl) ?_
          refine va_get (D := D) (cl := xCl) (ci := 2) (v := .ref (ad (k + 1))) (C := rnR) (T := tbR) (N := 3) hx hb hts inR hown hK hP k hq0 rfl 0 (by decide) (hts _ tw_126) (fun _ h9 => h9) rfl dR_reverse_20 ?_
          refine va_alen (v := 30) hx hb hK hP (k + 1) 0 hq1 hI (by rfl) dR_reverse_23 ?_
          refine lv_icmp_ge (tgt := 62) hx hb dR_reverse_24 (by decide) (fun c24 => ?_) (fun c24 => ?_)
          · exact absurd c24 (by rw [i32_le, ehi, i32_30]; omega)
          · refine lv_aload_n hx hb dR_reverse_27 rfl (lv_at hl 0 rfl) ?_
            refine va_get (D := D) (cl := xCl) (ci := 2) (v := .ref (ad (k + 1))) (C := rnR) (T := tbR) (N := 3) hx hb hts inR hown hK hP k hq0 rfl 0 (by decide) (hts _ tw_126) (fun _ h9 => h9) rfl dR_reverse_28 ?_
            refine lv_iload_n hx hb dR_reverse_31 rfl (lv_at hl 1 rfl) ?_
            refine va_iald hx hb hK hP (k + 1) 0 hq1 hI (vp_in_nI (by omega) (by omega)) dR_reverse_32 ?_
            refine lv_topi (fun v_1 ev_1 => ?_)
            refine lv_istore_n (lv' := [(3, .int v_1), (0, .ref (ad k)), (1, .int (nI i)), (2, .int hi)]) hx hb dR_reverse_33 rfl hl (by decide) rfl (fun ls hl => ?_)
            refine lv_aload_n hx hb dR_reverse_34 rfl (lv_at hl 1 rfl) ?_
            refine va_get (D := D) (cl := xCl) (ci := 2) (v := .ref (ad (k + 1))) (C := rnR) (T := tbR) (N := 3) hx hb hts inR hown hK hP k hq0 rfl 0 (by decide) (hts _ tw_126) (fun _ h9 => h9) rfl dR_reverse_35 ?_
            refine lv_iload_n hx hb dR_reverse_38 rfl (lv_at hl 2 rfl) ?_
            refine lv_aload_n hx hb dR_reverse_39 rfl (lv_at hl 1 rfl) ?_
            refine va_get (D := D) (cl := xCl) (ci := 2) (v := .ref (ad (k + 1))) (C := rnR) (T := tbR) (N := 3) hx hb hts inR hown hK hP k hq0 rfl 0 (by decide) (hts _ tw_126) (fun _ h9 => h9) rfl dR_reverse_40 ?_
            refine lv_iload_n hx hb dR_reverse_43 rfl (lv_at hl 3 rfl) ?_
            refine va_iald hx hb hK hP (k + 1) 0 hq1 hI (by rw [ehi2]; exact vp_in_nI (by omega) (by omega)) dR_reverse_44 ?_
            refine lv_topi (fun v_2 ev_2 => ?_)
            refine va_iast hx hb hK hP hD hS (k + 1) 0 hq1 hI (vp_in_nI (by omega) (by omega)) dR_reverse_45 (fun H locs hP hD hS => ?_)
            obtain ⟨ws_4, hu_3, hP, hD⟩ := x_gen hq1 hP hD
            have h_5 : ws_4[k + 1]? = some (ad (k + 1), .inl (cI, 30, .inl (upd gg ((nI i)).toNatClampNeg v_2))) := hu_3.1
            have h_6 := (hu_3.2 k (by omega)).trans hq0
            refine lv_aload_n hx hb dR_reverse_46 rfl (lv_at hl 1 rfl) ?_
            refine va_get (D := D) (cl := xCl) (ci := 2) (v := .ref (ad (k + 1))) (C := rnR) (T := tbR) (N := 3) hx hb hts inR hown hK hP k h_6 rfl 0 (by decide) (hts _ tw_126) (fun _ h9 => h9) rfl dR_reverse_47 ?_
            refine lv_iload_n hx hb dR_reverse_50 rfl (lv_at hl 3 rfl) ?_
            refine lv_iload_n hx hb dR_reverse_51 rfl (lv_at hl 0 rfl) ?_
            refine va_iast hx hb hK hP hD hS (k + 1) 0 h_5 hI (by rw [ehi2]; exact vp_in_nI (by omega) (by omega)) dR_reverse_52 (fun H locs hP hD hS => ?_)
            obtain ⟨ws_8, hu_7, hP, hD⟩ := x_gen h_5 hP hD
            have h_9 : ws_8[k + 1]? = some (ad (k + 1), .inl (cI, 30, .inl (upd (upd gg ((nI i)).toNatClampNeg v_2) (hi).toNatClampNeg v_1))) := hu_7.1
            have h_10 := (hu_7.2 k (by omega)).trans h_6
            refine lv_iinc (v := (nI (i + 1))) (lv' := [(1, .int (nI (i + 1))), (3, .int v_1), (0, .ref (ad k)), (2, .int hi)]) hx hb dR_reverse_53 hl (k := 2) rfl (nI_1 _) (by decide) rfl (fun ls hl => ?_)
            obtain ⟨v_11, ev_11⟩ : ∃ y : Int32, y = hi + (-1) := ⟨_, rfl⟩
            refine lv_iinc (v := v_11) (lv' := [(2, .int v_11), (1, .int (nI (i + 1))), (3, .int v_1), (0, .ref (ad k))]) hx hb dR_reverse_56 hl (k := 3) rfl (by rw [ev_11]; rfl) (by decide) rfl (fun ls hl => ?_)
            refine lv_goto (tgt := 9) hx hb dR_reverse_59 (by decide) ?_
            exact ih (i + 1) v_11 _ ws_8 _ _ _ (by rw [ev_11, i32_eq_sub1 (by rw [ehi]; omega) (by rw [ehi]; omega), ehi]; omega) (hT.tr (fun j a1 a2 => ((hu_7.2 j a2).trans (hu_3.2 j a2)))) h_10 (by have q := h_9; rw [ehi2, nI_clamp (by omega), nI_clamp (by omega)] at q; exact q) (revH_s hrev hi2 (by rw [ev_1, nI_clamp (by omega)]) (by rw [ev_2, ehi2, nI_clamp (by omega)])) (by omega) (by omega) hP hD hS (lv_sub hl [3, 1, 0] rfl)
  refine lv_iconst (v := 0) hx hb dR_reverse_0 (by decide) ?_
  refine lv_istore_n (lv' := [(1, .int 0), (0, .ref (ad k))]) hx hb dR_reverse_1 rfl hl (by decide) rfl (fun ls hl => ?_)
  refine lv_aload_n hx hb dR_reverse_2 rfl (lv_at hl 1 rfl) ?_
  refine va_get (D := D) (cl := xCl) (ci := 2) (v := .int (nI L.length)) (C := rnR) (T := tbR) (N := 3) hx hb hts inR hown hK hP k h0 rfl 1 (by decide) (hts _ tw_127) (fun _ h9 => h9) rfl dR_reverse_3 ?_
  refine lv_iconst (v := 1) hx hb dR_reverse_6 (by decide) ?_
  refine lv_isub hx hb dR_reverse_7 ?_
  refine lv_topi (fun v_12 ev_12 => ?_)
  refine lv_istore_n (lv' := [(2, .int v_12), (1, .int 0), (0, .ref (ad k))]) hx hb dR_reverse_8 rfl hl (by decide) rfl (fun ls hl => ?_)
  exact loop_9 _ 0 v_12 f ws _ _ _ (by rw [ev_12, show (1 : Int32) = nI 1 from rfl, pk_sub_toInt (by omega) (by omega)]; omega) x_two.rf h0 h1 (revH_0 hf) (by omega) (Nat.lt_succ_self _) hP hD hS (lv_sub hl [2, 1, 0] rfl)
end
section
theorem dT_init_0 : decode bT_init 0 = .ok (.aload_n 0, 1) := by decide +kernel
theorem dT_init_1 : decode bT_init 1 = .ok (.invokespecial 3, 3) := by decide +kernel
theorem dT_init_4 : decode bT_init 4 = .ok (.aload_n 0, 1) := by decide +kernel
theorem dT_init_5 : decode bT_init 5 = .ok (.bipush 81, 2) := by decide +kernel
theorem dT_init_7 : decode bT_init 7 = .ok (.newarray .int, 2) := by decide +kernel
theorem dT_init_9 : decode bT_init 9 = .ok (.putfield 9, 3) := by decide +kernel
theorem dT_init_12 : decode bT_init 12 = .ok (.aload_n 0, 1) := by decide +kernel
theorem dT_init_13 : decode bT_init 13 = .ok (.bipush 81, 2) := by decide +kernel
theorem dT_init_15 : decode bT_init 15 = .ok (.newarray .int, 2) := by decide +kernel
theorem dT_init_17 : decode bT_init 17 = .ok (.putfield 15, 3) := by decide +kernel
theorem dT_init_20 : decode bT_init 20 = .ok (.aload_n 0, 1) := by decide +kernel
theorem dT_init_21 : decode bT_init 21 = .ok (.bipush 81, 2) := by decide +kernel
theorem dT_init_23 : decode bT_init 23 = .ok (.newarray .int, 2) := by decide +kernel
theorem dT_init_25 : decode bT_init 25 = .ok (.putfield 18, 3) := by decide +kernel
theorem dT_init_28 : decode bT_init 28 = .ok (.aload_n 0, 1) := by decide +kernel
theorem dT_init_29 : decode bT_init 29 = .ok (.iconst 0, 1) := by decide +kernel
theorem dT_init_30 : decode bT_init 30 = .ok (.putfield 21, 3) := by decide +kernel
theorem dT_init_33 : decode bT_init 33 = .ok (.return_, 1) := by decide +kernel
theorem dT_clear_0 : decode bT_clear 0 = .ok (.aload_n 0, 1) := by decide +kernel
theorem dT_clear_1 : decode bT_clear 1 = .ok (.iconst 0, 1) := by decide +kernel
theorem dT_clear_2 : decode bT_clear 2 = .ok (.putfield 21, 3) := by decide +kernel
theorem dT_clear_5 : decode bT_clear 5 = .ok (.return_, 1) := by decide +kernel
theorem dT_size_0 : decode bT_size 0 = .ok (.aload_n 0, 1) := by decide +kernel
theorem dT_size_1 : decode bT_size 1 = .ok (.getfield 21, 3) := by decide +kernel
theorem dT_size_4 : decode bT_size 4 = .ok (.ireturn, 1) := by decide +kernel
theorem dT_add_0 : decode bT_add 0 = .ok (.aload_n 0, 1) := by decide +kernel
theorem dT_add_1 : decode bT_add 1 = .ok (.getfield 21, 3) := by decide +kernel
theorem dT_add_4 : decode bT_add 4 = .ok (.aload_n 0, 1) := by decide +kernel
theorem dT_add_5 : decode bT_add 5 = .ok (.getfield 9, 3) := by decide +kernel
theorem dT_add_8 : decode bT_add 8 = .ok (.arraylength, 1) := by decide +kernel
theorem dT_add_9 : decode bT_add 9 = .ok (.if_icmp .lt 4, 3) := by decide +kernel
theorem dT_add_12 : decode bT_add 12 = .ok (.return_, 1) := by decide +kernel
theorem dT_add_13 : decode bT_add 13 = .ok (.aload_n 0, 1) := by decide +kernel
theorem dT_add_14 : decode bT_add 14 = .ok (.getfield 9, 3) := by decide +kernel
theorem dT_add_17 : decode bT_add 17 = .ok (.aload_n 0, 1) := by decide +kernel
theorem dT_add_18 : decode bT_add 18 = .ok (.getfield 21, 3) := by decide +kernel
theorem dT_add_21 : decode bT_add 21 = .ok (.iload_n 1, 1) := by decide +kernel
theorem dT_add_22 : decode bT_add 22 = .ok (.iastore, 1) := by decide +kernel
theorem dT_add_23 : decode bT_add 23 = .ok (.aload_n 0, 1) := by decide +kernel
theorem dT_add_24 : decode bT_add 24 = .ok (.getfield 15, 3) := by decide +kernel
theorem dT_add_27 : decode bT_add 27 = .ok (.aload_n 0, 1) := by decide +kernel
theorem dT_add_28 : decode bT_add 28 = .ok (.getfield 21, 3) := by decide +kernel
theorem dT_add_31 : decode bT_add 31 = .ok (.iload_n 2, 1) := by decide +kernel
theorem dT_add_32 : decode bT_add 32 = .ok (.iastore, 1) := by decide +kernel
theorem dT_add_33 : decode bT_add 33 = .ok (.aload_n 0, 1) := by decide +kernel
theorem dT_add_34 : decode bT_add 34 = .ok (.getfield 18, 3) := by decide +kernel
theorem dT_add_37 : decode bT_add 37 = .ok (.aload_n 0, 1) := by decide +kernel
theorem dT_add_38 : decode bT_add 38 = .ok (.getfield 21, 3) := by decide +kernel
theorem dT_add_41 : decode bT_add 41 = .ok (.iload_n 3, 1) := by decide +kernel
theorem dT_add_42 : decode bT_add 42 = .ok (.iastore, 1) := by decide +kernel
theorem dT_add_43 : decode bT_add 43 = .ok (.aload_n 0, 1) := by decide +kernel
theorem dT_add_44 : decode bT_add 44 = .ok (.dup, 1) := by decide +kernel
theorem dT_add_45 : decode bT_add 45 = .ok (.getfield 21, 3) := by decide +kernel
theorem dT_add_48 : decode bT_add 48 = .ok (.iconst 1, 1) := by decide +kernel
theorem dT_add_49 : decode bT_add 49 = .ok (.iadd, 1) := by decide +kernel
theorem dT_add_50 : decode bT_add 50 = .ok (.putfield 21, 3) := by decide +kernel
theorem dT_add_53 : decode bT_add 53 = .ok (.return_, 1) := by decide +kernel
theorem dT_kindAt_0 : decode bT_kindAt 0 = .ok (.iload_n 1, 1) := by decide +kernel
theorem dT_kindAt_1 : decode bT_kindAt 1 = .ok (.ifCond .lt 20, 3) := by decide +kernel
theorem dT_kindAt_4 : decode bT_kindAt 4 = .ok (.iload_n 1, 1) := by decide +kernel
theorem dT_kindAt_5 : decode bT_kindAt 5 = .ok (.aload_n 0, 1) := by decide +kernel
theorem dT_kindAt_6 : decode bT_kindAt 6 = .ok (.getfield 21, 3) := by decide +kernel
theorem dT_kindAt_9 : decode bT_kindAt 9 = .ok (.if_icmp .ge 12, 3) := by decide +kernel
theorem dT_kindAt_12 : decode bT_kindAt 12 = .ok (.aload_n 0, 1) := by decide +kernel
theorem dT_kindAt_13 : decode bT_kindAt 13 = .ok (.getfield 9, 3) := by decide +kernel
theorem dT_kindAt_16 : decode bT_kindAt 16 = .ok (.iload_n 1, 1) := by decide +kernel
theorem dT_kindAt_17 : decode bT_kindAt 17 = .ok (.iaload, 1) := by decide +kernel
theorem dT_kindAt_18 : decode bT_kindAt 18 = .ok (.goto 4, 3) := by decide +kernel
theorem dT_kindAt_21 : decode bT_kindAt 21 = .ok (.iconst 0, 1) := by decide +kernel
theorem dT_kindAt_22 : decode bT_kindAt 22 = .ok (.ireturn, 1) := by decide +kernel
theorem dT_valueAt_0 : decode bT_valueAt 0 = .ok (.iload_n 1, 1) := by decide +kernel
theorem dT_valueAt_1 : decode bT_valueAt 1 = .ok (.ifCond .lt 20, 3) := by decide +kernel
theorem dT_valueAt_4 : decode bT_valueAt 4 = .ok (.iload_n 1, 1) := by decide +kernel
theorem dT_valueAt_5 : decode bT_valueAt 5 = .ok (.aload_n 0, 1) := by decide +kernel
theorem dT_valueAt_6 : decode bT_valueAt 6 = .ok (.getfield 21, 3) := by decide +kernel
theorem dT_valueAt_9 : decode bT_valueAt 9 = .ok (.if_icmp .ge 12, 3) := by decide +kernel
theorem dT_valueAt_12 : decode bT_valueAt 12 = .ok (.aload_n 0, 1) := by decide +kernel
theorem dT_valueAt_13 : decode bT_valueAt 13 = .ok (.getfield 15, 3) := by decide +kernel
theorem dT_valueAt_16 : decode bT_valueAt 16 = .ok (.iload_n 1, 1) := by decide +kernel
theorem dT_valueAt_17 : decode bT_valueAt 17 = .ok (.iaload, 1) := by decide +kernel
theorem dT_valueAt_18 : decode bT_valueAt 18 = .ok (.goto 4, 3) := by decide +kernel
theorem dT_valueAt_21 : decode bT_valueAt 21 = .ok (.iconst 0, 1) := by decide +kernel
theorem dT_valueAt_22 : decode bT_valueAt 22 = .ok (.ireturn, 1) := by decide +kernel
theorem dT_placeAt_0 : decode bT_placeAt 0 = .ok (.iload_n 1, 1) := by decide +kernel
theorem dT_placeAt_1 : decode bT_placeAt 1 = .ok (.ifCond .lt 20, 3) := by decide +kernel
theorem dT_placeAt_4 : decode bT_placeAt 4 = .ok (.iload_n 1, 1) := by decide +kernel
theorem dT_placeAt_5 : decode bT_placeAt 5 = .ok (.aload_n 0, 1) := by decide +kernel
theorem dT_placeAt_6 : decode bT_placeAt 6 = .ok (.getfield 21, 3) := by decide +kernel
theorem dT_placeAt_9 : decode bT_placeAt 9 = .ok (.if_icmp .ge 12, 3) := by decide +kernel
theorem dT_placeAt_12 : decode bT_placeAt 12 = .ok (.aload_n 0, 1) := by decide +kernel
theorem dT_placeAt_13 : decode bT_placeAt 13 = .ok (.getfield 18, 3) := by decide +kernel
theorem dT_placeAt_16 : decode bT_placeAt 16 = .ok (.iload_n 1, 1) := by decide +kernel
theorem dT_placeAt_17 : decode bT_placeAt 17 = .ok (.iaload, 1) := by decide +kernel
theorem dT_placeAt_18 : decode bT_placeAt 18 = .ok (.goto 4, 3) := by decide +kernel
theorem dT_placeAt_21 : decode bT_placeAt 21 = .ok (.iconst 0, 1) := by decide +kernel
theorem dT_placeAt_22 : decode bT_placeAt 22 = .ok (.ireturn, 1) := by decide +kernel
end
section
-- ===== Tape =====
/-- nothing changed but the cells from a up to b -/
def x_fr (a b : Nat) (ws ws1 : va_W) : Prop := ∀ j, (j < a ∨ b ≤ j) → ws1[j]? = ws[j]?
theorem x_fr.rf {a b : Nat} {ws : va_W} : x_fr a b ws ws := fun _ _ => rfl
theorem x_fr.tr {a b : Nat} {u v w : va_W} (h1 : x_fr a b u v) (h2 : x_fr a b v w) : x_fr a b u w := fun j h => (h2 j h).trans (h1 j h)
theorem x_fr.wd {a b c d : Nat} {u v : va_W} (h : x_fr a b u v) (h1 : c ≤ a) (h2 : b ≤ d) : x_fr c d u v := fun j hj => h j (by omega)
theorem x_two.fr {k : Nat} {u v : va_W} (h : x_two k u v) : x_fr k (k + 2) u v := fun j hj => h j (by omega) (by omega)
theorem x_fr.two {k : Nat} {u v : va_W} (h : x_fr k (k + 2) u v) : x_two k u v := fun j h1 h2 => h j (by omega)
theorem x_upd.fr {u v : va_W} {k a b : Nat} {q : Nat × va_E} (h : x_upd u k q v) (h1 : a ≤ k) (h2 : k < b) : x_fr a b u v := fun j hj => h.2 j (by omega)
abbrev Tok : Type := Int32 × Int32 × Int32
/-- the cells k .. k + 3 are a Tape with the rows P -/
def TapeAt (cI : ClassId) (ad : Nat → Nat) (ws : va_W) (k : Nat) (P : List Tok) : Prop :=
  ∃ (f g h : Nat → Int32), ws[k]? = some (ad k, .inr (4, [.ref (ad (k + 1)), .ref (ad (k + 2)), .ref (ad (k + 3)), .int (nI P.length)])) ∧ ws[k + 1]? = some (ad (k + 1), .inl (cI, 81, .inl f)) ∧ ws[k + 2]? = some (ad (k + 2), .inl (cI, 81, .inl g)) ∧ ws[k + 3]? = some (ad (k + 3), .inl (cI, 81, .inl h)) ∧
    P.length ≤ 81 ∧ ∀ (i : Nat) (hi : i < P.length), f i = P[i].1 ∧ g i = P[i].2.1 ∧ h i = P[i].2.2
theorem TapeAt.le {cI : ClassId} {ad : Nat → Nat} {ws : va_W} {k : Nat} {P : List Tok} (h : TapeAt cI ad ws k P) : P.length ≤ 81 := by
  obtain ⟨f, g, h, -, -, -, -, h1, -⟩ := h
  exact h1
theorem TapeAt.obj {cI : ClassId} {ad : Nat → Nat} {ws : va_W} {k : Nat} {P : List Tok} (h : TapeAt cI ad ws k P) : ∃ fs, ws[k]? = some (ad k, .inr (4, fs)) := by
  obtain ⟨f, g, h, h0, -⟩ := h
  exact ⟨_, h0⟩
theorem TapeAt.keep {cI : ClassId} {ad : Nat → Nat} {ws ws1 : va_W} {k a b : Nat} {P : List Tok} (h : TapeAt cI ad ws k P) (hf : x_fr a b ws ws1) (hd : k + 4 ≤ a ∨ b ≤ k) : TapeAt cI ad ws1 k P := by
  obtain ⟨f, g, h, h0, h1, h2, h3, r⟩ := h
  exact ⟨f, g, h, (hf _ (by omega)).trans h0, (hf _ (by omega)).trans h1, (hf _ (by omega)).trans h2, (hf _ (by omega)).trans h3, r⟩
theorem RowAt.keepF {cI : ClassId} {ad : Nat → Nat} {ws ws1 : va_W} {k a b : Nat} {L : List Nat} (h : RowAt cI ad ws k L) (hf : x_fr a b ws ws1) (hd : k + 2 ≤ a ∨ b ≤ k) : RowAt cI ad ws1 k L := by
  obtain ⟨f, mk, h0, h1, r⟩ := h
  exact ⟨f, mk, (hf _ (by omega)).trans h0, (hf _ (by omega)).trans h1, r⟩
/-- the i-th row of a tape, zeros where there is none -/
def tpE (P : List Tok) (i : Int32) : Tok := if 0 ≤ i.toInt then P.getD i.toInt.toNat (0, 0, 0) else (0, 0, 0)
theorem tpE_neg {P : List Tok} {i : Int32} (h : i < 0) : tpE P i = (0, 0, 0) := by
  rw [i32_lt, i32_0] at h
  exact if_neg (by omega)
theorem tpE_big {P : List Tok} {i : Int32} (hP : P.length ≤ 81) (h : nI P.length ≤ i) : tpE P i = (0, 0, 0) := by
  rw [i32_le, nI_toInt (by omega)] at h
  unfold tpE
  rw [if_pos (by omega), List.getD_eq_getElem?_getD, List.getElem?_eq_none (by omega)]; rfl
theorem tpE_nI {P : List Tok} {i : Nat} (hP : P.length ≤ 81) (h : i < P.length) : tpE P (nI i) = P[i] := by
  unfold tpE
  rw [nI_toInt (by omega), if_pos (by omega)]
  simp [h]
theorem tpE_n (P : List Tok) {i : Nat} (hi : i < 2 ^ 31) : tpE P (nI i) = P.getD i (0, 0, 0) := by
  unfold tpE
  rw [nI_toInt hi, if_pos (by omega)]; simp
/-- a row more, where there is room -/
def tpA (P : List Tok) (q : Tok) : List Tok := if P.length < 81 then P ++ [q] else P

set_option maxHeartbeats 4000000 in
set_option maxRecDepth 100000 in
/-- Tape.clear() -/
theorem cT_clear (l : Launch) (D : va_G) (tys : List (ClassId × FieldType)) (A : Nat → Prop) (ws : va_W) (cI : ClassId) (hI : tys[0]? = some (cI, .int)) (ad : Nat → Nat) (k : Nat) (P : List Tok) (hT : TapeAt cI ad ws k P) : x_Mv l yT_clear wT_clear (xR 0) D xCl tys A [.ref (ad k)] ws (fun ws1 => x_fr k (k + 4) ws ws1 ∧ TapeAt cI ad ws1 k []) := by
  obtain ⟨f, g, h, h0, h1, h2, h3, hle, hf⟩ := hT
  refine x_enter (by decide) rfl (Nat.le_of_ble_eq_true rfl) (fun p e s m args below meth c ls hx hb hr hlk hml hown hnm hts hK hP hD hS hA hN hl => ?_)
  have hl : lv_has ls 1 [(0, .ref (ad k))] := hl
  refine lv_aload_n hx hb dT_clear_0 rfl (lv_at hl 0 rfl) ?_
  refine lv_iconst (v := 0) hx hb dT_clear_1 (by decide) ?_
  refine va_put (D := D) (cl := xCl) (ci := 4) (v := .int 0) (ty := .int) (C := rnT) (T := tbT) (N := 4) hx hb hts inT tyT toT nmT hown hK hP hD hS k h0 rfl 3 (by decide) (hts _ tw_87) (fun _ h9 => h9) rfl (by decide +kernel) rfl rfl (Nat.le_of_ble_eq_true rfl) dT_clear_2 (fun H locs hP hD hS => ?_)
  obtain ⟨ws_2, hu_1, hP, hD⟩ := x_gen h0 hP hD
  have h_3 : ws_2[k]? = some (ad k, .inr (4, [.ref (ad (k + 1)), .ref (ad (k + 2)), .ref (ad (k + 3)), .int 0])) := hu_1.1
  have h_4 := (hu_1.2 (k + 1) (by omega)).trans h1
  have h_5 := (hu_1.2 (k + 2) (by omega)).trans h2
  have h_6 := (hu_1.2 (k + 3) (by omega)).trans h3
  exact x_vret hx hb hr hlk hK hP hD hS dT_clear_5 ⟨(hu_1.fr (a := k) (b := k + 4) (by omega) (by omega)), f, g, h, h_3, h_4, h_5, h_6, Nat.zero_le _, fun i hi => absurd hi (Nat.not_lt_zero i)⟩

set_option maxHeartbeats 4000000 in
set_option maxRecDepth 100000 in
/-- Tape.size() -/
theorem cT_size (l : Launch) (D : va_G) (tys : List (ClassId × FieldType)) (A : Nat → Prop) (ws : va_W) (cI : ClassId) (hI : tys[0]? = some (cI, .int)) (ad : Nat → Nat) (k : Nat) (P : List Tok) (hT : TapeAt cI ad ws k P) : x_Mi l yT_size wT_size (xR 0) D xCl tys A [.ref (ad k)] ws (fun r ws1 => r = nI P.length ∧ ws = ws1) := by
  obtain ⟨f, g, h, h0, h1, h2, h3, hle, hf⟩ := hT
  refine x_enter (by decide) rfl (Nat.le_of_ble_eq_true rfl) (fun p e s m args below meth c ls hx hb hr hlk hml hown hnm hts hK hP hD hS hA hN hl => ?_)
  have hl : lv_has ls 1 [(0, .ref (ad k))] := hl
  refine lv_aload_n hx hb dT_size_0 rfl (lv_at hl 0 rfl) ?_
  refine va_get (D := D) (cl := xCl) (ci := 4) (v := .int (nI P.length)) (C := rnT) (T := tbT) (N := 4) hx hb hts inT hown hK hP k h0 rfl 3 (by decide) (hts _ tw_87) (fun _ h9 => h9) rfl dT_size_1 ?_
  exact x_iret hx hb hr hlk hK hP hD hS dT_size_4 ⟨rfl, rfl⟩

set_option maxHeartbeats 4000000 in
set_option maxRecDepth 100000 in
/-- Tape.kindAt(i) -/
theorem cT_kindAt (l : Launch) (D : va_G) (tys : List (ClassId × FieldType)) (A : Nat → Prop) (ws : va_W) (cI : ClassId) (hI : tys[0]? = some (cI, .int)) (ad : Nat → Nat) (k : Nat) (P : List Tok) (i : Int32) (hT : TapeAt cI ad ws k P) : x_Mi l yT_kindAt wT_kindAt (xR 0) D xCl tys A [.ref (ad k), .int i] ws (fun r ws1 => r = (tpE P i).1 ∧ ws = ws1) := by
  obtain ⟨f, g, h, h0, h1, h2, h3, hle, hf⟩ := hT
  refine x_enter (by decide) rfl (Nat.le_of_ble_eq_true rfl) (fun p e s m args below meth c ls hx hb hr hlk hml hown hnm hts hK hP hD hS hA hN hl => ?_)
  have hl : lv_has ls 2 [(0, .ref (ad k)), (1, .int i)] := hl
  refine lv_iload_n hx hb dT_kindAt_0 rfl (lv_at hl 1 rfl) ?_
  refine lv_if_lt (tgt := 21) hx hb dT_kindAt_1 (by decide) (fun c1 => ?_) (fun c1 => ?_)
  · refine lv_iconst (v := 0) hx hb dT_kindAt_21 (by decide) ?_
    exact x_iret hx hb hr hlk hK hP hD hS dT_kindAt_22 ⟨by rw [tpE_neg c1], rfl⟩
  · refine lv_iload_n hx hb dT_kindAt_4 rfl (lv_at hl 1 rfl) ?_
    refine lv_aload_n hx hb dT_kindAt_5 rfl (lv_at hl 0 rfl) ?_
    refine va_get (D := D) (cl := xCl) (ci := 4) (v := .int (nI P.length)) (C := rnT) (T := tbT) (N := 4) hx hb hts inT hown hK hP k h0 rfl 3 (by decide) (hts _ tw_87) (fun _ h9 => h9) rfl dT_kindAt_6 ?_
    refine lv_icmp_ge (tgt := 21) hx hb dT_kindAt_9 (by decide) (fun c9 => ?_) (fun c9 => ?_)
    · refine lv_iconst (v := 0) hx hb dT_kindAt_21 (by decide) ?_
      exact x_iret hx hb hr hlk hK hP hD hS dT_kindAt_22 ⟨by rw [tpE_big hle c9], rfl⟩
    · obtain ⟨j, hj, ej⟩ := ix_of (by omega) c1 c9
      refine lv_aload_n hx hb dT_kindAt_12 rfl (lv_at hl 0 rfl) ?_
      refine va_get (D := D) (cl := xCl) (ci := 4) (v := .ref (ad (k + 1))) (C := rnT) (T := tbT) (N := 4) hx hb hts inT hown hK hP k h0 rfl 0 (by decide) (hts _ tw_84) (fun _ h9 => h9) rfl dT_kindAt_13 ?_
      refine lv_iload_n hx hb dT_kindAt_16 rfl (lv_at hl 1 rfl) ?_
      refine va_iald hx hb hK hP (k + 1) 0 h1 hI (by rw [ej]; exact vp_in_nI (by omega) (by omega)) dT_kindAt_17 ?_
      refine lv_goto (tgt := 22) hx hb dT_kindAt_18 (by decide) ?_
      exact x_iret hx hb hr hlk hK hP hD hS dT_kindAt_22 ⟨by rw [ej, tpE_nI hle hj, nI_clamp (by omega)]; exact (hf j hj).1, rfl⟩

set_option maxHeartbeats 4000000 in
set_option maxRecDepth 100000 in
/-- Tape.valueAt(i) -/
theorem cT_valueAt (l : Launch) (D : va_G) (tys : List (ClassId × FieldType)) (A : Nat → Prop) (ws : va_W) (cI : ClassId) (hI : tys[0]? = some (cI, .int)) (ad : Nat → Nat) (k : Nat) (P : List Tok) (i : Int32) (hT : TapeAt cI ad ws k P) : x_Mi l yT_valueAt wT_valueAt (xR 0) D xCl tys A [.ref (ad k), .int i] ws (fun r ws1 => r = (tpE P i).2.1 ∧ ws = ws1) := by
  obtain ⟨f, g, h, h0, h1, h2, h3, hle, hf⟩ := hT
  refine x_enter (by decide) rfl (Nat.le_of_ble_eq_true rfl) (fun p e s m args below meth c ls hx hb hr hlk hml hown hnm hts hK hP hD hS hA hN hl => ?_)
  have hl : lv_has ls 2 [(0, .ref (ad k)), (1, .int i)] := hl
  refine lv_iload_n hx hb dT_valueAt_0 rfl (lv_at hl 1 rfl) ?_
  refine lv_if_lt (tgt := 21) hx hb dT_valueAt_1 (by decide) (fun c1 => ?_) (fun c1 => ?_)
  · refine lv_iconst (v := 0) hx hb dT_valueAt_21 (by decide) ?_
    exact x_iret hx hb hr hlk hK hP hD hS dT_valueAt_22 ⟨by rw [tpE_neg c1], rfl⟩
  · refine lv_iload_n hx hb dT_valueAt_4 rfl (lv_at hl 1 rfl) ?_
    refine lv_aload_n hx hb dT_valueAt_5 rfl (lv_at hl 0 rfl) ?_
    refine va_get (D := D) (cl := xCl) (ci := 4) (v := .int (nI P.length)) (C := rnT) (T := tbT) (N := 4) hx hb hts inT hown hK hP k h0 rfl 3 (by decide) (hts _ tw_87) (fun _ h9 => h9) rfl dT_valueAt_6 ?_
    refine lv_icmp_ge (tgt := 21) hx hb dT_valueAt_9 (by decide) (fun c9 => ?_) (fun c9 => ?_)
    · refine lv_iconst (v := 0) hx hb dT_valueAt_21 (by decide) ?_
      exact x_iret hx hb hr hlk hK hP hD hS dT_valueAt_22 ⟨by rw [tpE_big hle c9], rfl⟩
    · obtain ⟨j, hj, ej⟩ := ix_of (by omega) c1 c9
      refine lv_aload_n hx hb dT_valueAt_12 rfl (lv_at hl 0 rfl) ?_
      refine va_get (D := D) (cl := xCl) (ci := 4) (v := .ref (ad (k + 2))) (C := rnT) (T := tbT) (N := 4) hx hb hts inT hown hK hP k h0 rfl 1 (by decide) (hts _ tw_85) (fun _ h9 => h9) rfl dT_valueAt_13 ?_
      refine lv_iload_n hx hb dT_valueAt_16 rfl (lv_at hl 1 rfl) ?_
      refine va_iald hx hb hK hP (k + 2) 0 h2 hI (by rw [ej]; exact vp_in_nI (by omega) (by omega)) dT_valueAt_17 ?_
      refine lv_goto (tgt := 22) hx hb dT_valueAt_18 (by decide) ?_
      exact x_iret hx hb hr hlk hK hP hD hS dT_valueAt_22 ⟨by rw [ej, tpE_nI hle hj, nI_clamp (by omega)]; exact (hf j hj).2.1, rfl⟩

set_option maxHeartbeats 4000000 in
set_option maxRecDepth 100000 in
/-- Tape.placeAt(i) -/
theorem cT_placeAt (l : Launch) (D : va_G) (tys : List (ClassId × FieldType)) (A : Nat → Prop) (ws : va_W) (cI : ClassId) (hI : tys[0]? = some (cI, .int)) (ad : Nat → Nat) (k : Nat) (P : List Tok) (i : Int32) (hT : TapeAt cI ad ws k P) : x_Mi l yT_placeAt wT_placeAt (xR 0) D xCl tys A [.ref (ad k), .int i] ws (fun r ws1 => r = (tpE P i).2.2 ∧ ws = ws1) := by
  obtain ⟨f, g, h, h0, h1, h2, h3, hle, hf⟩ := hT
  refine x_enter (by decide) rfl (Nat.le_of_ble_eq_true rfl) (fun p e s m args below meth c ls hx hb hr hlk hml hown hnm hts hK hP hD hS hA hN hl => ?_)
  have hl : lv_has ls 2 [(0, .ref (ad k)), (1, .int i)] := hl
  refine lv_iload_n hx hb dT_placeAt_0 rfl (lv_at hl 1 rfl) ?_
  refine lv_if_lt (tgt := 21) hx hb dT_placeAt_1 (by decide) (fun c1 => ?_) (fun c1 => ?_)
  · refine lv_iconst (v := 0) hx hb dT_placeAt_21 (by decide) ?_
    exact x_iret hx hb hr hlk hK hP hD hS dT_placeAt_22 ⟨by rw [tpE_neg c1], rfl⟩
  · refine lv_iload_n hx hb dT_placeAt_4 rfl (lv_at hl 1 rfl) ?_
    refine lv_aload_n hx hb dT_placeAt_5 rfl (lv_at hl 0 rfl) ?_
    refine va_get (D := D) (cl := xCl) (ci := 4) (v := .int (nI P.length)) (C := rnT) (T := tbT) (N := 4) hx hb hts inT hown hK hP k h0 rfl 3 (by decide) (hts _ tw_87) (fun _ h9 => h9) rfl dT_placeAt_6 ?_
    refine lv_icmp_ge (tgt := 21) hx hb dT_placeAt_9 (by decide) (fun c9 => ?_) (fun c9 => ?_)
    · refine lv_iconst (v := 0) hx hb dT_placeAt_21 (by decide) ?_
      exact x_iret hx hb hr hlk hK hP hD hS dT_placeAt_22 ⟨by rw [tpE_big hle c9], rfl⟩
    · obtain ⟨j, hj, ej⟩ := ix_of (by omega) c1 c9
      refine lv_aload_n hx hb dT_placeAt_12 rfl (lv_at hl 0 rfl) ?_
      refine va_get (D := D) (cl := xCl) (ci := 4) (v := .ref (ad (k + 3))) (C := rnT) (T := tbT) (N := 4) hx hb hts inT hown hK hP k h0 rfl 2 (by decide) (hts _ tw_86) (fun _ h9 => h9) rfl dT_placeAt_13 ?_
      refine lv_iload_n hx hb dT_placeAt_16 rfl (lv_at hl 1 rfl) ?_
      refine va_iald hx hb hK hP (k + 3) 0 h3 hI (by rw [ej]; exact vp_in_nI (by omega) (by omega)) dT_placeAt_17 ?_
      refine lv_goto (tgt := 22) hx hb dT_placeAt_18 (by decide) ?_
      exact x_iret hx hb hr hlk hK hP hD hS dT_placeAt_22 ⟨by rw [ej, tpE_nI hle hj, nI_clamp (by omega)]; exact (hf j hj).2.2, rfl⟩

theorem TapeAt.push {cI : ClassId} {ad : Nat → Nat} {ws : va_W} {k : Nat} {P : List Tok} {f g h f1 g1 h1 : Nat → Int32} {n1 a b c : Int32} (q0 : ws[k]? = some (ad k, .inr (4, [.ref (ad (k + 1)), .ref (ad (k + 2)), .ref (ad (k + 3)), .int n1]))) (q1 : ws[k + 1]? = some (ad (k + 1), .inl (cI, 81, .inl f1))) (q2 : ws[k + 2]? = some (ad (k + 2), .inl (cI, 81, .inl g1))) (q3 : ws[k + 3]? = some (ad (k + 3), .inl (cI, 81, .inl h1)))
    (hlt : P.length < 81) (en : n1 = nI P.length + 1) (ef : f1 = upd f (nI P.length).toNatClampNeg a) (eg : g1 = upd g (nI P.length).toNatClampNeg b) (eh : h1 = upd h (nI P.length).toNatClampNeg c) (hf : ∀ (i : Nat) (hi : i < P.length), f i = P[i].1 ∧ g i = P[i].2.1 ∧ h i = P[i].2.2) : TapeAt cI ad ws k (tpA P (a, b, c)) := by
  unfold tpA
  rw [if_pos hlt]
  have e1 : n1 = nI (P ++ [(a, b, c)]).length := by rw [en, nI_1, List.length_append]; rfl
  subst e1 ef eg eh
  refine ⟨_, _, _, q0, q1, q2, q3, by rw [List.length_append]; exact hlt, ?_⟩
  intro i hi
  rw [nI_clamp (by omega)]
  unfold upd
  by_cases e : i = P.length
  · rw [if_pos e, if_pos e, if_pos e]; subst e; simp
  · have hi2 : i < P.length := by
      have : i < (P ++ [(a, b, c)]).length := hi
      rw [List.length_append] at this
      simp only [List.length_singleton] at this
      omega
    rw [if_neg e, if_neg e, if_neg e, List.getElem_append_left hi2]
    exact hf i hi2

set_option maxHeartbeats 4000000 in
set_option maxRecDepth 100000 in
/-- Tape.add(kind, value, place) -/
theorem cT_add (l : Launch) (D : va_G) (tys : List (ClassId × FieldType)) (A : Nat → Prop) (ws : va_W) (cI : ClassId) (hI : tys[0]? = some (cI, .int)) (ad : Nat → Nat) (k : Nat) (P : List Tok) (a b c1 : Int32) (hT : TapeAt cI ad ws k P) : x_Mv l yT_add wT_add (xR 0) D xCl tys A [.ref (ad k), .int a, .int b, .int c1] ws (fun ws1 => x_fr k (k + 4) ws ws1 ∧ TapeAt cI ad ws1 k (tpA P (a, b, c1))) := by
  obtain ⟨f, g, h, h0, h1, h2, h3, hle, hf⟩ := hT
  refine x_enter (by decide) rfl (Nat.le_of_ble_eq_true rfl) (fun p e s m args below meth c ls hx hb hr hlk hml hown hnm hts hK hP hD hS hA hN hl => ?_)
  have hl : lv_has ls 4 [(0, .ref (ad k)), (1, .int a), (2, .int b), (3, .int c1)] := hl
  refine lv_aload_n hx hb dT_add_0 rfl (lv_at hl 0 rfl) ?_
  refine va_get (D := D) (cl := xCl) (ci := 4) (v := .int (nI P.length)) (C := rnT) (T := tbT) (N := 4) hx hb hts inT hown hK hP k h0 rfl 3 (by decide) (hts _ tw_87) (fun _ h9 => h9) rfl dT_add_1 ?_
  refine lv_aload_n hx hb dT_add_4 rfl (lv_at hl 0 rfl) ?_
  refine va_get (D := D) (cl := xCl) (ci := 4) (v := .ref (ad (k + 1))) (C := rnT) (T := tbT) (N := 4) hx hb hts inT hown hK hP k h0 rfl 0 (by decide) (hts _ tw_84) (fun _ h9 => h9) rfl dT_add_5 ?_
  refine va_alen (v := 81) hx hb hK hP (k + 1) 0 h1 hI (by rfl) dT_add_8 ?_
  refine lv_icmp_lt (tgt := 13) hx hb dT_add_9 (by decide) (fun c9 => ?_) (fun c9 => ?_)
  · have hlt : P.length < 81 := by rw [show (81 : Int32) = nI 81 from rfl, nI_ltI (by omega) (by omega)] at c9; omega
    refine lv_aload_n hx hb dT_add_13 rfl (lv_at hl 0 rfl) ?_
    refine va_get (D := D) (cl := xCl) (ci := 4) (v := .ref (ad (k + 1))) (C := rnT) (T := tbT) (N := 4) hx hb hts inT hown hK hP k h0 rfl 0 (by decide) (hts _ tw_84) (fun _ h9 => h9) rfl dT_add_14 ?_
    refine lv_aload_n hx hb dT_add_17 rfl (lv_at hl 0 rfl) ?_
    refine va_get (D := D) (cl := xCl) (ci := 4) (v := .int (nI P.length)) (C := rnT) (T := tbT) (N := 4) hx hb hts inT hown hK hP k h0 rfl 3 (by decide) (hts _ tw_87) (fun _ h9 => h9) rfl dT_add_18 ?_
    refine lv_iload_n hx hb dT_add_21 rfl (lv_at hl 1 rfl) ?_
    refine va_iast hx hb hK hP hD hS (k + 1) 0 h1 hI (vp_in_nI hlt (by omega)) dT_add_22 (fun H locs hP hD hS => ?_)
    obtain ⟨ws_2, hu_1, hP, hD⟩ := x_gen h1 hP hD
    have h_3 : ws_2[k + 1]? = some (ad (k + 1), .inl (cI, 81, .inl (upd f ((nI P.length)).toNatClampNeg a))) := hu_1.1
    have h_4 := (hu_1.2 k (by omega)).trans h0
    have h_5 := (hu_1.2 (k + 2) (by omega)).trans h2
    have h_6 := (hu_1.2 (k + 3) (by omega)).trans h3
    refine lv_aload_n hx hb dT_add_23 rfl (lv_at hl 0 rfl) ?_
    refine va_get (D := D) (cl := xCl) (ci := 4) (v := .ref (ad (k + 2))) (C := rnT) (T := tbT) (N := 4) hx hb hts inT hown hK hP k h_4 rfl 1 (by decide) (hts _ tw_85) (fun _ h9 => h9) rfl dT_add_24 ?_
    refine lv_aload_n hx hb dT_add_27 rfl (lv_at hl 0 rfl) ?_
    refine va_get (D := D) (cl := xCl) (ci := 4) (v := .int (nI P.length)) (C := rnT) (T := tbT) (N := 4) hx hb hts inT hown hK hP k h_4 rfl 3 (by decide) (hts _ tw_87) (fun _ h9 => h9) rfl dT_add_28 ?_
    refine lv_iload_n hx hb dT_add_31 rfl (lv_at hl 2 rfl) ?_
    refine va_iast hx hb hK hP hD hS (k + 2) 0 h_5 hI (vp_in_nI hlt (by omega)) dT_add_32 (fun H locs hP hD hS => ?_)
    obtain ⟨ws_8, hu_7, hP, hD⟩ := x_gen h_5 hP hD
    have h_9 : ws_8[k + 2]? = some (ad (k + 2), .inl (cI, 81, .inl (upd g ((nI P.length)).toNatClampNeg b))) := hu_7.1
    have h_10 := (hu_7.2 k (by omega)).trans h_4
    have h_11 := (hu_7.2 (k + 1) (by omega)).trans h_3
    have h_12 := (hu_7.2 (k + 3) (by omega)).trans h_6
    refine lv_aload_n hx hb dT_add_33 rfl (lv_at hl 0 rfl) ?_
    refine va_get (D := D) (cl := xCl) (ci := 4) (v := .ref (ad (k + 3))) (C := rnT) (T := tbT) (N := 4) hx hb hts inT hown hK hP k h_10 rfl 2 (by decide) (hts _ tw_86) (fun _ h9 => h9) rfl dT_add_34 ?_
    refine lv_aload_n hx hb dT_add_37 rfl (lv_at hl 0 rfl) ?_
    refine va_get (D := D) (cl := xCl) (ci := 4) (v := .int (nI P.length)) (C := rnT) (T := tbT) (N := 4) hx hb hts inT hown hK hP k h_10 rfl 3 (by decide) (hts _ tw_87) (fun _ h9 => h9) rfl dT_add_38 ?_
    refine lv_iload_n hx hb dT_add_41 rfl (lv_at hl 3 rfl) ?_
    refine va_iast hx hb hK hP hD hS (k + 3) 0 h_12 hI (vp_in_nI hlt (by omega)) dT_add_42 (fun H locs hP hD hS => ?_)
    obtain ⟨ws_14, hu_13, hP, hD⟩ := x_gen h_12 hP hD
    have h_15 : ws_14[k + 3]? = some (ad (k + 3), .inl (cI, 81, .inl (upd h ((nI P.length)).toNatClampNeg c1))) := hu_13.1
    have h_16 := (hu_13.2 k (by omega)).trans h_10
    have h_17 := (hu_13.2 (k + 1) (by omega)).trans h_11
    have h_18 := (hu_13.2 (k + 2) (by omega)).trans h_9
    refine lv_aload_n hx hb dT_add_43 rfl (lv_at hl 0 rfl) ?_
    refine lv_dup hx hb dT_add_44 rfl ?_
    refine va_get (D := D) (cl := xCl) (ci := 4) (v := .int (nI P.length)) (C := rnT) (T := tbT) (N := 4) hx hb hts inT hown hK hP k h_16 rfl 3 (by decide) (hts _ tw_87) (fun _ h9 => h9) rfl dT_add_45 ?_
    refine lv_iconst (v := 1) hx hb dT_add_48 (by decide) ?_
    refine lv_iadd hx hb dT_add_49 ?_
    refine lv_topi (fun v_19 ev_19 => ?_)
    refine va_put (D := D) (cl := xCl) (ci := 4) (v := .int v_19) (ty := .int) (C := rnT) (T := tbT) (N := 4) hx hb hts inT tyT toT nmT hown hK hP hD hS k h_16 rfl 3 (by decide) (hts _ tw_87) (fun _ h9 => h9) rfl (by decide +kernel) rfl rfl (Nat.le_of_ble_eq_true rfl) dT_add_50 (fun H locs hP hD hS => ?_)
    obtain ⟨ws_21, hu_20, hP, hD⟩ := x_gen h_16 hP hD
    have h_22 : ws_21[k]? = some (ad k, .inr (4, [.ref (ad (k + 1)), .ref (ad (k + 2)), .ref (ad (k + 3)), .int v_19])) := hu_20.1
    have h_23 := (hu_20.2 (k + 1) (by omega)).trans h_17
    have h_24 := (hu_20.2 (k + 2) (by omega)).trans h_18
    have h_25 := (hu_20.2 (k + 3) (by omega)).trans h_15
    exact x_vret hx hb hr hlk hK hP hD hS dT_add_53 ⟨((((hu_1.fr (a := k) (b := k + 4) (by omega) (by omega)).tr (hu_7.fr (a := k) (b := k + 4) (by omega) (by omega))).tr (hu_13.fr (a := k) (b := k + 4) (by omega) (by omega))).tr (hu_20.fr (a := k) (b := k + 4) (by omega) (by omega))), TapeAt.push h_22 h_23 h_24 h_25 hlt ev_19 rfl rfl rfl hf⟩
  · exact x_vret hx hb hr hlk hK hP hD hS dT_add_12 ⟨x_fr.rf, by have e : tpA P (a, b, c1) = P := if_neg (by rw [show (81 : Int32) = nI 81 from rfl, nI_ltI (by omega) (by omega)] at c9; omega); rw [e]; exact ⟨f, g, h, h0, h1, h2, h3, hle, hf⟩⟩
end
section
theorem dG_init_0 : decode bG_init 0 = .ok (.aload_n 0, 1) := by decide +kernel
theorem dG_init_1 : decode bG_init 1 = .ok (.invokespecial 3, 3) := by decide +kernel
theorem dG_init_4 : decode bG_init 4 = .ok (.aload_n 0, 1) := by decide +kernel
theorem dG_init_5 : decode bG_init 5 = .ok (.bipush 30, 2) := by decide +kernel
theorem dG_init_7 : decode bG_init 7 = .ok (.newarray .int, 2) := by decide +kernel
theorem dG_init_9 : decode bG_init 9 = .ok (.putfield 9, 3) := by decide +kernel
theorem dG_init_12 : decode bG_init 12 = .ok (.aload_n 0, 1) := by decide +kernel
theorem dG_init_13 : decode bG_init 13 = .ok (.bipush 30, 2) := by decide +kernel
theorem dG_init_15 : decode bG_init 15 = .ok (.newarray .int, 2) := by decide +kernel
theorem dG_init_17 : decode bG_init 17 = .ok (.putfield 15, 3) := by decide +kernel
theorem dG_init_20 : decode bG_init 20 = .ok (.aload_n 0, 1) := by decide +kernel
theorem dG_init_21 : decode bG_init 21 = .ok (.bipush 60, 2) := by decide +kernel
theorem dG_init_23 : decode bG_init 23 = .ok (.newarray .int, 2) := by decide +kernel
theorem dG_init_25 : decode bG_init 25 = .ok (.putfield 18, 3) := by decide +kernel
theorem dG_init_28 : decode bG_init 28 = .ok (.aload_n 0, 1) := by decide +kernel
theorem dG_init_29 : decode bG_init 29 = .ok (.sipush 240, 3) := by decide +kernel
theorem dG_init_32 : decode bG_init 32 = .ok (.newarray .int, 2) := by decide +kernel
theorem dG_init_34 : decode bG_init 34 = .ok (.putfield 21, 3) := by decide +kernel
theorem dG_init_37 : decode bG_init 37 = .ok (.aload_n 0, 1) := by decide +kernel
theorem dG_init_38 : decode bG_init 38 = .ok (.bipush 30, 2) := by decide +kernel
theorem dG_init_40 : decode bG_init 40 = .ok (.newarray .int, 2) := by decide +kernel
theorem dG_init_42 : decode bG_init 42 = .ok (.putfield 24, 3) := by decide +kernel
theorem dG_init_45 : decode bG_init 45 = .ok (.aload_n 0, 1) := by decide +kernel
theorem dG_init_46 : decode bG_init 46 = .ok (.bipush 30, 2) := by decide +kernel
theorem dG_init_48 : decode bG_init 48 = .ok (.newarray .int, 2) := by decide +kernel
theorem dG_init_50 : decode bG_init 50 = .ok (.putfield 27, 3) := by decide +kernel
theorem dG_init_53 : decode bG_init 53 = .ok (.aload_n 0, 1) := by decide +kernel
theorem dG_init_54 : decode bG_init 54 = .ok (.bipush 30, 2) := by decide +kernel
theorem dG_init_56 : decode bG_init 56 = .ok (.newarray .int, 2) := by decide +kernel
theorem dG_init_58 : decode bG_init 58 = .ok (.putfield 30, 3) := by decide +kernel
theorem dG_init_61 : decode bG_init 61 = .ok (.aload_n 0, 1) := by decide +kernel
theorem dG_init_62 : decode bG_init 62 = .ok (.bipush 30, 2) := by decide +kernel
theorem dG_init_64 : decode bG_init 64 = .ok (.newarray .int, 2) := by decide +kernel
theorem dG_init_66 : decode bG_init 66 = .ok (.putfield 33, 3) := by decide +kernel
theorem dG_init_69 : decode bG_init 69 = .ok (.aload_n 0, 1) := by decide +kernel
theorem dG_init_70 : decode bG_init 70 = .ok (.iconst 0, 1) := by decide +kernel
theorem dG_init_71 : decode bG_init 71 = .ok (.putfield 36, 3) := by decide +kernel
theorem dG_init_74 : decode bG_init 74 = .ok (.iconst 0, 1) := by decide +kernel
theorem dG_init_75 : decode bG_init 75 = .ok (.istore_n 1, 1) := by decide +kernel
theorem dG_init_76 : decode bG_init 76 = .ok (.iload_n 1, 1) := by decide +kernel
theorem dG_init_77 : decode bG_init 77 = .ok (.aload_n 0, 1) := by decide +kernel
theorem dG_init_78 : decode bG_init 78 = .ok (.getfield 18, 3) := by decide +kernel
theorem dG_init_81 : decode bG_init 81 = .ok (.arraylength, 1) := by decide +kernel
theorem dG_init_82 : decode bG_init 82 = .ok (.if_icmp .ge 16, 3) := by decide +kernel
theorem dG_init_85 : decode bG_init 85 = .ok (.aload_n 0, 1) := by decide +kernel
theorem dG_init_86 : decode bG_init 86 = .ok (.getfield 18, 3) := by decide +kernel
theorem dG_init_89 : decode bG_init 89 = .ok (.iload_n 1, 1) := by decide +kernel
theorem dG_init_90 : decode bG_init 90 = .ok (.iconst (-1), 1) := by decide +kernel
theorem dG_init_91 : decode bG_init 91 = .ok (.iastore, 1) := by decide +kernel
theorem dG_init_92 : decode bG_init 92 = .ok (.iinc 1 1, 3) := by decide +kernel
theorem dG_init_95 : decode bG_init 95 = .ok (.goto (-19), 3) := by decide +kernel
theorem dG_init_98 : decode bG_init 98 = .ok (.return_, 1) := by decide +kernel
theorem dG_addTarget_0 : decode bG_addTarget 0 = .ok (.aload_n 0, 1) := by decide +kernel
theorem dG_addTarget_1 : decode bG_addTarget 1 = .ok (.getfield 36, 3) := by decide +kernel
theorem dG_addTarget_4 : decode bG_addTarget 4 = .ok (.bipush 30, 2) := by decide +kernel
theorem dG_addTarget_6 : decode bG_addTarget 6 = .ok (.if_icmp .ge 29, 3) := by decide +kernel
theorem dG_addTarget_9 : decode bG_addTarget 9 = .ok (.iload_n 1, 1) := by decide +kernel
theorem dG_addTarget_10 : decode bG_addTarget 10 = .ok (.bipush 6, 2) := by decide +kernel
theorem dG_addTarget_12 : decode bG_addTarget 12 = .ok (.invokestatic 40, 3) := by decide +kernel
theorem dG_addTarget_15 : decode bG_addTarget 15 = .ok (.ifCond .eq 20, 3) := by decide +kernel
theorem dG_addTarget_18 : decode bG_addTarget 18 = .ok (.iload_n 2, 1) := by decide +kernel
theorem dG_addTarget_19 : decode bG_addTarget 19 = .ok (.bipush 10, 2) := by decide +kernel
theorem dG_addTarget_21 : decode bG_addTarget 21 = .ok (.invokestatic 40, 3) := by decide +kernel
theorem dG_addTarget_24 : decode bG_addTarget 24 = .ok (.ifCond .eq 11, 3) := by decide +kernel
theorem dG_addTarget_27 : decode bG_addTarget 27 = .ok (.iload_n 3, 1) := by decide +kernel
theorem dG_addTarget_28 : decode bG_addTarget 28 = .ok (.iconst 4, 1) := by decide +kernel
theorem dG_addTarget_29 : decode bG_addTarget 29 = .ok (.invokestatic 40, 3) := by decide +kernel
theorem dG_addTarget_32 : decode bG_addTarget 32 = .ok (.ifCond .ne 5, 3) := by decide +kernel
theorem dG_addTarget_35 : decode bG_addTarget 35 = .ok (.iconst (-1), 1) := by decide +kernel
theorem dG_addTarget_36 : decode bG_addTarget 36 = .ok (.ireturn, 1) := by decide +kernel
theorem dG_addTarget_37 : decode bG_addTarget 37 = .ok (.iload_n 1, 1) := by decide +kernel
theorem dG_addTarget_38 : decode bG_addTarget 38 = .ok (.bipush 10, 2) := by decide +kernel
theorem dG_addTarget_40 : decode bG_addTarget 40 = .ok (.imul, 1) := by decide +kernel
theorem dG_addTarget_41 : decode bG_addTarget 41 = .ok (.iload_n 2, 1) := by decide +kernel
theorem dG_addTarget_42 : decode bG_addTarget 42 = .ok (.iadd, 1) := by decide +kernel
theorem dG_addTarget_43 : decode bG_addTarget 43 = .ok (.istore 4, 2) := by decide +kernel
theorem dG_addTarget_45 : decode bG_addTarget 45 = .ok (.aload_n 0, 1) := by decide +kernel
theorem dG_addTarget_46 : decode bG_addTarget 46 = .ok (.getfield 18, 3) := by decide +kernel
theorem dG_addTarget_49 : decode bG_addTarget 49 = .ok (.iload 4, 2) := by decide +kernel
theorem dG_addTarget_51 : decode bG_addTarget 51 = .ok (.iaload, 1) := by decide +kernel
theorem dG_addTarget_52 : decode bG_addTarget 52 = .ok (.iconst (-1), 1) := by decide +kernel
theorem dG_addTarget_53 : decode bG_addTarget 53 = .ok (.if_icmp .eq 5, 3) := by decide +kernel
theorem dG_addTarget_56 : decode bG_addTarget 56 = .ok (.iconst (-1), 1) := by decide +kernel
theorem dG_addTarget_57 : decode bG_addTarget 57 = .ok (.ireturn, 1) := by decide +kernel
theorem dG_addTarget_58 : decode bG_addTarget 58 = .ok (.aload_n 0, 1) := by decide +kernel
theorem dG_addTarget_59 : decode bG_addTarget 59 = .ok (.getfield 36, 3) := by decide +kernel
theorem dG_addTarget_62 : decode bG_addTarget 62 = .ok (.istore 5, 2) := by decide +kernel
theorem dG_addTarget_64 : decode bG_addTarget 64 = .ok (.aload_n 0, 1) := by decide +kernel
theorem dG_addTarget_65 : decode bG_addTarget 65 = .ok (.getfield 18, 3) := by decide +kernel
theorem dG_addTarget_68 : decode bG_addTarget 68 = .ok (.iload 4, 2) := by decide +kernel
theorem dG_addTarget_70 : decode bG_addTarget 70 = .ok (.iload 5, 2) := by decide +kernel
theorem dG_addTarget_72 : decode bG_addTarget 72 = .ok (.iastore, 1) := by decide +kernel
theorem dG_addTarget_73 : decode bG_addTarget 73 = .ok (.aload_n 0, 1) := by decide +kernel
theorem dG_addTarget_74 : decode bG_addTarget 74 = .ok (.getfield 9, 3) := by decide +kernel
theorem dG_addTarget_77 : decode bG_addTarget 77 = .ok (.iload 5, 2) := by decide +kernel
theorem dG_addTarget_79 : decode bG_addTarget 79 = .ok (.iload 4, 2) := by decide +kernel
theorem dG_addTarget_81 : decode bG_addTarget 81 = .ok (.iastore, 1) := by decide +kernel
theorem dG_addTarget_82 : decode bG_addTarget 82 = .ok (.aload_n 0, 1) := by decide +kernel
theorem dG_addTarget_83 : decode bG_addTarget 83 = .ok (.getfield 15, 3) := by decide +kernel
theorem dG_addTarget_86 : decode bG_addTarget 86 = .ok (.iload 5, 2) := by decide +kernel
theorem dG_addTarget_88 : decode bG_addTarget 88 = .ok (.iload_n 3, 1) := by decide +kernel
theorem dG_addTarget_89 : decode bG_addTarget 89 = .ok (.iastore, 1) := by decide +kernel
theorem dG_addTarget_90 : decode bG_addTarget 90 = .ok (.aload_n 0, 1) := by decide +kernel
theorem dG_addTarget_91 : decode bG_addTarget 91 = .ok (.dup, 1) := by decide +kernel
theorem dG_addTarget_92 : decode bG_addTarget 92 = .ok (.getfield 36, 3) := by decide +kernel
theorem dG_addTarget_95 : decode bG_addTarget 95 = .ok (.iconst 1, 1) := by decide +kernel
theorem dG_addTarget_96 : decode bG_addTarget 96 = .ok (.iadd, 1) := by decide +kernel
theorem dG_addTarget_97 : decode bG_addTarget 97 = .ok (.putfield 36, 3) := by decide +kernel
theorem dG_addTarget_100 : decode bG_addTarget 100 = .ok (.iload 5, 2) := by decide +kernel
theorem dG_addTarget_102 : decode bG_addTarget 102 = .ok (.ireturn, 1) := by decide +kernel
theorem dG_addNeed_0 : decode bG_addNeed 0 = .ok (.iload_n 1, 1) := by decide +kernel
theorem dG_addNeed_1 : decode bG_addNeed 1 = .ok (.aload_n 0, 1) := by decide +kernel
theorem dG_addNeed_2 : decode bG_addNeed 2 = .ok (.getfield 36, 3) := by decide +kernel
theorem dG_addNeed_5 : decode bG_addNeed 5 = .ok (.invokestatic 40, 3) := by decide +kernel
theorem dG_addNeed_8 : decode bG_addNeed 8 = .ok (.ifCond .eq 41, 3) := by decide +kernel
theorem dG_addNeed_11 : decode bG_addNeed 11 = .ok (.iload_n 2, 1) := by decide +kernel
theorem dG_addNeed_12 : decode bG_addNeed 12 = .ok (.aload_n 0, 1) := by decide +kernel
theorem dG_addNeed_13 : decode bG_addNeed 13 = .ok (.getfield 36, 3) := by decide +kernel
theorem dG_addNeed_16 : decode bG_addNeed 16 = .ok (.invokestatic 40, 3) := by decide +kernel
theorem dG_addNeed_19 : decode bG_addNeed 19 = .ok (.ifCond .eq 30, 3) := by decide +kernel
theorem dG_addNeed_22 : decode bG_addNeed 22 = .ok (.aload_n 0, 1) := by decide +kernel
theorem dG_addNeed_23 : decode bG_addNeed 23 = .ok (.getfield 27, 3) := by decide +kernel
theorem dG_addNeed_26 : decode bG_addNeed 26 = .ok (.iload_n 1, 1) := by decide +kernel
theorem dG_addNeed_27 : decode bG_addNeed 27 = .ok (.iaload, 1) := by decide +kernel
theorem dG_addNeed_28 : decode bG_addNeed 28 = .ok (.iload_n 2, 1) := by decide +kernel
theorem dG_addNeed_29 : decode bG_addNeed 29 = .ok (.invokestatic 44, 3) := by decide +kernel
theorem dG_addNeed_32 : decode bG_addNeed 32 = .ok (.ifCond .ne 17, 3) := by decide +kernel
theorem dG_addNeed_35 : decode bG_addNeed 35 = .ok (.aload_n 0, 1) := by decide +kernel
theorem dG_addNeed_36 : decode bG_addNeed 36 = .ok (.getfield 24, 3) := by decide +kernel
theorem dG_addNeed_39 : decode bG_addNeed 39 = .ok (.iload_n 1, 1) := by decide +kernel
theorem dG_addNeed_40 : decode bG_addNeed 40 = .ok (.iaload, 1) := by decide +kernel
theorem dG_addNeed_41 : decode bG_addNeed 41 = .ok (.bipush 8, 2) := by decide +kernel
theorem dG_addNeed_43 : decode bG_addNeed 43 = .ok (.invokestatic 40, 3) := by decide +kernel
theorem dG_addNeed_46 : decode bG_addNeed 46 = .ok (.ifCond .ne 5, 3) := by decide +kernel
theorem dG_addNeed_49 : decode bG_addNeed 49 = .ok (.iconst 0, 1) := by decide +kernel
theorem dG_addNeed_50 : decode bG_addNeed 50 = .ok (.ireturn, 1) := by decide +kernel
theorem dG_addNeed_51 : decode bG_addNeed 51 = .ok (.aload_n 0, 1) := by decide +kernel
theorem dG_addNeed_52 : decode bG_addNeed 52 = .ok (.getfield 21, 3) := by decide +kernel
theorem dG_addNeed_55 : decode bG_addNeed 55 = .ok (.iload_n 1, 1) := by decide +kernel
theorem dG_addNeed_56 : decode bG_addNeed 56 = .ok (.bipush 8, 2) := by decide +kernel
theorem dG_addNeed_58 : decode bG_addNeed 58 = .ok (.imul, 1) := by decide +kernel
theorem dG_addNeed_59 : decode bG_addNeed 59 = .ok (.aload_n 0, 1) := by decide +kernel
theorem dG_addNeed_60 : decode bG_addNeed 60 = .ok (.getfield 24, 3) := by decide +kernel
theorem dG_addNeed_63 : decode bG_addNeed 63 = .ok (.iload_n 1, 1) := by decide +kernel
theorem dG_addNeed_64 : decode bG_addNeed 64 = .ok (.iaload, 1) := by decide +kernel
theorem dG_addNeed_65 : decode bG_addNeed 65 = .ok (.iadd, 1) := by decide +kernel
theorem dG_addNeed_66 : decode bG_addNeed 66 = .ok (.iload_n 2, 1) := by decide +kernel
theorem dG_addNeed_67 : decode bG_addNeed 67 = .ok (.iastore, 1) := by decide +kernel
theorem dG_addNeed_68 : decode bG_addNeed 68 = .ok (.aload_n 0, 1) := by decide +kernel
theorem dG_addNeed_69 : decode bG_addNeed 69 = .ok (.getfield 24, 3) := by decide +kernel
theorem dG_addNeed_72 : decode bG_addNeed 72 = .ok (.iload_n 1, 1) := by decide +kernel
theorem dG_addNeed_73 : decode bG_addNeed 73 = .ok (.dup2, 1) := by decide +kernel
theorem dG_addNeed_74 : decode bG_addNeed 74 = .ok (.iaload, 1) := by decide +kernel
theorem dG_addNeed_75 : decode bG_addNeed 75 = .ok (.iconst 1, 1) := by decide +kernel
theorem dG_addNeed_76 : decode bG_addNeed 76 = .ok (.iadd, 1) := by decide +kernel
theorem dG_addNeed_77 : decode bG_addNeed 77 = .ok (.iastore, 1) := by decide +kernel
theorem dG_addNeed_78 : decode bG_addNeed 78 = .ok (.aload_n 0, 1) := by decide +kernel
theorem dG_addNeed_79 : decode bG_addNeed 79 = .ok (.getfield 27, 3) := by decide +kernel
theorem dG_addNeed_82 : decode bG_addNeed 82 = .ok (.iload_n 1, 1) := by decide +kernel
theorem dG_addNeed_83 : decode bG_addNeed 83 = .ok (.dup2, 1) := by decide +kernel
theorem dG_addNeed_84 : decode bG_addNeed 84 = .ok (.iaload, 1) := by decide +kernel
theorem dG_addNeed_85 : decode bG_addNeed 85 = .ok (.iconst 1, 1) := by decide +kernel
theorem dG_addNeed_86 : decode bG_addNeed 86 = .ok (.iload_n 2, 1) := by decide +kernel
theorem dG_addNeed_87 : decode bG_addNeed 87 = .ok (.ishl, 1) := by decide +kernel
theorem dG_addNeed_88 : decode bG_addNeed 88 = .ok (.ior, 1) := by decide +kernel
theorem dG_addNeed_89 : decode bG_addNeed 89 = .ok (.iastore, 1) := by decide +kernel
theorem dG_addNeed_90 : decode bG_addNeed 90 = .ok (.aload_n 0, 1) := by decide +kernel
theorem dG_addNeed_91 : decode bG_addNeed 91 = .ok (.getfield 30, 3) := by decide +kernel
theorem dG_addNeed_94 : decode bG_addNeed 94 = .ok (.iload_n 2, 1) := by decide +kernel
theorem dG_addNeed_95 : decode bG_addNeed 95 = .ok (.dup2, 1) := by decide +kernel
theorem dG_addNeed_96 : decode bG_addNeed 96 = .ok (.iaload, 1) := by decide +kernel
theorem dG_addNeed_97 : decode bG_addNeed 97 = .ok (.iconst 1, 1) := by decide +kernel
theorem dG_addNeed_98 : decode bG_addNeed 98 = .ok (.iload_n 1, 1) := by decide +kernel
theorem dG_addNeed_99 : decode bG_addNeed 99 = .ok (.ishl, 1) := by decide +kernel
theorem dG_addNeed_100 : decode bG_addNeed 100 = .ok (.ior, 1) := by decide +kernel
theorem dG_addNeed_101 : decode bG_addNeed 101 = .ok (.iastore, 1) := by decide +kernel
theorem dG_addNeed_102 : decode bG_addNeed 102 = .ok (.iconst 1, 1) := by decide +kernel
theorem dG_addNeed_103 : decode bG_addNeed 103 = .ok (.ireturn, 1) := by decide +kernel
theorem dG_needAt_0 : decode bG_needAt 0 = .ok (.iload_n 1, 1) := by decide +kernel
theorem dG_needAt_1 : decode bG_needAt 1 = .ok (.aload_n 0, 1) := by decide +kernel
theorem dG_needAt_2 : decode bG_needAt 2 = .ok (.getfield 36, 3) := by decide +kernel
theorem dG_needAt_5 : decode bG_needAt 5 = .ok (.invokestatic 40, 3) := by decide +kernel
theorem dG_needAt_8 : decode bG_needAt 8 = .ok (.ifCond .eq 22, 3) := by decide +kernel
theorem dG_needAt_11 : decode bG_needAt 11 = .ok (.iload_n 2, 1) := by decide +kernel
theorem dG_needAt_12 : decode bG_needAt 12 = .ok (.bipush 8, 2) := by decide +kernel
theorem dG_needAt_14 : decode bG_needAt 14 = .ok (.invokestatic 40, 3) := by decide +kernel
theorem dG_needAt_17 : decode bG_needAt 17 = .ok (.ifCond .eq 13, 3) := by decide +kernel
theorem dG_needAt_20 : decode bG_needAt 20 = .ok (.iload_n 2, 1) := by decide +kernel
theorem dG_needAt_21 : decode bG_needAt 21 = .ok (.aload_n 0, 1) := by decide +kernel
theorem dG_needAt_22 : decode bG_needAt 22 = .ok (.getfield 24, 3) := by decide +kernel
theorem dG_needAt_25 : decode bG_needAt 25 = .ok (.iload_n 1, 1) := by decide +kernel
theorem dG_needAt_26 : decode bG_needAt 26 = .ok (.iaload, 1) := by decide +kernel
theorem dG_needAt_27 : decode bG_needAt 27 = .ok (.if_icmp .lt 5, 3) := by decide +kernel
theorem dG_needAt_30 : decode bG_needAt 30 = .ok (.iconst (-1), 1) := by decide +kernel
theorem dG_needAt_31 : decode bG_needAt 31 = .ok (.ireturn, 1) := by decide +kernel
theorem dG_needAt_32 : decode bG_needAt 32 = .ok (.aload_n 0, 1) := by decide +kernel
theorem dG_needAt_33 : decode bG_needAt 33 = .ok (.getfield 21, 3) := by decide +kernel
theorem dG_needAt_36 : decode bG_needAt 36 = .ok (.iload_n 1, 1) := by decide +kernel
theorem dG_needAt_37 : decode bG_needAt 37 = .ok (.bipush 8, 2) := by decide +kernel
theorem dG_needAt_39 : decode bG_needAt 39 = .ok (.imul, 1) := by decide +kernel
theorem dG_needAt_40 : decode bG_needAt 40 = .ok (.iload_n 2, 1) := by decide +kernel
theorem dG_needAt_41 : decode bG_needAt 41 = .ok (.iadd, 1) := by decide +kernel
theorem dG_needAt_42 : decode bG_needAt 42 = .ok (.iaload, 1) := by decide +kernel
theorem dG_needAt_43 : decode bG_needAt 43 = .ok (.ireturn, 1) := by decide +kernel
theorem dG_numberOf_0 : decode bG_numberOf 0 = .ok (.iload_n 1, 1) := by decide +kernel
theorem dG_numberOf_1 : decode bG_numberOf 1 = .ok (.aload_n 0, 1) := by decide +kernel
theorem dG_numberOf_2 : decode bG_numberOf 2 = .ok (.getfield 18, 3) := by decide +kernel
theorem dG_numberOf_5 : decode bG_numberOf 5 = .ok (.arraylength, 1) := by decide +kernel
theorem dG_numberOf_6 : decode bG_numberOf 6 = .ok (.invokestatic 40, 3) := by decide +kernel
theorem dG_numberOf_9 : decode bG_numberOf 9 = .ok (.ifCond .eq 12, 3) := by decide +kernel
theorem dG_numberOf_12 : decode bG_numberOf 12 = .ok (.aload_n 0, 1) := by decide +kernel
theorem dG_numberOf_13 : decode bG_numberOf 13 = .ok (.getfield 18, 3) := by decide +kernel
theorem dG_numberOf_16 : decode bG_numberOf 16 = .ok (.iload_n 1, 1) := by decide +kernel
theorem dG_numberOf_17 : decode bG_numberOf 17 = .ok (.iaload, 1) := by decide +kernel
theorem dG_numberOf_18 : decode bG_numberOf 18 = .ok (.goto 4, 3) := by decide +kernel
theorem dG_numberOf_21 : decode bG_numberOf 21 = .ok (.iconst (-1), 1) := by decide +kernel
theorem dG_numberOf_22 : decode bG_numberOf 22 = .ok (.ireturn, 1) := by decide +kernel
theorem dG_nearestTo_0 : decode bG_nearestTo 0 = .ok (.iload_n 1, 1) := by decide +kernel
theorem dG_nearestTo_1 : decode bG_nearestTo 1 = .ok (.aload_n 0, 1) := by decide +kernel
theorem dG_nearestTo_2 : decode bG_nearestTo 2 = .ok (.getfield 18, 3) := by decide +kernel
theorem dG_nearestTo_5 : decode bG_nearestTo 5 = .ok (.arraylength, 1) := by decide +kernel
theorem dG_nearestTo_6 : decode bG_nearestTo 6 = .ok (.invokestatic 40, 3) := by decide +kernel
theorem dG_nearestTo_9 : decode bG_nearestTo 9 = .ok (.ifCond .ne 5, 3) := by decide +kernel
theorem dG_nearestTo_12 : decode bG_nearestTo 12 = .ok (.iconst (-1), 1) := by decide +kernel
theorem dG_nearestTo_13 : decode bG_nearestTo 13 = .ok (.ireturn, 1) := by decide +kernel
theorem dG_nearestTo_14 : decode bG_nearestTo 14 = .ok (.iload_n 1, 1) := by decide +kernel
theorem dG_nearestTo_15 : decode bG_nearestTo 15 = .ok (.bipush 10, 2) := by decide +kernel
theorem dG_nearestTo_17 : decode bG_nearestTo 17 = .ok (.idiv, 1) := by decide +kernel
theorem dG_nearestTo_18 : decode bG_nearestTo 18 = .ok (.istore_n 2, 1) := by decide +kernel
theorem dG_nearestTo_19 : decode bG_nearestTo 19 = .ok (.iload_n 1, 1) := by decide +kernel
theorem dG_nearestTo_20 : decode bG_nearestTo 20 = .ok (.bipush 10, 2) := by decide +kernel
theorem dG_nearestTo_22 : decode bG_nearestTo 22 = .ok (.irem, 1) := by decide +kernel
theorem dG_nearestTo_23 : decode bG_nearestTo 23 = .ok (.istore_n 3, 1) := by decide +kernel
theorem dG_nearestTo_24 : decode bG_nearestTo 24 = .ok (.aload_n 0, 1) := by decide +kernel
theorem dG_nearestTo_25 : decode bG_nearestTo 25 = .ok (.iload_n 2, 1) := by decide +kernel
theorem dG_nearestTo_26 : decode bG_nearestTo 26 = .ok (.bipush 10, 2) := by decide +kernel
theorem dG_nearestTo_28 : decode bG_nearestTo 28 = .ok (.imul, 1) := by decide +kernel
theorem dG_nearestTo_29 : decode bG_nearestTo 29 = .ok (.iconst 1, 1) := by decide +kernel
theorem dG_nearestTo_30 : decode bG_nearestTo 30 = .ok (.bipush 10, 2) := by decide +kernel
theorem dG_nearestTo_32 : decode bG_nearestTo 32 = .ok (.iload_n 3, 1) := by decide +kernel
theorem dG_nearestTo_33 : decode bG_nearestTo 33 = .ok (.invokevirtual 47, 3) := by decide +kernel
theorem dG_nearestTo_36 : decode bG_nearestTo 36 = .ok (.istore 4, 2) := by decide +kernel
theorem dG_nearestTo_38 : decode bG_nearestTo 38 = .ok (.iload 4, 2) := by decide +kernel
theorem dG_nearestTo_40 : decode bG_nearestTo 40 = .ok (.iconst (-1), 1) := by decide +kernel
theorem dG_nearestTo_41 : decode bG_nearestTo 41 = .ok (.if_icmp .eq 8, 3) := by decide +kernel
theorem dG_nearestTo_44 : decode bG_nearestTo 44 = .ok (.iload 4, 2) := by decide +kernel
theorem dG_nearestTo_46 : decode bG_nearestTo 46 = .ok (.goto 13, 3) := by decide +kernel
theorem dG_nearestTo_49 : decode bG_nearestTo 49 = .ok (.aload_n 0, 1) := by decide +kernel
theorem dG_nearestTo_50 : decode bG_nearestTo 50 = .ok (.iload_n 3, 1) := by decide +kernel
theorem dG_nearestTo_51 : decode bG_nearestTo 51 = .ok (.bipush 10, 2) := by decide +kernel
theorem dG_nearestTo_53 : decode bG_nearestTo 53 = .ok (.bipush 6, 2) := by decide +kernel
theorem dG_nearestTo_55 : decode bG_nearestTo 55 = .ok (.iload_n 2, 1) := by decide +kernel
theorem dG_nearestTo_56 : decode bG_nearestTo 56 = .ok (.invokevirtual 47, 3) := by decide +kernel
theorem dG_nearestTo_59 : decode bG_nearestTo 59 = .ok (.ireturn, 1) := by decide +kernel
theorem dG_closest_0 : decode bG_closest 0 = .ok (.iconst (-1), 1) := by decide +kernel
theorem dG_closest_1 : decode bG_closest 1 = .ok (.istore 5, 2) := by decide +kernel
theorem dG_closest_3 : decode bG_closest 3 = .ok (.iload_n 3, 1) := by decide +kernel
theorem dG_closest_4 : decode bG_closest 4 = .ok (.istore 6, 2) := by decide +kernel
theorem dG_closest_6 : decode bG_closest 6 = .ok (.iconst 0, 1) := by decide +kernel
theorem dG_closest_7 : decode bG_closest 7 = .ok (.istore 7, 2) := by decide +kernel
theorem dG_closest_9 : decode bG_closest 9 = .ok (.iload 7, 2) := by decide +kernel
theorem dG_closest_11 : decode bG_closest 11 = .ok (.iload_n 3, 1) := by decide +kernel
theorem dG_closest_12 : decode bG_closest 12 = .ok (.if_icmp .ge 54, 3) := by decide +kernel
theorem dG_closest_15 : decode bG_closest 15 = .ok (.aload_n 0, 1) := by decide +kernel
theorem dG_closest_16 : decode bG_closest 16 = .ok (.iload_n 1, 1) := by decide +kernel
theorem dG_closest_17 : decode bG_closest 17 = .ok (.iload 7, 2) := by decide +kernel
theorem dG_closest_19 : decode bG_closest 19 = .ok (.iload_n 2, 1) := by decide +kernel
theorem dG_closest_20 : decode bG_closest 20 = .ok (.imul, 1) := by decide +kernel
theorem dG_closest_21 : decode bG_closest 21 = .ok (.iadd, 1) := by decide +kernel
theorem dG_closest_22 : decode bG_closest 22 = .ok (.invokevirtual 51, 3) := by decide +kernel
theorem dG_closest_25 : decode bG_closest 25 = .ok (.istore 8, 2) := by decide +kernel
theorem dG_closest_27 : decode bG_closest 27 = .ok (.iload 8, 2) := by decide +kernel
theorem dG_closest_29 : decode bG_closest 29 = .ok (.iconst (-1), 1) := by decide +kernel
theorem dG_closest_30 : decode bG_closest 30 = .ok (.if_icmp .eq 30, 3) := by decide +kernel
theorem dG_closest_33 : decode bG_closest 33 = .ok (.iload 7, 2) := by decide +kernel
theorem dG_closest_35 : decode bG_closest 35 = .ok (.iload 4, 2) := by decide +kernel
theorem dG_closest_37 : decode bG_closest 37 = .ok (.isub, 1) := by decide +kernel
theorem dG_closest_38 : decode bG_closest 38 = .ok (.invokestatic 55, 3) := by decide +kernel
theorem dG_closest_41 : decode bG_closest 41 = .ok (.iload 6, 2) := by decide +kernel
theorem dG_closest_43 : decode bG_closest 43 = .ok (.if_icmp .ge 17, 3) := by decide +kernel
theorem dG_closest_46 : decode bG_closest 46 = .ok (.iload 8, 2) := by decide +kernel
theorem dG_closest_48 : decode bG_closest 48 = .ok (.istore 5, 2) := by decide +kernel
theorem dG_closest_50 : decode bG_closest 50 = .ok (.iload 7, 2) := by decide +kernel
theorem dG_closest_52 : decode bG_closest 52 = .ok (.iload 4, 2) := by decide +kernel
theorem dG_closest_54 : decode bG_closest 54 = .ok (.isub, 1) := by decide +kernel
theorem dG_closest_55 : decode bG_closest 55 = .ok (.invokestatic 55, 3) := by decide +kernel
theorem dG_closest_58 : decode bG_closest 58 = .ok (.istore 6, 2) := by decide +kernel
theorem dG_closest_60 : decode bG_closest 60 = .ok (.iinc 7 1, 3) := by decide +kernel
theorem dG_closest_63 : decode bG_closest 63 = .ok (.goto (-54), 3) := by decide +kernel
theorem dG_closest_66 : decode bG_closest 66 = .ok (.iload 5, 2) := by decide +kernel
theorem dG_closest_68 : decode bG_closest 68 = .ok (.ireturn, 1) := by decide +kernel
theorem dG_stepsBetween_0 : decode bG_stepsBetween 0 = .ok (.iload_n 1, 1) := by decide +kernel
theorem dG_stepsBetween_1 : decode bG_stepsBetween 1 = .ok (.aload_n 0, 1) := by decide +kernel
theorem dG_stepsBetween_2 : decode bG_stepsBetween 2 = .ok (.getfield 36, 3) := by decide +kernel
theorem dG_stepsBetween_5 : decode bG_stepsBetween 5 = .ok (.invokestatic 40, 3) := by decide +kernel
theorem dG_stepsBetween_8 : decode bG_stepsBetween 8 = .ok (.ifCond .eq 14, 3) := by decide +kernel
theorem dG_stepsBetween_11 : decode bG_stepsBetween 11 = .ok (.iload_n 2, 1) := by decide +kernel
theorem dG_stepsBetween_12 : decode bG_stepsBetween 12 = .ok (.aload_n 0, 1) := by decide +kernel
theorem dG_stepsBetween_13 : decode bG_stepsBetween 13 = .ok (.getfield 36, 3) := by decide +kernel
theorem dG_stepsBetween_16 : decode bG_stepsBetween 16 = .ok (.invokestatic 40, 3) := by decide +kernel
theorem dG_stepsBetween_19 : decode bG_stepsBetween 19 = .ok (.ifCond .ne 5, 3) := by decide +kernel
theorem dG_stepsBetween_22 : decode bG_stepsBetween 22 = .ok (.iconst (-1), 1) := by decide +kernel
theorem dG_stepsBetween_23 : decode bG_stepsBetween 23 = .ok (.ireturn, 1) := by decide +kernel
theorem dG_stepsBetween_24 : decode bG_stepsBetween 24 = .ok (.iconst 1, 1) := by decide +kernel
theorem dG_stepsBetween_25 : decode bG_stepsBetween 25 = .ok (.iload_n 1, 1) := by decide +kernel
theorem dG_stepsBetween_26 : decode bG_stepsBetween 26 = .ok (.ishl, 1) := by decide +kernel
theorem dG_stepsBetween_27 : decode bG_stepsBetween 27 = .ok (.istore_n 3, 1) := by decide +kernel
theorem dG_stepsBetween_28 : decode bG_stepsBetween 28 = .ok (.iconst 0, 1) := by decide +kernel
theorem dG_stepsBetween_29 : decode bG_stepsBetween 29 = .ok (.istore 4, 2) := by decide +kernel
theorem dG_stepsBetween_31 : decode bG_stepsBetween 31 = .ok (.iload 4, 2) := by decide +kernel
theorem dG_stepsBetween_33 : decode bG_stepsBetween 33 = .ok (.bipush 30, 2) := by decide +kernel
theorem dG_stepsBetween_35 : decode bG_stepsBetween 35 = .ok (.if_icmp .ge 32, 3) := by decide +kernel
theorem dG_stepsBetween_38 : decode bG_stepsBetween 38 = .ok (.iload_n 3, 1) := by decide +kernel
theorem dG_stepsBetween_39 : decode bG_stepsBetween 39 = .ok (.iload_n 2, 1) := by decide +kernel
theorem dG_stepsBetween_40 : decode bG_stepsBetween 40 = .ok (.invokestatic 44, 3) := by decide +kernel
theorem dG_stepsBetween_43 : decode bG_stepsBetween 43 = .ok (.ifCond .eq 6, 3) := by decide +kernel
theorem dG_stepsBetween_46 : decode bG_stepsBetween 46 = .ok (.iload 4, 2) := by decide +kernel
theorem dG_stepsBetween_48 : decode bG_stepsBetween 48 = .ok (.ireturn, 1) := by decide +kernel
theorem dG_stepsBetween_49 : decode bG_stepsBetween 49 = .ok (.iload_n 3, 1) := by decide +kernel
theorem dG_stepsBetween_50 : decode bG_stepsBetween 50 = .ok (.aload_n 0, 1) := by decide +kernel
theorem dG_stepsBetween_51 : decode bG_stepsBetween 51 = .ok (.aload_n 0, 1) := by decide +kernel
theorem dG_stepsBetween_52 : decode bG_stepsBetween 52 = .ok (.getfield 27, 3) := by decide +kernel
theorem dG_stepsBetween_55 : decode bG_stepsBetween 55 = .ok (.iload_n 3, 1) := by decide +kernel
theorem dG_stepsBetween_56 : decode bG_stepsBetween 56 = .ok (.invokevirtual 60, 3) := by decide +kernel
theorem dG_stepsBetween_59 : decode bG_stepsBetween 59 = .ok (.ior, 1) := by decide +kernel
theorem dG_stepsBetween_60 : decode bG_stepsBetween 60 = .ok (.istore_n 3, 1) := by decide +kernel
theorem dG_stepsBetween_61 : decode bG_stepsBetween 61 = .ok (.iinc 4 1, 3) := by decide +kernel
theorem dG_stepsBetween_64 : decode bG_stepsBetween 64 = .ok (.goto (-33), 3) := by decide +kernel
theorem dG_stepsBetween_67 : decode bG_stepsBetween 67 = .ok (.iconst (-1), 1) := by decide +kernel
theorem dG_stepsBetween_68 : decode bG_stepsBetween 68 = .ok (.ireturn, 1) := by decide +kernel
theorem dG_joined_0 : decode bG_joined 0 = .ok (.iconst 0, 1) := by decide +kernel
theorem dG_joined_1 : decode bG_joined 1 = .ok (.istore_n 3, 1) := by decide +kernel
theorem dG_joined_2 : decode bG_joined 2 = .ok (.iconst 0, 1) := by decide +kernel
theorem dG_joined_3 : decode bG_joined 3 = .ok (.istore 4, 2) := by decide +kernel
theorem dG_joined_5 : decode bG_joined 5 = .ok (.iload 4, 2) := by decide +kernel
theorem dG_joined_7 : decode bG_joined 7 = .ok (.aload_n 0, 1) := by decide +kernel
theorem dG_joined_8 : decode bG_joined 8 = .ok (.getfield 36, 3) := by decide +kernel
theorem dG_joined_11 : decode bG_joined 11 = .ok (.if_icmp .ge 32, 3) := by decide +kernel
theorem dG_joined_14 : decode bG_joined 14 = .ok (.iload 4, 2) := by decide +kernel
theorem dG_joined_16 : decode bG_joined 16 = .ok (.aload_n 1, 1) := by decide +kernel
theorem dG_joined_17 : decode bG_joined 17 = .ok (.arraylength, 1) := by decide +kernel
theorem dG_joined_18 : decode bG_joined 18 = .ok (.if_icmp .ge 25, 3) := by decide +kernel
theorem dG_joined_21 : decode bG_joined 21 = .ok (.iload_n 2, 1) := by decide +kernel
theorem dG_joined_22 : decode bG_joined 22 = .ok (.iload 4, 2) := by decide +kernel
theorem dG_joined_24 : decode bG_joined 24 = .ok (.invokestatic 44, 3) := by decide +kernel
theorem dG_joined_27 : decode bG_joined 27 = .ok (.ifCond .eq 10, 3) := by decide +kernel
theorem dG_joined_30 : decode bG_joined 30 = .ok (.iload_n 3, 1) := by decide +kernel
theorem dG_joined_31 : decode bG_joined 31 = .ok (.aload_n 1, 1) := by decide +kernel
theorem dG_joined_32 : decode bG_joined 32 = .ok (.iload 4, 2) := by decide +kernel
theorem dG_joined_34 : decode bG_joined 34 = .ok (.iaload, 1) := by decide +kernel
theorem dG_joined_35 : decode bG_joined 35 = .ok (.ior, 1) := by decide +kernel
theorem dG_joined_36 : decode bG_joined 36 = .ok (.istore_n 3, 1) := by decide +kernel
theorem dG_joined_37 : decode bG_joined 37 = .ok (.iinc 4 1, 3) := by decide +kernel
theorem dG_joined_40 : decode bG_joined 40 = .ok (.goto (-35), 3) := by decide +kernel
theorem dG_joined_43 : decode bG_joined 43 = .ok (.iload_n 3, 1) := by decide +kernel
theorem dG_joined_44 : decode bG_joined 44 = .ok (.ireturn, 1) := by decide +kernel
theorem dG_waysBetween_0 : decode bG_waysBetween 0 = .ok (.iload_n 1, 1) := by decide +kernel
theorem dG_waysBetween_1 : decode bG_waysBetween 1 = .ok (.aload_n 0, 1) := by decide +kernel
theorem dG_waysBetween_2 : decode bG_waysBetween 2 = .ok (.getfield 36, 3) := by decide +kernel
theorem dG_waysBetween_5 : decode bG_waysBetween 5 = .ok (.invokestatic 40, 3) := by decide +kernel
theorem dG_waysBetween_8 : decode bG_waysBetween 8 = .ok (.ifCond .eq 24, 3) := by decide +kernel
theorem dG_waysBetween_11 : decode bG_waysBetween 11 = .ok (.iload_n 2, 1) := by decide +kernel
theorem dG_waysBetween_12 : decode bG_waysBetween 12 = .ok (.aload_n 0, 1) := by decide +kernel
theorem dG_waysBetween_13 : decode bG_waysBetween 13 = .ok (.getfield 36, 3) := by decide +kernel
theorem dG_waysBetween_16 : decode bG_waysBetween 16 = .ok (.invokestatic 40, 3) := by decide +kernel
theorem dG_waysBetween_19 : decode bG_waysBetween 19 = .ok (.ifCond .eq 13, 3) := by decide +kernel
theorem dG_waysBetween_22 : decode bG_waysBetween 22 = .ok (.iload_n 3, 1) := by decide +kernel
theorem dG_waysBetween_23 : decode bG_waysBetween 23 = .ok (.ifCond .lt 9, 3) := by decide +kernel
theorem dG_waysBetween_26 : decode bG_waysBetween 26 = .ok (.iload_n 3, 1) := by decide +kernel
theorem dG_waysBetween_27 : decode bG_waysBetween 27 = .ok (.bipush 6, 2) := by decide +kernel
theorem dG_waysBetween_29 : decode bG_waysBetween 29 = .ok (.if_icmp .le 5, 3) := by decide +kernel
theorem dG_waysBetween_32 : decode bG_waysBetween 32 = .ok (.iconst (-1), 1) := by decide +kernel
theorem dG_waysBetween_33 : decode bG_waysBetween 33 = .ok (.ireturn, 1) := by decide +kernel
theorem dG_waysBetween_34 : decode bG_waysBetween 34 = .ok (.iload_n 1, 1) := by decide +kernel
theorem dG_waysBetween_35 : decode bG_waysBetween 35 = .ok (.iload_n 2, 1) := by decide +kernel
theorem dG_waysBetween_36 : decode bG_waysBetween 36 = .ok (.if_icmp .ne 7, 3) := by decide +kernel
theorem dG_waysBetween_39 : decode bG_waysBetween 39 = .ok (.iconst 1, 1) := by decide +kernel
theorem dG_waysBetween_40 : decode bG_waysBetween 40 = .ok (.goto 17, 3) := by decide +kernel
theorem dG_waysBetween_43 : decode bG_waysBetween 43 = .ok (.aload_n 0, 1) := by decide +kernel
theorem dG_waysBetween_44 : decode bG_waysBetween 44 = .ok (.iload_n 1, 1) := by decide +kernel
theorem dG_waysBetween_45 : decode bG_waysBetween 45 = .ok (.iload_n 2, 1) := by decide +kernel
theorem dG_waysBetween_46 : decode bG_waysBetween 46 = .ok (.iload_n 3, 1) := by decide +kernel
theorem dG_waysBetween_47 : decode bG_waysBetween 47 = .ok (.iconst 1, 1) := by decide +kernel
theorem dG_waysBetween_48 : decode bG_waysBetween 48 = .ok (.iload_n 1, 1) := by decide +kernel
theorem dG_waysBetween_49 : decode bG_waysBetween 49 = .ok (.ishl, 1) := by decide +kernel
theorem dG_waysBetween_50 : decode bG_waysBetween 50 = .ok (.iconst 1, 1) := by decide +kernel
theorem dG_waysBetween_51 : decode bG_waysBetween 51 = .ok (.iload_n 2, 1) := by decide +kernel
theorem dG_waysBetween_52 : decode bG_waysBetween 52 = .ok (.ishl, 1) := by decide +kernel
theorem dG_waysBetween_53 : decode bG_waysBetween 53 = .ok (.ior, 1) := by decide +kernel
theorem dG_waysBetween_54 : decode bG_waysBetween 54 = .ok (.invokevirtual 64, 3) := by decide +kernel
theorem dG_waysBetween_57 : decode bG_waysBetween 57 = .ok (.ireturn, 1) := by decide +kernel
theorem dG_waysOn_0 : decode bG_waysOn 0 = .ok (.iload_n 3, 1) := by decide +kernel
theorem dG_waysOn_1 : decode bG_waysOn 1 = .ok (.ifCond .le 25, 3) := by decide +kernel
theorem dG_waysOn_4 : decode bG_waysOn 4 = .ok (.iload_n 1, 1) := by decide +kernel
theorem dG_waysOn_5 : decode bG_waysOn 5 = .ok (.aload_n 0, 1) := by decide +kernel
theorem dG_waysOn_6 : decode bG_waysOn 6 = .ok (.getfield 36, 3) := by decide +kernel
theorem dG_waysOn_9 : decode bG_waysOn 9 = .ok (.invokestatic 40, 3) := by decide +kernel
theorem dG_waysOn_12 : decode bG_waysOn 12 = .ok (.ifCond .eq 14, 3) := by decide +kernel
theorem dG_waysOn_15 : decode bG_waysOn 15 = .ok (.iload_n 2, 1) := by decide +kernel
theorem dG_waysOn_16 : decode bG_waysOn 16 = .ok (.aload_n 0, 1) := by decide +kernel
theorem dG_waysOn_17 : decode bG_waysOn 17 = .ok (.getfield 36, 3) := by decide +kernel
theorem dG_waysOn_20 : decode bG_waysOn 20 = .ok (.invokestatic 40, 3) := by decide +kernel
theorem dG_waysOn_23 : decode bG_waysOn 23 = .ok (.ifCond .ne 5, 3) := by decide +kernel
theorem dG_waysOn_26 : decode bG_waysOn 26 = .ok (.iconst 0, 1) := by decide +kernel
theorem dG_waysOn_27 : decode bG_waysOn 27 = .ok (.ireturn, 1) := by decide +kernel
theorem dG_waysOn_28 : decode bG_waysOn 28 = .ok (.aload_n 0, 1) := by decide +kernel
theorem dG_waysOn_29 : decode bG_waysOn 29 = .ok (.getfield 27, 3) := by decide +kernel
theorem dG_waysOn_32 : decode bG_waysOn 32 = .ok (.iload_n 1, 1) := by decide +kernel
theorem dG_waysOn_33 : decode bG_waysOn 33 = .ok (.iaload, 1) := by decide +kernel
theorem dG_waysOn_34 : decode bG_waysOn 34 = .ok (.iload_n 2, 1) := by decide +kernel
theorem dG_waysOn_35 : decode bG_waysOn 35 = .ok (.invokestatic 44, 3) := by decide +kernel
theorem dG_waysOn_38 : decode bG_waysOn 38 = .ok (.ifCond .eq 7, 3) := by decide +kernel
theorem dG_waysOn_41 : decode bG_waysOn 41 = .ok (.iconst 1, 1) := by decide +kernel
theorem dG_waysOn_42 : decode bG_waysOn 42 = .ok (.goto 4, 3) := by decide +kernel
theorem dG_waysOn_45 : decode bG_waysOn 45 = .ok (.iconst 0, 1) := by decide +kernel
theorem dG_waysOn_46 : decode bG_waysOn 46 = .ok (.istore 5, 2) := by decide +kernel
theorem dG_waysOn_48 : decode bG_waysOn 48 = .ok (.iload_n 3, 1) := by decide +kernel
theorem dG_waysOn_49 : decode bG_waysOn 49 = .ok (.iconst 1, 1) := by decide +kernel
theorem dG_waysOn_50 : decode bG_waysOn 50 = .ok (.if_icmp .ne 6, 3) := by decide +kernel
theorem dG_waysOn_53 : decode bG_waysOn 53 = .ok (.iload 5, 2) := by decide +kernel
theorem dG_waysOn_55 : decode bG_waysOn 55 = .ok (.ireturn, 1) := by decide +kernel
theorem dG_waysOn_56 : decode bG_waysOn 56 = .ok (.iload_n 3, 1) := by decide +kernel
theorem dG_waysOn_57 : decode bG_waysOn 57 = .ok (.iconst 2, 1) := by decide +kernel
theorem dG_waysOn_58 : decode bG_waysOn 58 = .ok (.if_icmp .ne 28, 3) := by decide +kernel
theorem dG_waysOn_61 : decode bG_waysOn 61 = .ok (.iload 5, 2) := by decide +kernel
theorem dG_waysOn_63 : decode bG_waysOn 63 = .ok (.aload_n 0, 1) := by decide +kernel
theorem dG_waysOn_64 : decode bG_waysOn 64 = .ok (.getfield 27, 3) := by decide +kernel
theorem dG_waysOn_67 : decode bG_waysOn 67 = .ok (.iload_n 1, 1) := by decide +kernel
theorem dG_waysOn_68 : decode bG_waysOn 68 = .ok (.iaload, 1) := by decide +kernel
theorem dG_waysOn_69 : decode bG_waysOn 69 = .ok (.iload 4, 2) := by decide +kernel
theorem dG_waysOn_71 : decode bG_waysOn 71 = .ok (.iconst (-1), 1) := by decide +kernel
theorem dG_waysOn_72 : decode bG_waysOn 72 = .ok (.ixor, 1) := by decide +kernel
theorem dG_waysOn_73 : decode bG_waysOn 73 = .ok (.iand, 1) := by decide +kernel
theorem dG_waysOn_74 : decode bG_waysOn 74 = .ok (.aload_n 0, 1) := by decide +kernel
theorem dG_waysOn_75 : decode bG_waysOn 75 = .ok (.getfield 30, 3) := by decide +kernel
theorem dG_waysOn_78 : decode bG_waysOn 78 = .ok (.iload_n 2, 1) := by decide +kernel
theorem dG_waysOn_79 : decode bG_waysOn 79 = .ok (.iaload, 1) := by decide +kernel
theorem dG_waysOn_80 : decode bG_waysOn 80 = .ok (.iand, 1) := by decide +kernel
theorem dG_waysOn_81 : decode bG_waysOn 81 = .ok (.invokestatic 67, 3) := by decide +kernel
theorem dG_waysOn_84 : decode bG_waysOn 84 = .ok (.iadd, 1) := by decide +kernel
theorem dG_waysOn_85 : decode bG_waysOn 85 = .ok (.ireturn, 1) := by decide +kernel
theorem dG_waysOn_86 : decode bG_waysOn 86 = .ok (.iconst 0, 1) := by decide +kernel
theorem dG_waysOn_87 : decode bG_waysOn 87 = .ok (.istore 6, 2) := by decide +kernel
theorem dG_waysOn_89 : decode bG_waysOn 89 = .ok (.iload 6, 2) := by decide +kernel
theorem dG_waysOn_91 : decode bG_waysOn 91 = .ok (.aload_n 0, 1) := by decide +kernel
theorem dG_waysOn_92 : decode bG_waysOn 92 = .ok (.getfield 24, 3) := by decide +kernel
theorem dG_waysOn_95 : decode bG_waysOn 95 = .ok (.iload_n 1, 1) := by decide +kernel
theorem dG_waysOn_96 : decode bG_waysOn 96 = .ok (.iaload, 1) := by decide +kernel
theorem dG_waysOn_97 : decode bG_waysOn 97 = .ok (.if_icmp .ge 57, 3) := by decide +kernel
theorem dG_waysOn_100 : decode bG_waysOn 100 = .ok (.iload 6, 2) := by decide +kernel
theorem dG_waysOn_102 : decode bG_waysOn 102 = .ok (.bipush 8, 2) := by decide +kernel
theorem dG_waysOn_104 : decode bG_waysOn 104 = .ok (.if_icmp .ge 50, 3) := by decide +kernel
theorem dG_waysOn_107 : decode bG_waysOn 107 = .ok (.aload_n 0, 1) := by decide +kernel
theorem dG_waysOn_108 : decode bG_waysOn 108 = .ok (.iload_n 1, 1) := by decide +kernel
theorem dG_waysOn_109 : decode bG_waysOn 109 = .ok (.iload 6, 2) := by decide +kernel
theorem dG_waysOn_111 : decode bG_waysOn 111 = .ok (.invokevirtual 72, 3) := by decide +kernel
theorem dG_waysOn_114 : decode bG_waysOn 114 = .ok (.istore 7, 2) := by decide +kernel
theorem dG_waysOn_116 : decode bG_waysOn 116 = .ok (.iload 4, 2) := by decide +kernel
theorem dG_waysOn_118 : decode bG_waysOn 118 = .ok (.iload 7, 2) := by decide +kernel
theorem dG_waysOn_120 : decode bG_waysOn 120 = .ok (.invokestatic 44, 3) := by decide +kernel
theorem dG_waysOn_123 : decode bG_waysOn 123 = .ok (.ifCond .ne 25, 3) := by decide +kernel
theorem dG_waysOn_126 : decode bG_waysOn 126 = .ok (.iload 5, 2) := by decide +kernel
theorem dG_waysOn_128 : decode bG_waysOn 128 = .ok (.aload_n 0, 1) := by decide +kernel
theorem dG_waysOn_129 : decode bG_waysOn 129 = .ok (.iload 7, 2) := by decide +kernel
theorem dG_waysOn_131 : decode bG_waysOn 131 = .ok (.iload_n 2, 1) := by decide +kernel
theorem dG_waysOn_132 : decode bG_waysOn 132 = .ok (.iload_n 3, 1) := by decide +kernel
theorem dG_waysOn_133 : decode bG_waysOn 133 = .ok (.iconst 1, 1) := by decide +kernel
theorem dG_waysOn_134 : decode bG_waysOn 134 = .ok (.isub, 1) := by decide +kernel
theorem dG_waysOn_135 : decode bG_waysOn 135 = .ok (.iload 4, 2) := by decide +kernel
theorem dG_waysOn_137 : decode bG_waysOn 137 = .ok (.iconst 1, 1) := by decide +kernel
theorem dG_waysOn_138 : decode bG_waysOn 138 = .ok (.iload 7, 2) := by decide +kernel
theorem dG_waysOn_140 : decode bG_waysOn 140 = .ok (.ishl, 1) := by decide +kernel
theorem dG_waysOn_141 : decode bG_waysOn 141 = .ok (.ior, 1) := by decide +kernel
theorem dG_waysOn_142 : decode bG_waysOn 142 = .ok (.invokevirtual 64, 3) := by decide +kernel
theorem dG_waysOn_145 : decode bG_waysOn 145 = .ok (.iadd, 1) := by decide +kernel
theorem dG_waysOn_146 : decode bG_waysOn 146 = .ok (.istore 5, 2) := by decide +kernel
theorem dG_waysOn_148 : decode bG_waysOn 148 = .ok (.iinc 6 1, 3) := by decide +kernel
theorem dG_waysOn_151 : decode bG_waysOn 151 = .ok (.goto (-62), 3) := by decide +kernel
theorem dG_waysOn_154 : decode bG_waysOn 154 = .ok (.iload 5, 2) := by decide +kernel
theorem dG_waysOn_156 : decode bG_waysOn 156 = .ok (.ireturn, 1) := by decide +kernel
theorem dG_listAll_0 : decode bG_listAll 0 = .ok (.iconst 0, 1) := by decide +kernel
theorem dG_listAll_1 : decode bG_listAll 1 = .ok (.istore_n 2, 1) := by decide +kernel
theorem dG_listAll_2 : decode bG_listAll 2 = .ok (.iload_n 2, 1) := by decide +kernel
theorem dG_listAll_3 : decode bG_listAll 3 = .ok (.aload_n 0, 1) := by decide +kernel
theorem dG_listAll_4 : decode bG_listAll 4 = .ok (.getfield 36, 3) := by decide +kernel
theorem dG_listAll_7 : decode bG_listAll 7 = .ok (.if_icmp .ge 14, 3) := by decide +kernel
theorem dG_listAll_10 : decode bG_listAll 10 = .ok (.aload_n 1, 1) := by decide +kernel
theorem dG_listAll_11 : decode bG_listAll 11 = .ok (.iload_n 2, 1) := by decide +kernel
theorem dG_listAll_12 : decode bG_listAll 12 = .ok (.invokevirtual 76, 3) := by decide +kernel
theorem dG_listAll_15 : decode bG_listAll 15 = .ok (.iinc 2 1, 3) := by decide +kernel
theorem dG_listAll_18 : decode bG_listAll 18 = .ok (.goto (-16), 3) := by decide +kernel
theorem dG_listAll_21 : decode bG_listAll 21 = .ok (.return_, 1) := by decide +kernel
theorem dG_growByNeeds_0 : decode bG_growByNeeds 0 = .ok (.iconst 0, 1) := by decide +kernel
theorem dG_growByNeeds_1 : decode bG_growByNeeds 1 = .ok (.istore_n 3, 1) := by decide +kernel
theorem dG_growByNeeds_2 : decode bG_growByNeeds 2 = .ok (.iconst 0, 1) := by decide +kernel
theorem dG_growByNeeds_3 : decode bG_growByNeeds 3 = .ok (.istore 4, 2) := by decide +kernel
theorem dG_growByNeeds_5 : decode bG_growByNeeds 5 = .ok (.iload 4, 2) := by decide +kernel
theorem dG_growByNeeds_7 : decode bG_growByNeeds 7 = .ok (.iload_n 2, 1) := by decide +kernel
theorem dG_growByNeeds_8 : decode bG_growByNeeds 8 = .ok (.if_icmp .ge 53, 3) := by decide +kernel
theorem dG_growByNeeds_11 : decode bG_growByNeeds 11 = .ok (.iload_n 3, 1) := by decide +kernel
theorem dG_growByNeeds_12 : decode bG_growByNeeds 12 = .ok (.aload_n 1, 1) := by decide +kernel
theorem dG_growByNeeds_13 : decode bG_growByNeeds 13 = .ok (.invokevirtual 82, 3) := by decide +kernel
theorem dG_growByNeeds_16 : decode bG_growByNeeds 16 = .ok (.if_icmp .ge 45, 3) := by decide +kernel
theorem dG_growByNeeds_19 : decode bG_growByNeeds 19 = .ok (.aload_n 1, 1) := by decide +kernel
theorem dG_growByNeeds_20 : decode bG_growByNeeds 20 = .ok (.invokevirtual 82, 3) := by decide +kernel
theorem dG_growByNeeds_23 : decode bG_growByNeeds 23 = .ok (.istore 5, 2) := by decide +kernel
theorem dG_growByNeeds_25 : decode bG_growByNeeds 25 = .ok (.iload_n 3, 1) := by decide +kernel
theorem dG_growByNeeds_26 : decode bG_growByNeeds 26 = .ok (.istore 6, 2) := by decide +kernel
theorem dG_growByNeeds_28 : decode bG_growByNeeds 28 = .ok (.iload 6, 2) := by decide +kernel
theorem dG_growByNeeds_30 : decode bG_growByNeeds 30 = .ok (.iload 5, 2) := by decide +kernel
theorem dG_growByNeeds_32 : decode bG_growByNeeds 32 = .ok (.if_icmp .ge 20, 3) := by decide +kernel
theorem dG_growByNeeds_35 : decode bG_growByNeeds 35 = .ok (.aload_n 0, 1) := by decide +kernel
theorem dG_growByNeeds_36 : decode bG_growByNeeds 36 = .ok (.aload_n 1, 1) := by decide +kernel
theorem dG_growByNeeds_37 : decode bG_growByNeeds 37 = .ok (.iload 6, 2) := by decide +kernel
theorem dG_growByNeeds_39 : decode bG_growByNeeds 39 = .ok (.invokevirtual 86, 3) := by decide +kernel
theorem dG_growByNeeds_42 : decode bG_growByNeeds 42 = .ok (.aload_n 1, 1) := by decide +kernel
theorem dG_growByNeeds_43 : decode bG_growByNeeds 43 = .ok (.invokevirtual 89, 3) := by decide +kernel
theorem dG_growByNeeds_46 : decode bG_growByNeeds 46 = .ok (.iinc 6 1, 3) := by decide +kernel
theorem dG_growByNeeds_49 : decode bG_growByNeeds 49 = .ok (.goto (-21), 3) := by decide +kernel
theorem dG_growByNeeds_52 : decode bG_growByNeeds 52 = .ok (.iload 5, 2) := by decide +kernel
theorem dG_growByNeeds_54 : decode bG_growByNeeds 54 = .ok (.istore_n 3, 1) := by decide +kernel
theorem dG_growByNeeds_55 : decode bG_growByNeeds 55 = .ok (.iinc 4 1, 3) := by decide +kernel
theorem dG_growByNeeds_58 : decode bG_growByNeeds 58 = .ok (.goto (-53), 3) := by decide +kernel
theorem dG_growByNeeds_61 : decode bG_growByNeeds 61 = .ok (.return_, 1) := by decide +kernel
theorem dG_addNeedsOf_0 : decode bG_addNeedsOf 0 = .ok (.iconst 0, 1) := by decide +kernel
theorem dG_addNeedsOf_1 : decode bG_addNeedsOf 1 = .ok (.istore_n 3, 1) := by decide +kernel
theorem dG_addNeedsOf_2 : decode bG_addNeedsOf 2 = .ok (.iload_n 3, 1) := by decide +kernel
theorem dG_addNeedsOf_3 : decode bG_addNeedsOf 3 = .ok (.bipush 8, 2) := by decide +kernel
theorem dG_addNeedsOf_5 : decode bG_addNeedsOf 5 = .ok (.if_icmp .ge 19, 3) := by decide +kernel
theorem dG_addNeedsOf_8 : decode bG_addNeedsOf 8 = .ok (.aload_n 2, 1) := by decide +kernel
theorem dG_addNeedsOf_9 : decode bG_addNeedsOf 9 = .ok (.aload_n 0, 1) := by decide +kernel
theorem dG_addNeedsOf_10 : decode bG_addNeedsOf 10 = .ok (.iload_n 1, 1) := by decide +kernel
theorem dG_addNeedsOf_11 : decode bG_addNeedsOf 11 = .ok (.iload_n 3, 1) := by decide +kernel
theorem dG_addNeedsOf_12 : decode bG_addNeedsOf 12 = .ok (.invokevirtual 72, 3) := by decide +kernel
theorem dG_addNeedsOf_15 : decode bG_addNeedsOf 15 = .ok (.invokevirtual 76, 3) := by decide +kernel
theorem dG_addNeedsOf_18 : decode bG_addNeedsOf 18 = .ok (.iinc 3 1, 3) := by decide +kernel
theorem dG_addNeedsOf_21 : decode bG_addNeedsOf 21 = .ok (.goto (-19), 3) := by decide +kernel
theorem dG_addNeedsOf_24 : decode bG_addNeedsOf 24 = .ok (.return_, 1) := by decide +kernel
theorem dG_growByUsers_0 : decode bG_growByUsers 0 = .ok (.iconst 0, 1) := by decide +kernel
theorem dG_growByUsers_1 : decode bG_growByUsers 1 = .ok (.istore_n 3, 1) := by decide +kernel
theorem dG_growByUsers_2 : decode bG_growByUsers 2 = .ok (.iconst 0, 1) := by decide +kernel
theorem dG_growByUsers_3 : decode bG_growByUsers 3 = .ok (.istore 4, 2) := by decide +kernel
theorem dG_growByUsers_5 : decode bG_growByUsers 5 = .ok (.iload 4, 2) := by decide +kernel
theorem dG_growByUsers_7 : decode bG_growByUsers 7 = .ok (.iload_n 2, 1) := by decide +kernel
theorem dG_growByUsers_8 : decode bG_growByUsers 8 = .ok (.if_icmp .ge 56, 3) := by decide +kernel
theorem dG_growByUsers_11 : decode bG_growByUsers 11 = .ok (.iload_n 3, 1) := by decide +kernel
theorem dG_growByUsers_12 : decode bG_growByUsers 12 = .ok (.aload_n 1, 1) := by decide +kernel
theorem dG_growByUsers_13 : decode bG_growByUsers 13 = .ok (.invokevirtual 82, 3) := by decide +kernel
theorem dG_growByUsers_16 : decode bG_growByUsers 16 = .ok (.if_icmp .ge 48, 3) := by decide +kernel
theorem dG_growByUsers_19 : decode bG_growByUsers 19 = .ok (.aload_n 1, 1) := by decide +kernel
theorem dG_growByUsers_20 : decode bG_growByUsers 20 = .ok (.invokevirtual 82, 3) := by decide +kernel
theorem dG_growByUsers_23 : decode bG_growByUsers 23 = .ok (.istore 5, 2) := by decide +kernel
theorem dG_growByUsers_25 : decode bG_growByUsers 25 = .ok (.iload_n 3, 1) := by decide +kernel
theorem dG_growByUsers_26 : decode bG_growByUsers 26 = .ok (.istore 6, 2) := by decide +kernel
theorem dG_growByUsers_28 : decode bG_growByUsers 28 = .ok (.iload 6, 2) := by decide +kernel
theorem dG_growByUsers_30 : decode bG_growByUsers 30 = .ok (.iload 5, 2) := by decide +kernel
theorem dG_growByUsers_32 : decode bG_growByUsers 32 = .ok (.if_icmp .ge 23, 3) := by decide +kernel
theorem dG_growByUsers_35 : decode bG_growByUsers 35 = .ok (.aload_n 1, 1) := by decide +kernel
theorem dG_growByUsers_36 : decode bG_growByUsers 36 = .ok (.aload_n 0, 1) := by decide +kernel
theorem dG_growByUsers_37 : decode bG_growByUsers 37 = .ok (.aload_n 1, 1) := by decide +kernel
theorem dG_growByUsers_38 : decode bG_growByUsers 38 = .ok (.iload 6, 2) := by decide +kernel
theorem dG_growByUsers_40 : decode bG_growByUsers 40 = .ok (.invokevirtual 86, 3) := by decide +kernel
theorem dG_growByUsers_43 : decode bG_growByUsers 43 = .ok (.invokevirtual 93, 3) := by decide +kernel
theorem dG_growByUsers_46 : decode bG_growByUsers 46 = .ok (.invokevirtual 96, 3) := by decide +kernel
theorem dG_growByUsers_49 : decode bG_growByUsers 49 = .ok (.iinc 6 1, 3) := by decide +kernel
theorem dG_growByUsers_52 : decode bG_growByUsers 52 = .ok (.goto (-24), 3) := by decide +kernel
theorem dG_growByUsers_55 : decode bG_growByUsers 55 = .ok (.iload 5, 2) := by decide +kernel
theorem dG_growByUsers_57 : decode bG_growByUsers 57 = .ok (.istore_n 3, 1) := by decide +kernel
theorem dG_growByUsers_58 : decode bG_growByUsers 58 = .ok (.iinc 4 1, 3) := by decide +kernel
theorem dG_growByUsers_61 : decode bG_growByUsers 61 = .ok (.goto (-56), 3) := by decide +kernel
theorem dG_growByUsers_64 : decode bG_growByUsers 64 = .ok (.return_, 1) := by decide +kernel
theorem dG_usersOf_0 : decode bG_usersOf 0 = .ok (.iload_n 1, 1) := by decide +kernel
theorem dG_usersOf_1 : decode bG_usersOf 1 = .ok (.aload_n 0, 1) := by decide +kernel
theorem dG_usersOf_2 : decode bG_usersOf 2 = .ok (.getfield 36, 3) := by decide +kernel
theorem dG_usersOf_5 : decode bG_usersOf 5 = .ok (.invokestatic 40, 3) := by decide +kernel
theorem dG_usersOf_8 : decode bG_usersOf 8 = .ok (.ifCond .eq 12, 3) := by decide +kernel
theorem dG_usersOf_11 : decode bG_usersOf 11 = .ok (.aload_n 0, 1) := by decide +kernel
theorem dG_usersOf_12 : decode bG_usersOf 12 = .ok (.getfield 30, 3) := by decide +kernel
theorem dG_usersOf_15 : decode bG_usersOf 15 = .ok (.iload_n 1, 1) := by decide +kernel
theorem dG_usersOf_16 : decode bG_usersOf 16 = .ok (.iaload, 1) := by decide +kernel
theorem dG_usersOf_17 : decode bG_usersOf 17 = .ok (.goto 4, 3) := by decide +kernel
theorem dG_usersOf_20 : decode bG_usersOf 20 = .ok (.iconst 0, 1) := by decide +kernel
theorem dG_usersOf_21 : decode bG_usersOf 21 = .ok (.ireturn, 1) := by decide +kernel
theorem dG_findWay_0 : decode bG_findWay 0 = .ok (.iconst 0, 1) := by decide +kernel
theorem dG_findWay_1 : decode bG_findWay 1 = .ok (.istore_n 3, 1) := by decide +kernel
theorem dG_findWay_2 : decode bG_findWay 2 = .ok (.iload_n 3, 1) := by decide +kernel
theorem dG_findWay_3 : decode bG_findWay 3 = .ok (.aload_n 0, 1) := by decide +kernel
theorem dG_findWay_4 : decode bG_findWay 4 = .ok (.getfield 33, 3) := by decide +kernel
theorem dG_findWay_7 : decode bG_findWay 7 = .ok (.arraylength, 1) := by decide +kernel
theorem dG_findWay_8 : decode bG_findWay 8 = .ok (.if_icmp .ge 16, 3) := by decide +kernel
theorem dG_findWay_11 : decode bG_findWay 11 = .ok (.aload_n 0, 1) := by decide +kernel
theorem dG_findWay_12 : decode bG_findWay 12 = .ok (.getfield 33, 3) := by decide +kernel
theorem dG_findWay_15 : decode bG_findWay 15 = .ok (.iload_n 3, 1) := by decide +kernel
theorem dG_findWay_16 : decode bG_findWay 16 = .ok (.iconst (-1), 1) := by decide +kernel
theorem dG_findWay_17 : decode bG_findWay 17 = .ok (.iastore, 1) := by decide +kernel
theorem dG_findWay_18 : decode bG_findWay 18 = .ok (.iinc 3 1, 3) := by decide +kernel
theorem dG_findWay_21 : decode bG_findWay 21 = .ok (.goto (-19), 3) := by decide +kernel
theorem dG_findWay_24 : decode bG_findWay 24 = .ok (.iconst (-1), 1) := by decide +kernel
theorem dG_findWay_25 : decode bG_findWay 25 = .ok (.istore_n 3, 1) := by decide +kernel
theorem dG_findWay_26 : decode bG_findWay 26 = .ok (.iconst 0, 1) := by decide +kernel
theorem dG_findWay_27 : decode bG_findWay 27 = .ok (.istore 4, 2) := by decide +kernel
theorem dG_findWay_29 : decode bG_findWay 29 = .ok (.iload 4, 2) := by decide +kernel
theorem dG_findWay_31 : decode bG_findWay 31 = .ok (.bipush 30, 2) := by decide +kernel
theorem dG_findWay_33 : decode bG_findWay 33 = .ok (.if_icmp .ge 53, 3) := by decide +kernel
theorem dG_findWay_36 : decode bG_findWay 36 = .ok (.iload 4, 2) := by decide +kernel
theorem dG_findWay_38 : decode bG_findWay 38 = .ok (.aload_n 1, 1) := by decide +kernel
theorem dG_findWay_39 : decode bG_findWay 39 = .ok (.invokevirtual 82, 3) := by decide +kernel
theorem dG_findWay_42 : decode bG_findWay 42 = .ok (.if_icmp .ge 44, 3) := by decide +kernel
theorem dG_findWay_45 : decode bG_findWay 45 = .ok (.iload_n 3, 1) := by decide +kernel
theorem dG_findWay_46 : decode bG_findWay 46 = .ok (.iconst (-1), 1) := by decide +kernel
theorem dG_findWay_47 : decode bG_findWay 47 = .ok (.if_icmp .ne 39, 3) := by decide +kernel
theorem dG_findWay_50 : decode bG_findWay 50 = .ok (.aload_n 1, 1) := by decide +kernel
theorem dG_findWay_51 : decode bG_findWay 51 = .ok (.iload 4, 2) := by decide +kernel
theorem dG_findWay_53 : decode bG_findWay 53 = .ok (.invokevirtual 86, 3) := by decide +kernel
theorem dG_findWay_56 : decode bG_findWay 56 = .ok (.istore 5, 2) := by decide +kernel
theorem dG_findWay_58 : decode bG_findWay 58 = .ok (.aload_n 2, 1) := by decide +kernel
theorem dG_findWay_59 : decode bG_findWay 59 = .ok (.iload 5, 2) := by decide +kernel
theorem dG_findWay_61 : decode bG_findWay 61 = .ok (.invokevirtual 99, 3) := by decide +kernel
theorem dG_findWay_64 : decode bG_findWay 64 = .ok (.ifCond .eq 9, 3) := by decide +kernel
theorem dG_findWay_67 : decode bG_findWay 67 = .ok (.iload 5, 2) := by decide +kernel
theorem dG_findWay_69 : decode bG_findWay 69 = .ok (.istore_n 3, 1) := by decide +kernel
theorem dG_findWay_70 : decode bG_findWay 70 = .ok (.goto 10, 3) := by decide +kernel
theorem dG_findWay_73 : decode bG_findWay 73 = .ok (.aload_n 0, 1) := by decide +kernel
theorem dG_findWay_74 : decode bG_findWay 74 = .ok (.iload 5, 2) := by decide +kernel
theorem dG_findWay_76 : decode bG_findWay 76 = .ok (.aload_n 1, 1) := by decide +kernel
theorem dG_findWay_77 : decode bG_findWay 77 = .ok (.invokevirtual 103, 3) := by decide +kernel
theorem dG_findWay_80 : decode bG_findWay 80 = .ok (.iinc 4 1, 3) := by decide +kernel
theorem dG_findWay_83 : decode bG_findWay 83 = .ok (.goto (-54), 3) := by decide +kernel
theorem dG_findWay_86 : decode bG_findWay 86 = .ok (.aload_n 1, 1) := by decide +kernel
theorem dG_findWay_87 : decode bG_findWay 87 = .ok (.invokevirtual 106, 3) := by decide +kernel
theorem dG_findWay_90 : decode bG_findWay 90 = .ok (.iload_n 3, 1) := by decide +kernel
theorem dG_findWay_91 : decode bG_findWay 91 = .ok (.istore 4, 2) := by decide +kernel
theorem dG_findWay_93 : decode bG_findWay 93 = .ok (.iconst 0, 1) := by decide +kernel
theorem dG_findWay_94 : decode bG_findWay 94 = .ok (.istore 5, 2) := by decide +kernel
theorem dG_findWay_96 : decode bG_findWay 96 = .ok (.iload 5, 2) := by decide +kernel
theorem dG_findWay_98 : decode bG_findWay 98 = .ok (.bipush 30, 2) := by decide +kernel
theorem dG_findWay_100 : decode bG_findWay 100 = .ok (.if_icmp .ge 37, 3) := by decide +kernel
theorem dG_findWay_103 : decode bG_findWay 103 = .ok (.iload 4, 2) := by decide +kernel
theorem dG_findWay_105 : decode bG_findWay 105 = .ok (.aload_n 0, 1) := by decide +kernel
theorem dG_findWay_106 : decode bG_findWay 106 = .ok (.getfield 33, 3) := by decide +kernel
theorem dG_findWay_109 : decode bG_findWay 109 = .ok (.arraylength, 1) := by decide +kernel
theorem dG_findWay_110 : decode bG_findWay 110 = .ok (.invokestatic 40, 3) := by decide +kernel
theorem dG_findWay_113 : decode bG_findWay 113 = .ok (.ifCond .eq 24, 3) := by decide +kernel
theorem dG_findWay_116 : decode bG_findWay 116 = .ok (.aload_n 1, 1) := by decide +kernel
theorem dG_findWay_117 : decode bG_findWay 117 = .ok (.iload 4, 2) := by decide +kernel
theorem dG_findWay_119 : decode bG_findWay 119 = .ok (.invokevirtual 76, 3) := by decide +kernel
theorem dG_findWay_122 : decode bG_findWay 122 = .ok (.aload_n 0, 1) := by decide +kernel
theorem dG_findWay_123 : decode bG_findWay 123 = .ok (.getfield 33, 3) := by decide +kernel
theorem dG_findWay_126 : decode bG_findWay 126 = .ok (.iload 4, 2) := by decide +kernel
theorem dG_findWay_128 : decode bG_findWay 128 = .ok (.iaload, 1) := by decide +kernel
theorem dG_findWay_129 : decode bG_findWay 129 = .ok (.istore 4, 2) := by decide +kernel
theorem dG_findWay_131 : decode bG_findWay 131 = .ok (.iinc 5 1, 3) := by decide +kernel
theorem dG_findWay_134 : decode bG_findWay 134 = .ok (.goto (-38), 3) := by decide +kernel
theorem dG_findWay_137 : decode bG_findWay 137 = .ok (.aload_n 1, 1) := by decide +kernel
theorem dG_findWay_138 : decode bG_findWay 138 = .ok (.invokevirtual 109, 3) := by decide +kernel
theorem dG_findWay_141 : decode bG_findWay 141 = .ok (.return_, 1) := by decide +kernel
theorem dG_noteNeedsOf_0 : decode bG_noteNeedsOf 0 = .ok (.iconst 0, 1) := by decide +kernel
theorem dG_noteNeedsOf_1 : decode bG_noteNeedsOf 1 = .ok (.istore_n 3, 1) := by decide +kernel
theorem dG_noteNeedsOf_2 : decode bG_noteNeedsOf 2 = .ok (.iload_n 3, 1) := by decide +kernel
theorem dG_noteNeedsOf_3 : decode bG_noteNeedsOf 3 = .ok (.bipush 8, 2) := by decide +kernel
theorem dG_noteNeedsOf_5 : decode bG_noteNeedsOf 5 = .ok (.if_icmp .ge 53, 3) := by decide +kernel
theorem dG_noteNeedsOf_8 : decode bG_noteNeedsOf 8 = .ok (.aload_n 0, 1) := by decide +kernel
theorem dG_noteNeedsOf_9 : decode bG_noteNeedsOf 9 = .ok (.iload_n 1, 1) := by decide +kernel
theorem dG_noteNeedsOf_10 : decode bG_noteNeedsOf 10 = .ok (.iload_n 3, 1) := by decide +kernel
theorem dG_noteNeedsOf_11 : decode bG_noteNeedsOf 11 = .ok (.invokevirtual 72, 3) := by decide +kernel
theorem dG_noteNeedsOf_14 : decode bG_noteNeedsOf 14 = .ok (.istore 4, 2) := by decide +kernel
theorem dG_noteNeedsOf_16 : decode bG_noteNeedsOf 16 = .ok (.iload 4, 2) := by decide +kernel
theorem dG_noteNeedsOf_18 : decode bG_noteNeedsOf 18 = .ok (.aload_n 0, 1) := by decide +kernel
theorem dG_noteNeedsOf_19 : decode bG_noteNeedsOf 19 = .ok (.getfield 33, 3) := by decide +kernel
theorem dG_noteNeedsOf_22 : decode bG_noteNeedsOf 22 = .ok (.arraylength, 1) := by decide +kernel
theorem dG_noteNeedsOf_23 : decode bG_noteNeedsOf 23 = .ok (.invokestatic 40, 3) := by decide +kernel
theorem dG_noteNeedsOf_26 : decode bG_noteNeedsOf 26 = .ok (.ifCond .eq 26, 3) := by decide +kernel
theorem dG_noteNeedsOf_29 : decode bG_noteNeedsOf 29 = .ok (.aload_n 2, 1) := by decide +kernel
theorem dG_noteNeedsOf_30 : decode bG_noteNeedsOf 30 = .ok (.iload 4, 2) := by decide +kernel
theorem dG_noteNeedsOf_32 : decode bG_noteNeedsOf 32 = .ok (.invokevirtual 99, 3) := by decide +kernel
theorem dG_noteNeedsOf_35 : decode bG_noteNeedsOf 35 = .ok (.ifCond .ne 17, 3) := by decide +kernel
theorem dG_noteNeedsOf_38 : decode bG_noteNeedsOf 38 = .ok (.aload_n 0, 1) := by decide +kernel
theorem dG_noteNeedsOf_39 : decode bG_noteNeedsOf 39 = .ok (.getfield 33, 3) := by decide +kernel
theorem dG_noteNeedsOf_42 : decode bG_noteNeedsOf 42 = .ok (.iload 4, 2) := by decide +kernel
theorem dG_noteNeedsOf_44 : decode bG_noteNeedsOf 44 = .ok (.iload_n 1, 1) := by decide +kernel
theorem dG_noteNeedsOf_45 : decode bG_noteNeedsOf 45 = .ok (.iastore, 1) := by decide +kernel
theorem dG_noteNeedsOf_46 : decode bG_noteNeedsOf 46 = .ok (.aload_n 2, 1) := by decide +kernel
theorem dG_noteNeedsOf_47 : decode bG_noteNeedsOf 47 = .ok (.iload 4, 2) := by decide +kernel
theorem dG_noteNeedsOf_49 : decode bG_noteNeedsOf 49 = .ok (.invokevirtual 76, 3) := by decide +kernel
theorem dG_noteNeedsOf_52 : decode bG_noteNeedsOf 52 = .ok (.iinc 3 1, 3) := by decide +kernel
theorem dG_noteNeedsOf_55 : decode bG_noteNeedsOf 55 = .ok (.goto (-53), 3) := by decide +kernel
theorem dG_noteNeedsOf_58 : decode bG_noteNeedsOf 58 = .ok (.return_, 1) := by decide +kernel
theorem dG_keepKind_0 : decode bG_keepKind 0 = .ok (.aload_n 1, 1) := by decide +kernel
theorem dG_keepKind_1 : decode bG_keepKind 1 = .ok (.aload_n 0, 1) := by decide +kernel
theorem dG_keepKind_2 : decode bG_keepKind 2 = .ok (.iload_n 2, 1) := by decide +kernel
theorem dG_keepKind_3 : decode bG_keepKind 3 = .ok (.invokevirtual 112, 3) := by decide +kernel
theorem dG_keepKind_6 : decode bG_keepKind 6 = .ok (.invokevirtual 115, 3) := by decide +kernel
theorem dG_keepKind_9 : decode bG_keepKind 9 = .ok (.return_, 1) := by decide +kernel
theorem dG_findTests_0 : decode bG_findTests 0 = .ok (.aload_n 1, 1) := by decide +kernel
theorem dG_findTests_1 : decode bG_findTests 1 = .ok (.invokevirtual 118, 3) := by decide +kernel
theorem dG_findTests_4 : decode bG_findTests 4 = .ok (.istore_n 2, 1) := by decide +kernel
theorem dG_findTests_5 : decode bG_findTests 5 = .ok (.iconst 0, 1) := by decide +kernel
theorem dG_findTests_6 : decode bG_findTests 6 = .ok (.istore_n 3, 1) := by decide +kernel
theorem dG_findTests_7 : decode bG_findTests 7 = .ok (.iload_n 3, 1) := by decide +kernel
theorem dG_findTests_8 : decode bG_findTests 8 = .ok (.bipush 30, 2) := by decide +kernel
theorem dG_findTests_10 : decode bG_findTests 10 = .ok (.if_icmp .ge 21, 3) := by decide +kernel
theorem dG_findTests_13 : decode bG_findTests 13 = .ok (.iload_n 2, 1) := by decide +kernel
theorem dG_findTests_14 : decode bG_findTests 14 = .ok (.aload_n 0, 1) := by decide +kernel
theorem dG_findTests_15 : decode bG_findTests 15 = .ok (.aload_n 0, 1) := by decide +kernel
theorem dG_findTests_16 : decode bG_findTests 16 = .ok (.getfield 30, 3) := by decide +kernel
theorem dG_findTests_19 : decode bG_findTests 19 = .ok (.iload_n 2, 1) := by decide +kernel
theorem dG_findTests_20 : decode bG_findTests 20 = .ok (.invokevirtual 60, 3) := by decide +kernel
theorem dG_findTests_23 : decode bG_findTests 23 = .ok (.ior, 1) := by decide +kernel
theorem dG_findTests_24 : decode bG_findTests 24 = .ok (.istore_n 2, 1) := by decide +kernel
theorem dG_findTests_25 : decode bG_findTests 25 = .ok (.iinc 3 1, 3) := by decide +kernel
theorem dG_findTests_28 : decode bG_findTests 28 = .ok (.goto (-21), 3) := by decide +kernel
theorem dG_findTests_31 : decode bG_findTests 31 = .ok (.aload_n 1, 1) := by decide +kernel
theorem dG_findTests_32 : decode bG_findTests 32 = .ok (.invokevirtual 106, 3) := by decide +kernel
theorem dG_findTests_35 : decode bG_findTests 35 = .ok (.aload_n 1, 1) := by decide +kernel
theorem dG_findTests_36 : decode bG_findTests 36 = .ok (.iload_n 2, 1) := by decide +kernel
theorem dG_findTests_37 : decode bG_findTests 37 = .ok (.aload_n 0, 1) := by decide +kernel
theorem dG_findTests_38 : decode bG_findTests 38 = .ok (.iconst 3, 1) := by decide +kernel
theorem dG_findTests_39 : decode bG_findTests 39 = .ok (.invokevirtual 112, 3) := by decide +kernel
theorem dG_findTests_42 : decode bG_findTests 42 = .ok (.iand, 1) := by decide +kernel
theorem dG_findTests_43 : decode bG_findTests 43 = .ok (.invokevirtual 96, 3) := by decide +kernel
theorem dG_findTests_46 : decode bG_findTests 46 = .ok (.return_, 1) := by decide +kernel
theorem dG_ofKind_0 : decode bG_ofKind 0 = .ok (.iconst 0, 1) := by decide +kernel
theorem dG_ofKind_1 : decode bG_ofKind 1 = .ok (.istore_n 2, 1) := by decide +kernel
theorem dG_ofKind_2 : decode bG_ofKind 2 = .ok (.iconst 0, 1) := by decide +kernel
theorem dG_ofKind_3 : decode bG_ofKind 3 = .ok (.istore_n 3, 1) := by decide +kernel
theorem dG_ofKind_4 : decode bG_ofKind 4 = .ok (.iload_n 3, 1) := by decide +kernel
theorem dG_ofKind_5 : decode bG_ofKind 5 = .ok (.aload_n 0, 1) := by decide +kernel
theorem dG_ofKind_6 : decode bG_ofKind 6 = .ok (.getfield 36, 3) := by decide +kernel
theorem dG_ofKind_9 : decode bG_ofKind 9 = .ok (.if_icmp .ge 34, 3) := by decide +kernel
theorem dG_ofKind_12 : decode bG_ofKind 12 = .ok (.iload_n 3, 1) := by decide +kernel
theorem dG_ofKind_13 : decode bG_ofKind 13 = .ok (.aload_n 0, 1) := by decide +kernel
theorem dG_ofKind_14 : decode bG_ofKind 14 = .ok (.getfield 15, 3) := by decide +kernel
theorem dG_ofKind_17 : decode bG_ofKind 17 = .ok (.arraylength, 1) := by decide +kernel
theorem dG_ofKind_18 : decode bG_ofKind 18 = .ok (.if_icmp .ge 25, 3) := by decide +kernel
theorem dG_ofKind_21 : decode bG_ofKind 21 = .ok (.aload_n 0, 1) := by decide +kernel
theorem dG_ofKind_22 : decode bG_ofKind 22 = .ok (.getfield 15, 3) := by decide +kernel
theorem dG_ofKind_25 : decode bG_ofKind 25 = .ok (.iload_n 3, 1) := by decide +kernel
theorem dG_ofKind_26 : decode bG_ofKind 26 = .ok (.iaload, 1) := by decide +kernel
theorem dG_ofKind_27 : decode bG_ofKind 27 = .ok (.iload_n 1, 1) := by decide +kernel
theorem dG_ofKind_28 : decode bG_ofKind 28 = .ok (.if_icmp .ne 9, 3) := by decide +kernel
theorem dG_ofKind_31 : decode bG_ofKind 31 = .ok (.iload_n 2, 1) := by decide +kernel
theorem dG_ofKind_32 : decode bG_ofKind 32 = .ok (.iconst 1, 1) := by decide +kernel
theorem dG_ofKind_33 : decode bG_ofKind 33 = .ok (.iload_n 3, 1) := by decide +kernel
theorem dG_ofKind_34 : decode bG_ofKind 34 = .ok (.ishl, 1) := by decide +kernel
theorem dG_ofKind_35 : decode bG_ofKind 35 = .ok (.ior, 1) := by decide +kernel
theorem dG_ofKind_36 : decode bG_ofKind 36 = .ok (.istore_n 2, 1) := by decide +kernel
theorem dG_ofKind_37 : decode bG_ofKind 37 = .ok (.iinc 3 1, 3) := by decide +kernel
theorem dG_ofKind_40 : decode bG_ofKind 40 = .ok (.goto (-36), 3) := by decide +kernel
theorem dG_ofKind_43 : decode bG_ofKind 43 = .ok (.iload_n 2, 1) := by decide +kernel
theorem dG_ofKind_44 : decode bG_ofKind 44 = .ok (.ireturn, 1) := by decide +kernel
theorem dG_findSame_0 : decode bG_findSame 0 = .ok (.iconst 0, 1) := by decide +kernel
theorem dG_findSame_1 : decode bG_findSame 1 = .ok (.istore_n 2, 1) := by decide +kernel
theorem dG_findSame_2 : decode bG_findSame 2 = .ok (.iconst 0, 1) := by decide +kernel
theorem dG_findSame_3 : decode bG_findSame 3 = .ok (.istore_n 3, 1) := by decide +kernel
theorem dG_findSame_4 : decode bG_findSame 4 = .ok (.iload_n 3, 1) := by decide +kernel
theorem dG_findSame_5 : decode bG_findSame 5 = .ok (.aload_n 1, 1) := by decide +kernel
theorem dG_findSame_6 : decode bG_findSame 6 = .ok (.invokevirtual 82, 3) := by decide +kernel
theorem dG_findSame_9 : decode bG_findSame 9 = .ok (.if_icmp .ge 23, 3) := by decide +kernel
theorem dG_findSame_12 : decode bG_findSame 12 = .ok (.iload_n 2, 1) := by decide +kernel
theorem dG_findSame_13 : decode bG_findSame 13 = .ok (.iconst 1, 1) := by decide +kernel
theorem dG_findSame_14 : decode bG_findSame 14 = .ok (.aload_n 0, 1) := by decide +kernel
theorem dG_findSame_15 : decode bG_findSame 15 = .ok (.aload_n 1, 1) := by decide +kernel
theorem dG_findSame_16 : decode bG_findSame 16 = .ok (.iload_n 3, 1) := by decide +kernel
theorem dG_findSame_17 : decode bG_findSame 17 = .ok (.invokevirtual 86, 3) := by decide +kernel
theorem dG_findSame_20 : decode bG_findSame 20 = .ok (.invokevirtual 121, 3) := by decide +kernel
theorem dG_findSame_23 : decode bG_findSame 23 = .ok (.ishl, 1) := by decide +kernel
theorem dG_findSame_24 : decode bG_findSame 24 = .ok (.ior, 1) := by decide +kernel
theorem dG_findSame_25 : decode bG_findSame 25 = .ok (.istore_n 2, 1) := by decide +kernel
theorem dG_findSame_26 : decode bG_findSame 26 = .ok (.iinc 3 1, 3) := by decide +kernel
theorem dG_findSame_29 : decode bG_findSame 29 = .ok (.goto (-25), 3) := by decide +kernel
theorem dG_findSame_32 : decode bG_findSame 32 = .ok (.aload_n 1, 1) := by decide +kernel
theorem dG_findSame_33 : decode bG_findSame 33 = .ok (.invokevirtual 106, 3) := by decide +kernel
theorem dG_findSame_36 : decode bG_findSame 36 = .ok (.iconst 0, 1) := by decide +kernel
theorem dG_findSame_37 : decode bG_findSame 37 = .ok (.istore_n 3, 1) := by decide +kernel
theorem dG_findSame_38 : decode bG_findSame 38 = .ok (.iload_n 3, 1) := by decide +kernel
theorem dG_findSame_39 : decode bG_findSame 39 = .ok (.aload_n 0, 1) := by decide +kernel
theorem dG_findSame_40 : decode bG_findSame 40 = .ok (.getfield 36, 3) := by decide +kernel
theorem dG_findSame_43 : decode bG_findSame 43 = .ok (.if_icmp .ge 26, 3) := by decide +kernel
theorem dG_findSame_46 : decode bG_findSame 46 = .ok (.iload_n 2, 1) := by decide +kernel
theorem dG_findSame_47 : decode bG_findSame 47 = .ok (.aload_n 0, 1) := by decide +kernel
theorem dG_findSame_48 : decode bG_findSame 48 = .ok (.iload_n 3, 1) := by decide +kernel
theorem dG_findSame_49 : decode bG_findSame 49 = .ok (.invokevirtual 121, 3) := by decide +kernel
theorem dG_findSame_52 : decode bG_findSame 52 = .ok (.iushr, 1) := by decide +kernel
theorem dG_findSame_53 : decode bG_findSame 53 = .ok (.iconst 1, 1) := by decide +kernel
theorem dG_findSame_54 : decode bG_findSame 54 = .ok (.iand, 1) := by decide +kernel
theorem dG_findSame_55 : decode bG_findSame 55 = .ok (.ifCond .eq 8, 3) := by decide +kernel
theorem dG_findSame_58 : decode bG_findSame 58 = .ok (.aload_n 1, 1) := by decide +kernel
theorem dG_findSame_59 : decode bG_findSame 59 = .ok (.iload_n 3, 1) := by decide +kernel
theorem dG_findSame_60 : decode bG_findSame 60 = .ok (.invokevirtual 76, 3) := by decide +kernel
theorem dG_findSame_63 : decode bG_findSame 63 = .ok (.iinc 3 1, 3) := by decide +kernel
theorem dG_findSame_66 : decode bG_findSame 66 = .ok (.goto (-28), 3) := by decide +kernel
theorem dG_findSame_69 : decode bG_findSame 69 = .ok (.return_, 1) := by decide +kernel
theorem dG_packOf_0 : decode bG_packOf 0 = .ok (.iload_n 1, 1) := by decide +kernel
theorem dG_packOf_1 : decode bG_packOf 1 = .ok (.aload_n 0, 1) := by decide +kernel
theorem dG_packOf_2 : decode bG_packOf 2 = .ok (.getfield 36, 3) := by decide +kernel
theorem dG_packOf_5 : decode bG_packOf 5 = .ok (.invokestatic 40, 3) := by decide +kernel
theorem dG_packOf_8 : decode bG_packOf 8 = .ok (.ifCond .eq 15, 3) := by decide +kernel
theorem dG_packOf_11 : decode bG_packOf 11 = .ok (.aload_n 0, 1) := by decide +kernel
theorem dG_packOf_12 : decode bG_packOf 12 = .ok (.getfield 9, 3) := by decide +kernel
theorem dG_packOf_15 : decode bG_packOf 15 = .ok (.iload_n 1, 1) := by decide +kernel
theorem dG_packOf_16 : decode bG_packOf 16 = .ok (.iaload, 1) := by decide +kernel
theorem dG_packOf_17 : decode bG_packOf 17 = .ok (.bipush 10, 2) := by decide +kernel
theorem dG_packOf_19 : decode bG_packOf 19 = .ok (.idiv, 1) := by decide +kernel
theorem dG_packOf_20 : decode bG_packOf 20 = .ok (.goto 5, 3) := by decide +kernel
theorem dG_packOf_23 : decode bG_packOf 23 = .ok (.bipush 6, 2) := by decide +kernel
theorem dG_packOf_25 : decode bG_packOf 25 = .ok (.ireturn, 1) := by decide +kernel
theorem dG_below_0 : decode bG_below 0 = .ok (.iload_n 0, 1) := by decide +kernel
theorem dG_below_1 : decode bG_below 1 = .ok (.ifCond .lt 12, 3) := by decide +kernel
theorem dG_below_4 : decode bG_below 4 = .ok (.iload_n 0, 1) := by decide +kernel
theorem dG_below_5 : decode bG_below 5 = .ok (.iload_n 1, 1) := by decide +kernel
theorem dG_below_6 : decode bG_below 6 = .ok (.if_icmp .ge 7, 3) := by decide +kernel
theorem dG_below_9 : decode bG_below 9 = .ok (.iconst 1, 1) := by decide +kernel
theorem dG_below_10 : decode bG_below 10 = .ok (.goto 4, 3) := by decide +kernel
theorem dG_below_13 : decode bG_below 13 = .ok (.iconst 0, 1) := by decide +kernel
theorem dG_below_14 : decode bG_below 14 = .ok (.ireturn, 1) := by decide +kernel
end
section
-- ===== Graph: the pure picture =====
/-- the targets in order: name (10 * package + digit), kind, needs -/
abbrev Gr : Type := List (Nat × Nat × List Nat)
def gN (g : Gr) (t : Nat) : Nat := (g.getD t (0, 0, [])).1
def gK (g : Gr) (t : Nat) : Nat := (g.getD t (0, 0, [])).2.1
def gD (g : Gr) (t : Nat) : List Nat := (g.getD t (0, 0, [])).2.2
/-- the number of the target of a name -/
def gNumN (g : Gr) (nm : Nat) : Nat → Option Nat
  | 0 => none
  | n + 1 => match gNumN g nm n with
    | some t => some t
    | none => if gN g n = nm then some n else none
def gNum (g : Gr) (nm : Nat) : Option Nat := gNumN g nm g.length
def gNo (g : Gr) (nm : Nat) : Int32 := match gNum g nm with
  | some t => nI t
  | none => -1
def GrOK (g : Gr) : Prop := g.length ≤ 30 ∧ (∀ t, t < g.length → gN g t < 60 ∧ gK g t < 4) ∧ (∀ t u, t < g.length → u < g.length → gN g t = gN g u → t = u) ∧ ∀ t, (gD g t).Nodup ∧ (gD g t).length ≤ 8 ∧ ∀ u ∈ gD g t, u < g.length
/-- the arrays hold the targets -/
def GrRel (g : Gr) (F : Nat → Nat → Int32) : Prop := GrOK g ∧ (∀ t, t < g.length → F 1 t = nI (gN g t)) ∧ (∀ t, t < g.length → F 2 t = nI (gK g t)) ∧ (∀ nm, nm < 60 → F 3 nm = gNo g nm) ∧ (∀ t i, t < 30 → i < (gD g t).length → F 4 (t * 8 + i) = nI ((gD g t).getD i 0)) ∧ (∀ t, t < 30 → F 5 t = nI (gD g t).length) ∧ (∀ t, t < 30 → ∀ i, i < 32 → bt (F 6 t) i = decide (i ∈ gD g t)) ∧ ∀ u, u < 30 → ∀ i, i < 32 → bt (F 7 u) i = decide (u ∈ gD g i)
/-- the cells k .. k + 8 are a Graph with these arrays -/
def GraphF (cI : ClassId) (ad : Nat → Nat) (ws : va_W) (k : Nat) (F : Nat → Nat → Int32) (n : Nat) : Prop := ws[k]? = some (ad k, .inr (0, [.ref (ad (k + 1)), .ref (ad (k + 2)), .ref (ad (k + 3)), .ref (ad (k + 4)), .ref (ad (k + 5)), .ref (ad (k + 6)), .ref (ad (k + 7)), .ref (ad (k + 8)), .int (nI n)])) ∧ ws[k + 1]? = some (ad (k + 1), .inl (cI, 30, .inl (F 1))) ∧ ws[k + 2]? = some (ad (k + 2), .inl (cI, 30, .inl (F 2))) ∧ ws[k + 3]? = some (ad (k + 3), .inl (cI, 60, .inl (F 3))) ∧ ws[k + 4]? = some (ad (k + 4), .inl (cI, 240, .inl (F 4))) ∧ ws[k + 5]? = some (ad (k + 5), .inl (cI, 30, .inl (F 5))) ∧ ws[k + 6]? = some (ad (k + 6), .inl (cI, 30, .inl (F 6))) ∧ ws[k + 7]? = some (ad (k + 7), .inl (cI, 30, .inl (F 7))) ∧ ws[k + 8]? = some (ad (k + 8), .inl (cI, 30, .inl (F 8)))
def GraphAt (cI : ClassId) (ad : Nat → Nat) (ws : va_W) (k : Nat) (g : Gr) : Prop := ∃ F, GraphF cI ad ws k F g.length ∧ GrRel g F
theorem gD_out {g : Gr} {t : Nat} (h : g.length ≤ t) : gD g t = [] := by
  unfold gD
  rw [List.getD_eq_getElem?_getD, List.getElem?_eq_none h]; rfl
theorem GraphAt.obj {cI : ClassId} {ad : Nat → Nat} {ws : va_W} {k : Nat} {g : Gr} (h : GraphAt cI ad ws k g) : ∃ fs, ws[k]? = some (ad k, .inr (0, fs)) := by
  obtain ⟨F, h0, -⟩ := h
  exact ⟨_, h0.1⟩
theorem GraphAt.ok {cI : ClassId} {ad : Nat → Nat} {ws : va_W} {k : Nat} {g : Gr} (h : GraphAt cI ad ws k g) : GrOK g := by
  obtain ⟨F, -, h0⟩ := h
  exact h0.1
theorem GraphAt.keep {cI : ClassId} {ad : Nat → Nat} {ws ws1 : va_W} {k a b : Nat} {g : Gr} (h : GraphAt cI ad ws k g) (hf : x_fr a b ws ws1) (hd : k + 9 ≤ a ∨ b ≤ k) : GraphAt cI ad ws1 k g := by
  obtain ⟨F, ⟨h0, h1, h2, h3, h4, h5, h6, h7, h8⟩, r⟩ := h
  exact ⟨F, ⟨(hf _ (by omega)).trans h0, (hf _ (by omega)).trans h1, (hf _ (by omega)).trans h2, (hf _ (by omega)).trans h3, (hf _ (by omega)).trans h4, (hf _ (by omega)).trans h5, (hf _ (by omega)).trans h6, (hf _ (by omega)).trans h7, (hf _ (by omega)).trans h8⟩, r⟩
-- ===== below =====
def blw (v b : Int32) : Bool := decide (0 ≤ v.toInt) && decide (v.toInt < b.toInt)
theorem blw_neg {v b : Int32} (h : v < 0) : blw v b = false := by
  rw [i32_lt, i32_0] at h
  unfold blw
  rw [decide_eq_false (by omega)]; rfl
theorem blw_ge {v b : Int32} (h : b ≤ v) : blw v b = false := by
  rw [i32_le] at h
  unfold blw
  rw [decide_eq_false (p := v.toInt < b.toInt) (by omega)]; cases decide (0 ≤ v.toInt) <;> rfl
theorem blw_in {v b : Int32} (h : ¬ v < 0) (h2 : ¬ b ≤ v) : blw v b = true := by
  rw [i32_lt, i32_0] at h
  rw [i32_le] at h2
  unfold blw
  rw [decide_eq_true (by omega), decide_eq_true (by omega)]; rfl
theorem blw_of {v : Int32} {n : Nat} {r : Int32} (hn : n < 2 ^ 31) (e : r = b2i (blw v (nI n))) (h : ¬ r = 0) : ∃ j : Nat, j < n ∧ v = nI j := by
  rw [e, b2i_n0] at h
  unfold blw at h
  rw [nI_toInt hn, Bool.and_eq_true, decide_eq_true_eq, decide_eq_true_eq] at h
  obtain ⟨j, hj, rfl⟩ := nI_of (x := v) (by rw [i32_lt, i32_0]; omega)
  rw [nI_toInt hj] at h
  exact ⟨j, by omega, rfl⟩
theorem blw_no {v : Int32} {n : Nat} {r : Int32} (hn : n < 2 ^ 31) (e : r = b2i (blw v (nI n))) (h : r = 0) : ¬ (0 ≤ v.toInt ∧ v.toInt < (n : Int)) := by
  rw [e, b2i_0] at h
  unfold blw at h
  rw [nI_toInt hn] at h
  intro hc
  rw [decide_eq_true hc.1, decide_eq_true hc.2] at h
  cases h

set_option maxHeartbeats 4000000 in
set_option maxRecDepth 100000 in
/-- Graph.below(value, bound) -/
theorem cG_below (l : Launch) (D : va_G) (tys : List (ClassId × FieldType)) (A : Nat → Prop) (ws : va_W) (v b : Int32) : x_Mi l yG_below wG_below (xR 0) D xCl tys A [.int v, .int b] ws (fun r ws1 => r = b2i (blw v b) ∧ ws = ws1) := by
  refine x_enter (by decide) rfl (Nat.le_of_ble_eq_true rfl) (fun p e s m args below meth c ls hx hb hr hlk hml hown hnm hts hK hP hD hS hA hN hl => ?_)
  have hl : lv_has ls 2 [(0, .int v), (1, .int b)] := hl
  refine lv_iload_n hx hb dG_below_0 rfl (lv_at hl 0 rfl) ?_
  refine lv_if_lt (tgt := 13) hx hb dG_below_1 (by decide) (fun c1 => ?_) (fun c1 => ?_)
  · refine lv_iconst (v := 0) hx hb dG_below_13 (by decide) ?_
    exact x_zret hx hb hr rfl hlk hK hP hD hS dG_below_14 ⟨by rw [blw_neg c1]; rfl, rfl⟩
  · refine lv_iload_n hx hb dG_below_4 rfl (lv_at hl 0 rfl) ?_
    refine lv_iload_n hx hb dG_below_5 rfl (lv_at hl 1 rfl) ?_
    refine lv_icmp_ge (tgt := 13) hx hb dG_below_6 (by decide) (fun c6 => ?_) (fun c6 => ?_)
    · refine lv_iconst (v := 0) hx hb dG_below_13 (by decide) ?_
      exact x_zret hx hb hr rfl hlk hK hP hD hS dG_below_14 ⟨by rw [blw_ge c6]; rfl, rfl⟩
    · refine lv_iconst (v := 1) hx hb dG_below_9 (by decide) ?_
      refine lv_goto (tgt := 14) hx hb dG_below_10 (by decide) ?_
      exact x_zret hx hb hr rfl hlk hK hP hD hS dG_below_14 ⟨by rw [blw_in c1 c6]; rfl, rfl⟩

/-- the i-th need of t, -1 where there is none -/
def gAt (g : Gr) (t i : Int32) : Int32 := if 0 ≤ t.toInt ∧ 0 ≤ i.toInt ∧ i.toInt < (gD g t.toInt.toNat).length then nI ((gD g t.toInt.toNat).getD i.toInt.toNat 0) else -1
theorem gAt_nI (g : Gr) {t i : Nat} (ht : t < 2 ^ 31) (hi : i < (gD g t).length) (hi2 : i < 2 ^ 31) : gAt g (nI t) (nI i) = nI ((gD g t).getD i 0) := by
  unfold gAt
  rw [nI_toInt ht, nI_toInt hi2, if_pos ⟨by omega, by omega, by simpa using hi⟩]; simp
theorem gAt_no {g : Gr} {t i : Int32} (h : ¬ (0 ≤ t.toInt ∧ 0 ≤ i.toInt ∧ i.toInt < (gD g t.toInt.toNat).length)) : gAt g t i = -1 := if_neg h
theorem gAt_noT {g : Gr} {t i : Int32} (h : ¬ (0 ≤ t.toInt ∧ t.toInt < g.length)) : gAt g t i = -1 := gAt_no (fun hc => by
  have e : gD g t.toInt.toNat = [] := gD_out (by omega)
  rw [e] at hc
  simp at hc
  omega)

set_option maxHeartbeats 4000000 in
set_option maxRecDepth 100000 in
/-- Graph.needAt(t, i) -/
theorem cG_needAt (l : Launch) (D : va_G) (tys : List (ClassId × FieldType)) (A : Nat → Prop) (ws : va_W) (cI : ClassId) (hI : tys[0]? = some (cI, .int)) (ad : Nat → Nat) (k : Nat) (g : Gr) (t i : Int32) (hG : GraphAt cI ad ws k g) : x_Mi l yG_needAt wG_needAt (xR 1) D xCl tys A [.ref (ad k), .int t, .int i] ws (fun r ws1 => r = gAt g t i ∧ ws = ws1) := by
  obtain ⟨F, ⟨h0, h1, h2, h3, h4, h5, h6, h7, h8⟩, hR⟩ := id hG
  obtain ⟨⟨hle, hok1, hok2, hok3⟩, hr1, hr2, hr3, hr4, hr5, hr6, hr7⟩ := id hR
  refine x_enter (by decide) rfl (Nat.le_of_ble_eq_true rfl) (fun p e s m args below meth c ls hx hb hr hlk hml hown hnm hts hK hP hD hS hA hN hl => ?_)
  have hl : lv_has ls 3 [(0, .ref (ad k)), (1, .int t), (2, .int i)] := hl
  refine lv_iload_n hx hb dG_needAt_0 rfl (lv_at hl 1 rfl) ?_
  refine lv_aload_n hx hb dG_needAt_1 rfl (lv_at hl 0 rfl) ?_
  refine va_get (D := D) (cl := xCl) (ci := 0) (v := .int (nI g.length)) (C := rnG) (T := tbG) (N := 9) hx hb hts inG hown hK hP k h0 rfl 8 (by decide) (hts _ tw_37) (fun _ h9 => h9) rfl dG_needAt_2 ?_
  refine x_calli (x_runS (n := 2) (As := [.int t, .int (nI g.length)]) (rest := []) ⟨hx, hb, hml, hown, hts⟩ (cG_below l D tys A ws t ((nI g.length))) tw_178 tw_179 tw_2 tw_180 (by decide +kernel) rfl rfl ⟨by decide, by decide⟩ ⟨Nat.zero_le _, Nat.zero_le _⟩ hK hP hD hS hA hN rfl hl.1 rfl (lv_room (Nat.le_of_ble_eq_true rfl)) dG_needAt_5) hS (fun rhb1 ws_1 H locs hb1 hP hD hS => ?_)
  obtain ⟨hb1, rfl⟩ := hb1
  refine lv_if_eq (tgt := 30) hx hb dG_needAt_8 (by decide) (fun c8 => ?_) (fun c8 => ?_)
  · refine lv_iconst (v := (-1)) hx hb dG_needAt_30 (by decide) ?_
    exact x_iret hx hb hr hlk hK hP hD hS dG_needAt_31 ⟨by rw [gAt_noT (blw_no (by omega) hb1 c8)], rfl⟩
  · obtain ⟨ta, hta, rfl⟩ := blw_of (by omega) hb1 c8
    refine lv_iload_n hx hb dG_needAt_11 rfl (lv_at hl 2 rfl) ?_
    refine lv_bipush (v := 8) hx hb dG_needAt_12 (by decide) ?_
    refine x_calli (x_runS (n := 2) (As := [.int i, .int 8]) (rest := []) ⟨hx, hb, hml, hown, hts⟩ (cG_below l D tys A ws i 8) tw_178 tw_179 tw_2 tw_180 (by decide +kernel) rfl rfl ⟨by decide, by decide⟩ ⟨Nat.zero_le _, Nat.zero_le _⟩ hK hP hD hS hA hN rfl hl.1 rfl (lv_room (Nat.le_of_ble_eq_true rfl)) dG_needAt_14) hS (fun rhb2 ws_2 H locs hb2 hP hD hS => ?_)
    obtain ⟨hb2, rfl⟩ := hb2
    refine lv_if_eq (tgt := 30) hx hb dG_needAt_17 (by decide) (fun c17 => ?_) (fun c17 => ?_)
    · refine lv_iconst (v := (-1)) hx hb dG_needAt_30 (by decide) ?_
      exact x_iret hx hb hr hlk hK hP hD hS dG_needAt_31 ⟨by have q := blw_no (n := 8) (by omega) hb2 c17; rw [gAt_no (fun hc => q ⟨hc.2.1, by have := (hok3 (nI ta).toInt.toNat).2.1; omega⟩)], rfl⟩
    · obtain ⟨ib, hib8, rfl⟩ := blw_of (n := 8) (by omega) hb2 c17
      refine lv_iload_n hx hb dG_needAt_20 rfl (lv_at hl 2 rfl) ?_
      refine lv_aload_n hx hb dG_needAt_21 rfl (lv_at hl 0 rfl) ?_
      refine va_get (D := D) (cl := xCl) (ci := 0) (v := .ref (ad (k + 5))) (C := rnG) (T := tbG) (N := 9) hx hb hts inG hown hK hP k h0 rfl 4 (by decide) (hts _ tw_33) (fun _ h9 => h9) rfl dG_needAt_22 ?_
      refine lv_iload_n hx hb dG_needAt_25 rfl (lv_at hl 1 rfl) ?_
      refine va_iald hx hb hK hP (k + 5) 0 h5 hI (vp_in_nI (by omega) (by omega)) dG_needAt_26 ?_
      refine lv_topi (fun v_3 ev_3 => ?_)
      refine lv_icmp_lt (tgt := 32) hx hb dG_needAt_27 (by decide) (fun c27 => ?_) (fun c27 => ?_)
      · have hib : ib < (gD g ta).length := by rw [ev_3, nI_clamp (by omega), hr5 ta (by omega), nI_ltI (by omega) (by have := (hok3 ta).2.1; omega)] at c27; exact c27
        have hi8 : ib < 8 := hib8
        refine lv_aload_n hx hb dG_needAt_32 rfl (lv_at hl 0 rfl) ?_
        refine va_get (D := D) (cl := xCl) (ci := 0) (v := .ref (ad (k + 4))) (C := rnG) (T := tbG) (N := 9) hx hb hts inG hown hK hP k h0 rfl 3 (by decide) (hts _ tw_32) (fun _ h9 => h9) rfl dG_needAt_33 ?_
        refine lv_iload_n hx hb dG_needAt_36 rfl (lv_at hl 1 rfl) ?_
        refine lv_bipush (v := 8) hx hb dG_needAt_37 (by decide) ?_
        refine lv_imul hx hb dG_needAt_39 ?_
        refine lv_topi (fun v_4 ev_4 => ?_)
        refine lv_iload_n hx hb dG_needAt_40 rfl (lv_at hl 2 rfl) ?_
        refine lv_iadd hx hb dG_needAt_41 ?_
        refine lv_topi (fun v_5 ev_5 => ?_)
        refine va_iald hx hb hK hP (k + 4) 0 h4 hI (by rw [ev_5, ev_4, show (8 : Int32) = nI 8 from rfl, pk_mul, nI_add]; exact vp_in_nI (by omega) (by omega)) dG_needAt_42 ?_
        refine lv_topi (fun v_6 ev_6 => ?_)
        exact x_iret hx hb hr hlk hK hP hD hS dG_needAt_43 ⟨by rw [ev_6, ev_5, ev_4, show (8 : Int32) = nI 8 from rfl, pk_mul, nI_add, nI_clamp (by omega), hr4 ta ib (by omega) hib, gAt_nI g (by omega) hib (by omega)], rfl⟩
      · refine lv_iconst (v := (-1)) hx hb dG_needAt_30 (by decide) ?_
        exact x_iret hx hb hr hlk hK hP hD hS dG_needAt_31 ⟨by rw [ev_3, nI_clamp (by omega), hr5 ta (by omega)] at c27; rw [gAt_no (fun hc => c27 (by have q9 := (hok3 ta).2.1; rw [nI_toInt (n := ta) (by omega), nI_toInt (n := ib) (by omega)] at hc; rw [nI_ltI (by omega) (by omega)]; have := hc.2.2; simp at this; omega))], rfl⟩

def gNoI (g : Gr) (v : Int32) : Int32 := if 0 ≤ v.toInt ∧ v.toInt < 60 then gNo g v.toInt.toNat else -1
theorem gNoI_nI (g : Gr) {n : Nat} (h : n < 60) : gNoI g (nI n) = gNo g n := by
  unfold gNoI
  rw [nI_toInt (by omega), if_pos ⟨by omega, by omega⟩]; simp

set_option maxHeartbeats 4000000 in
set_option maxRecDepth 100000 in
/-- Graph.numberOf(name) -/
theorem cG_numberOf (l : Launch) (D : va_G) (tys : List (ClassId × FieldType)) (A : Nat → Prop) (ws : va_W) (cI : ClassId) (hI : tys[0]? = some (cI, .int)) (ad : Nat → Nat) (k : Nat) (g : Gr) (v : Int32) (hG : GraphAt cI ad ws k g) : x_Mi l yG_numberOf wG_numberOf (xR 1) D xCl tys A [.ref (ad k), .int v] ws (fun r ws1 => r = gNoI g v ∧ ws = ws1) := by
  obtain ⟨F, ⟨h0, h1, h2, h3, h4, h5, h6, h7, h8⟩, hR⟩ := id hG
  obtain ⟨⟨hle, hok1, hok2, hok3⟩, hr1, hr2, hr3, hr4, hr5, hr6, hr7⟩ := id hR
  refine x_enter (by decide) rfl (Nat.le_of_ble_eq_true rfl) (fun p e s m args below meth c ls hx hb hr hlk hml hown hnm hts hK hP hD hS hA hN hl => ?_)
  have hl : lv_has ls 2 [(0, .ref (ad k)), (1, .int v)] := hl
  refine lv_iload_n hx hb dG_numberOf_0 rfl (lv_at hl 1 rfl) ?_
  refine lv_aload_n hx hb dG_numberOf_1 rfl (lv_at hl 0 rfl) ?_
  refine va_get (D := D) (cl := xCl) (ci := 0) (v := .ref (ad (k + 3))) (C := rnG) (T := tbG) (N := 9) hx hb hts inG hown hK hP k h0 rfl 2 (by decide) (hts _ tw_31) (fun _ h9 => h9) rfl dG_numberOf_2 ?_
  refine va_alen (v := 60) hx hb hK hP (k + 3) 0 h3 hI (by rfl) dG_numberOf_5 ?_
  refine x_calli (x_runS (n := 2) (As := [.int v, .int 60]) (rest := []) ⟨hx, hb, hml, hown, hts⟩ (cG_below l D tys A ws v 60) tw_178 tw_179 tw_2 tw_180 (by decide +kernel) rfl rfl ⟨by decide, by decide⟩ ⟨Nat.zero_le _, Nat.zero_le _⟩ hK hP hD hS hA hN rfl hl.1 rfl (lv_room (Nat.le_of_ble_eq_true rfl)) dG_numberOf_6) hS (fun rhb1 ws_1 H locs hb1 hP hD hS => ?_)
  obtain ⟨hb1, rfl⟩ := hb1
  refine lv_if_eq (tgt := 21) hx hb dG_numberOf_9 (by decide) (fun c9 => ?_) (fun c9 => ?_)
  · refine lv_iconst (v := (-1)) hx hb dG_numberOf_21 (by decide) ?_
    exact x_iret hx hb hr hlk hK hP hD hS dG_numberOf_22 ⟨by have q := blw_no (n := 60) (by omega) hb1 c9; exact (if_neg q).symm, rfl⟩
  · obtain ⟨nb, hnb, rfl⟩ := blw_of (n := 60) (by omega) hb1 c9
    refine lv_aload_n hx hb dG_numberOf_12 rfl (lv_at hl 0 rfl) ?_
    refine va_get (D := D) (cl := xCl) (ci := 0) (v := .ref (ad (k + 3))) (C := rnG) (T := tbG) (N := 9) hx hb hts inG hown hK hP k h0 rfl 2 (by decide) (hts _ tw_31) (fun _ h9 => h9) rfl dG_numberOf_13 ?_
    refine lv_iload_n hx hb dG_numberOf_16 rfl (lv_at hl 1 rfl) ?_
    refine va_iald hx hb hK hP (k + 3) 0 h3 hI (vp_in_nI (by omega) (by omega)) dG_numberOf_17 ?_
    refine lv_topi (fun v_2 ev_2 => ?_)
    refine lv_goto (tgt := 22) hx hb dG_numberOf_18 (by decide) ?_
    exact x_iret hx hb hr hlk hK hP hD hS dG_numberOf_22 ⟨by rw [ev_2, nI_clamp (by omega), hr3 nb (by omega), gNoI_nI g hnb], rfl⟩

set_option maxHeartbeats 4000000 in
set_option maxRecDepth 100000 in
/-- Graph.usersOf(t) -/
theorem cG_usersOf (l : Launch) (D : va_G) (tys : List (ClassId × FieldType)) (A : Nat → Prop) (ws : va_W) (cI : ClassId) (hI : tys[0]? = some (cI, .int)) (ad : Nat → Nat) (k : Nat) (g : Gr) (t : Int32) (hG : GraphAt cI ad ws k g) : x_Mi l yG_usersOf wG_usersOf (xR 1) D xCl tys A [.ref (ad k), .int t] ws (fun r ws1 => (∀ i, i < 32 → bt r i = decide (0 ≤ t.toInt ∧ t.toInt.toNat ∈ gD g i)) ∧ ws = ws1) := by
  obtain ⟨F, ⟨h0, h1, h2, h3, h4, h5, h6, h7, h8⟩, hR⟩ := id hG
  obtain ⟨⟨hle, hok1, hok2, hok3⟩, hr1, hr2, hr3, hr4, hr5, hr6, hr7⟩ := id hR
  refine x_enter (by decide) rfl (Nat.le_of_ble_eq_true rfl) (fun p e s m args below meth c ls hx hb hr hlk hml hown hnm hts hK hP hD hS hA hN hl => ?_)
  have hl : lv_has ls 2 [(0, .ref (ad k)), (1, .int t)] := hl
  refine lv_iload_n hx hb dG_usersOf_0 rfl (lv_at hl 1 rfl) ?_
  refine lv_aload_n hx hb dG_usersOf_1 rfl (lv_at hl 0 rfl) ?_
  refine va_get (D := D) (cl := xCl) (ci := 0) (v := .int (nI g.length)) (C := rnG) (T := tbG) (N := 9) hx hb hts inG hown hK hP k h0 rfl 8 (by decide) (hts _ tw_37) (fun _ h9 => h9) rfl dG_usersOf_2 ?_
  refine x_calli (x_runS (n := 2) (As := [.int t, .int (nI g.length)]) (rest := []) ⟨hx, hb, hml, hown, hts⟩ (cG_below l D tys A ws t ((nI g.length))) tw_178 tw_179 tw_2 tw_180 (by decide +kernel) rfl rfl ⟨by decide, by decide⟩ ⟨Nat.zero_le _, Nat.zero_le _⟩ hK hP hD hS hA hN rfl hl.1 rfl (lv_room (Nat.le_of_ble_eq_true rfl)) dG_usersOf_5) hS (fun rhb1 ws_1 H locs hb1 hP hD hS => ?_)
  obtain ⟨hb1, rfl⟩ := hb1
  refine lv_if_eq (tgt := 20) hx hb dG_usersOf_8 (by decide) (fun c8 => ?_) (fun c8 => ?_)
  · refine lv_iconst (v := 0) hx hb dG_usersOf_20 (by decide) ?_
    exact x_iret hx hb hr hlk hK hP hD hS dG_usersOf_21 ⟨fun i hi => by have q := blw_no (by omega) hb1 c8; rw [b_0, decide_eq_false]; intro hc; have q2 := (hok3 i).2.2 t.toInt.toNat hc.2; omega, rfl⟩
  · obtain ⟨ta, hta, rfl⟩ := blw_of (by omega) hb1 c8
    refine lv_aload_n hx hb dG_usersOf_11 rfl (lv_at hl 0 rfl) ?_
    refine va_get (D := D) (cl := xCl) (ci := 0) (v := .ref (ad (k + 7))) (C := rnG) (T := tbG) (N := 9) hx hb hts inG hown hK hP k h0 rfl 6 (by decide) (hts _ tw_35) (fun _ h9 => h9) rfl dG_usersOf_12 ?_
    refine lv_iload_n hx hb dG_usersOf_15 rfl (lv_at hl 1 rfl) ?_
    refine va_iald hx hb hK hP (k + 7) 0 h7 hI (vp_in_nI (by omega) (by omega)) dG_usersOf_16 ?_
    refine lv_topi (fun v_2 ev_2 => ?_)
    refine lv_goto (tgt := 21) hx hb dG_usersOf_17 (by decide) ?_
    exact x_iret hx hb hr hlk hK hP hD hS dG_usersOf_21 ⟨fun i hi => by rw [ev_2, nI_clamp (by omega), hr7 ta (by omega) i hi]; exact decide_eq_decide.mpr ⟨fun hc => ⟨by rw [nI_toInt (by omega)]; omega, by rw [nI_toInt (by omega)]; simpa using hc⟩, fun hc => by have := hc.2; rw [nI_toInt (by omega)] at this; simpa using this⟩, rfl⟩

/-- the package of a target; 6 where there is none -/
def gP (g : Gr) (t : Int32) : Int32 := if 0 ≤ t.toInt ∧ t.toInt < g.length then nI (gN g t.toInt.toNat / 10) else 6

set_option maxHeartbeats 4000000 in
set_option maxRecDepth 100000 in
/-- Graph.packOf(t) -/
theorem cG_packOf (l : Launch) (D : va_G) (tys : List (ClassId × FieldType)) (A : Nat → Prop) (ws : va_W) (cI : ClassId) (hI : tys[0]? = some (cI, .int)) (ad : Nat → Nat) (k : Nat) (g : Gr) (t : Int32) (hG : GraphAt cI ad ws k g) : x_Mi l yG_packOf wG_packOf (xR 1) D xCl tys A [.ref (ad k), .int t] ws (fun r ws1 => r = gP g t ∧ ws = ws1) := by
  obtain ⟨F, ⟨h0, h1, h2, h3, h4, h5, h6, h7, h8⟩, hR⟩ := id hG
  obtain ⟨⟨hle, hok1, hok2, hok3⟩, hr1, hr2, hr3, hr4, hr5, hr6, hr7⟩ := id hR
  refine x_enter (by decide) rfl (Nat.le_of_ble_eq_true rfl) (fun p e s m args below meth c ls hx hb hr hlk hml hown hnm hts hK hP hD hS hA hN hl => ?_)
  have hl : lv_has ls 2 [(0, .ref (ad k)), (1, .int t)] := hl
  refine lv_iload_n hx hb dG_packOf_0 rfl (lv_at hl 1 rfl) ?_
  refine lv_aload_n hx hb dG_packOf_1 rfl (lv_at hl 0 rfl) ?_
  refine va_get (D := D) (cl := xCl) (ci := 0) (v := .int (nI g.length)) (C := rnG) (T := tbG) (N := 9) hx hb hts inG hown hK hP k h0 rfl 8 (by decide) (hts _ tw_37) (fun _ h9 => h9) rfl dG_packOf_2 ?_
  refine x_calli (x_runS (n := 2) (As := [.int t, .int (nI g.length)]) (rest := []) ⟨hx, hb, hml, hown, hts⟩ (cG_below l D tys A ws t ((nI g.length))) tw_178 tw_179 tw_2 tw_180 (by decide +kernel) rfl rfl ⟨by decide, by decide⟩ ⟨Nat.zero_le _, Nat.zero_le _⟩ hK hP hD hS hA hN rfl hl.1 rfl (lv_room (Nat.le_of_ble_eq_true rfl)) dG_packOf_5) hS (fun rhb1 ws_1 H locs hb1 hP hD hS => ?_)
  obtain ⟨hb1, rfl⟩ := hb1
  refine lv_if_eq (tgt := 23) hx hb dG_packOf_8 (by decide) (fun c8 => ?_) (fun c8 => ?_)
  · refine lv_bipush (v := 6) hx hb dG_packOf_23 (by decide) ?_
    exact x_iret hx hb hr hlk hK hP hD hS dG_packOf_25 ⟨by have q := blw_no (by omega) hb1 c8; exact (if_neg q).symm, rfl⟩
  · obtain ⟨ta, hta, rfl⟩ := blw_of (by omega) hb1 c8
    refine lv_aload_n hx hb dG_packOf_11 rfl (lv_at hl 0 rfl) ?_
    refine va_get (D := D) (cl := xCl) (ci := 0) (v := .ref (ad (k + 1))) (C := rnG) (T := tbG) (N := 9) hx hb hts inG hown hK hP k h0 rfl 0 (by decide) (hts _ tw_29) (fun _ h9 => h9) rfl dG_packOf_12 ?_
    refine lv_iload_n hx hb dG_packOf_15 rfl (lv_at hl 1 rfl) ?_
    refine va_iald hx hb hK hP (k + 1) 0 h1 hI (vp_in_nI (by omega) (by omega)) dG_packOf_16 ?_
    refine lv_topi (fun v_2 ev_2 => ?_)
    refine lv_bipush (v := 10) hx hb dG_packOf_17 (by decide) ?_
    refine lv_idiv hx hb dG_packOf_19 (by decide) ?_
    refine lv_topi (fun v_3 ev_3 => ?_)
    refine lv_goto (tgt := 25) hx hb dG_packOf_20 (by decide) ?_
    exact x_iret hx hb hr hlk hK hP hD hS dG_packOf_25 ⟨by have q := hok1 ta hta; rw [ev_3, ev_2, nI_clamp (by omega), hr1 ta hta, show (10 : Int32) = nI 10 from rfl, pk_div (by omega) (by omega) (by omega)]; unfold gP; rw [nI_toInt (by omega), if_pos ⟨by omega, by omega⟩]; simp, rfl⟩
end
section
theorem gNumN_s {g : Gr} {nm t : Nat} : ∀ {n : Nat}, gNumN g nm n = some t → t < n ∧ gN g t = nm := by
  intro n
  induction n with
  | zero => intro h; cases h
  | succ n ih =>
    intro h
    unfold gNumN at h
    split at h
    · next u hu =>
      cases h
      have := ih hu
      exact ⟨by omega, this.2⟩
    · next hu =>
      split at h
      · next e => cases h; exact ⟨by omega, e⟩
      · cases h
theorem gNumN_n {g : Gr} {nm : Nat} : ∀ {n : Nat}, gNumN g nm n = none ↔ ∀ t, t < n → gN g t ≠ nm := by
  intro n
  induction n with
  | zero => exact ⟨fun _ t ht => absurd ht (Nat.not_lt_zero t), fun _ => rfl⟩
  | succ n ih =>
    unfold gNumN
    constructor
    · intro h
      split at h
      · cases h
      · next hu =>
        split at h
        · cases h
        · next e =>
          intro t ht
          by_cases e2 : t = n
          · subst e2; exact e
          · exact ih.mp hu t (by omega)
    · intro h
      rw [ih.mpr (fun t ht => h t (by omega))]
      exact if_neg (h n (by omega))
theorem gNumN_congr {g g2 : Gr} {nm : Nat} : ∀ {n : Nat}, (∀ t, t < n → gN g t = gN g2 t) → gNumN g nm n = gNumN g2 nm n := by
  intro n
  induction n with
  | zero => intro _; rfl
  | succ n ih =>
    intro h
    unfold gNumN
    rw [ih (fun t ht => h t (by omega)), h n (by omega)]
theorem gNum_lt {g : Gr} {nm t : Nat} (h : gNum g nm = some t) : t < g.length ∧ gN g t = nm := gNumN_s h
theorem gNo_none {g : Gr} {nm : Nat} (hg : g.length ≤ 30) : gNo g nm = -1 ↔ gNum g nm = none := by
  unfold gNo
  split
  · next t ht =>
    have := (gNum_lt ht).1
    constructor
    · intro h
      rw [i32_eq, nI_toInt (by omega), show (-1 : Int32).toInt = -1 from rfl] at h
      omega
    · intro h; rw [h] at ht; cases ht
  · next h => exact ⟨fun _ => h, fun _ => rfl⟩
-- ===== a target more =====
def gApp (g : Gr) (nm kd : Nat) : Gr := g ++ [(nm, kd, [])]
theorem gApp_len (g : Gr) (nm kd : Nat) : (gApp g nm kd).length = g.length + 1 := by unfold gApp; rw [List.length_append]; rfl
theorem gApp_get (g : Gr) (nm kd : Nat) {t : Nat} : (gApp g nm kd).getD t (0, 0, []) = if t < g.length then g.getD t (0, 0, []) else if t = g.length then (nm, kd, []) else (0, 0, []) := by
  unfold gApp
  rw [List.getD_eq_getElem?_getD, List.getD_eq_getElem?_getD]
  by_cases h : t < g.length
  · rw [if_pos h, List.getElem?_append_left h]
  · rw [if_neg h, List.getElem?_append_right (by omega)]
    by_cases e : t = g.length
    · rw [if_pos e, e, Nat.sub_self]; rfl
    · rw [if_neg e, List.getElem?_eq_none (by simp only [List.length_singleton]; omega)]; rfl
theorem gApp_N (g : Gr) (nm kd : Nat) {t : Nat} : gN (gApp g nm kd) t = if t < g.length then gN g t else if t = g.length then nm else 0 := by
  unfold gN
  rw [gApp_get]
  split
  · rfl
  · split <;> rfl
theorem gApp_K (g : Gr) (nm kd : Nat) {t : Nat} : gK (gApp g nm kd) t = if t < g.length then gK g t else if t = g.length then kd else 0 := by
  unfold gK
  rw [gApp_get]
  split
  · rfl
  · split <;> rfl
theorem gApp_D (g : Gr) (nm kd : Nat) {t : Nat} : gD (gApp g nm kd) t = gD g t := by
  by_cases h : t < g.length
  · unfold gD; rw [gApp_get, if_pos h]
  · rw [gD_out (g := g) (by omega)]
    unfold gD
    rw [gApp_get, if_neg h]
    split <;> rfl
theorem gApp_num (g : Gr) (nm kd : Nat) (x : Nat) (h : gNum g nm = none) : gNum (gApp g nm kd) x = if x = nm then some g.length else gNum g x := by
  unfold gNum
  rw [gApp_len]
  have e : gNumN (gApp g nm kd) x g.length = gNumN g x g.length := gNumN_congr (fun t ht => by rw [gApp_N, if_pos ht])
  show (match gNumN (gApp g nm kd) x g.length with | some t => some t | none => if gN (gApp g nm kd) g.length = x then some g.length else none) = _
  have eN : gN (gApp g nm kd) g.length = nm := by rw [gApp_N, if_neg (Nat.lt_irrefl _), if_pos rfl]
  rw [e, eN]
  by_cases hx : x = nm
  · rw [if_pos hx]
    subst hx
    rw [show gNumN g x g.length = none from h]
    exact if_pos rfl
  · rw [if_neg hx, if_neg (fun e => hx e.symm)]
    split
    · next t ht => rw [ht]
    · next ht => rw [ht]
theorem GrOK.app {g : Gr} (h : GrOK g) {nm kd : Nat} (hl : g.length < 30) (hn : nm < 60) (hk : kd < 4) (hno : gNum g nm = none) : GrOK (gApp g nm kd) := by
  obtain ⟨h1, h2, h3, h4⟩ := h
  have hno2 := gNumN_n.mp hno
  refine ⟨by rw [gApp_len]; omega, ?_, ?_, ?_⟩
  · intro t ht
    rw [gApp_len] at ht
    rw [gApp_N, gApp_K]
    by_cases e : t < g.length
    · rw [if_pos e, if_pos e]; exact h2 t e
    · rw [if_neg e, if_pos (by omega), if_neg e, if_pos (by omega)]; exact ⟨hn, hk⟩
  · intro t u ht hu
    rw [gApp_len] at ht hu
    rw [gApp_N, gApp_N]
    by_cases e : t < g.length <;> by_cases e2 : u < g.length
    · rw [if_pos e, if_pos e2]; exact h3 t u e e2
    · rw [if_pos e, if_neg e2, if_pos (by omega)]; intro q; exact absurd q (hno2 t e)
    · rw [if_neg e, if_pos e2, if_pos (by omega)]; intro q; exact absurd q.symm (hno2 u e2)
    · intro _; omega
  · intro t
    rw [gApp_D]
    exact ⟨(h4 t).1, (h4 t).2.1, fun u hu => by rw [gApp_len]; have := (h4 t).2.2 u hu; omega⟩
theorem GrRel.app {g : Gr} {F F1 : Nat → Nat → Int32} (h : GrRel g F) {nm kd : Nat} (hl : g.length < 30) (hn : nm < 60) (hk : kd < 4) (hno : gNum g nm = none) (e1 : F1 1 = upd (F 1) g.length (nI nm)) (e2 : F1 2 = upd (F 2) g.length (nI kd)) (e3 : F1 3 = upd (F 3) nm (nI g.length)) (e4 : F1 4 = F 4) (e5 : F1 5 = F 5) (e6 : F1 6 = F 6) (e7 : F1 7 = F 7) : GrRel (gApp g nm kd) F1 := by
  obtain ⟨h0, h1, h2, h3, h4, h5, h6, h7⟩ := h
  refine ⟨h0.app hl hn hk hno, ?_, ?_, ?_, ?_, ?_, ?_, ?_⟩
  · intro t ht
    rw [gApp_len] at ht
    rw [e1, gApp_N]
    unfold upd
    by_cases e : t = g.length
    · rw [if_pos e, if_neg (by omega), if_pos e]
    · rw [if_neg e, if_pos (by omega)]; exact h1 t (by omega)
  · intro t ht
    rw [gApp_len] at ht
    rw [e2, gApp_K]
    unfold upd
    by_cases e : t = g.length
    · rw [if_pos e, if_neg (by omega), if_pos e]
    · rw [if_neg e, if_pos (by omega)]; exact h2 t (by omega)
  · intro x hx
    rw [e3]
    unfold upd gNo
    rw [gApp_num g nm kd x hno]
    by_cases e : x = nm
    · rw [if_pos e, if_pos e]
    · rw [if_neg e, if_neg e]; exact h3 x hx
  · intro t i ht hi
    rw [gApp_D] at hi ⊢
    rw [e4]; exact h4 t i ht hi
  · intro t ht
    rw [gApp_D, e5]; exact h5 t ht
  · intro t ht i hi
    rw [gApp_D, e6]; exact h6 t ht i hi
  · intro u hu i hi
    rw [gApp_D, e7]; exact h7 u hu i hi
def tgtC (g : Gr) (pa di ki : Int32) : Prop := g.length < 30 ∧ (0 ≤ pa.toInt ∧ pa.toInt < 6) ∧ (0 ≤ di.toInt ∧ di.toInt < 10) ∧ (0 ≤ ki.toInt ∧ ki.toInt < 4) ∧ gNum g (pa.toInt.toNat * 10 + di.toInt.toNat) = none
/-- promise 2: the answer, and the targets behind it -/
noncomputable def tgtS (g : Gr) (pa di ki : Int32) : Int32 × Gr := by
  classical
  exact if tgtC g pa di ki then (nI g.length, gApp g (pa.toInt.toNat * 10 + di.toInt.toNat) ki.toInt.toNat) else (-1, g)
theorem tgtS_no {g : Gr} {pa di ki : Int32} (h : ¬ tgtC g pa di ki) : tgtS g pa di ki = (-1, g) := if_neg h
theorem tgtS_yes {g : Gr} {pa di ki : Nat} (h1 : g.length < 30) (h2 : pa < 6) (h3 : di < 10) (h4 : ki < 4) (h5 : gNum g (pa * 10 + di) = none) : tgtS g (nI pa) (nI di) (nI ki) = (nI g.length, gApp g (pa * 10 + di) ki) := by
  have c : tgtC g (nI pa) (nI di) (nI ki) := by
    unfold tgtC
    rw [nI_toInt (by omega), nI_toInt (by omega), nI_toInt (by omega)]
    exact ⟨h1, by omega, by omega, by omega, by simpa using h5⟩
  unfold tgtS
  rw [if_pos c, nI_toInt (by omega), nI_toInt (by omega), nI_toInt (by omega)]
  simp
/-- F with another array in place i -/
def setF (F : Nat → Nat → Int32) (i : Nat) (f : Nat → Int32) : Nat → Nat → Int32 := fun j => if j = i then f else F j

set_option maxHeartbeats 4000000 in
set_option maxRecDepth 100000 in
/-- Graph.addTarget(pack, digit, kind) -/
theorem cG_addTarget (l : Launch) (D : va_G) (tys : List (ClassId × FieldType)) (A : Nat → Prop) (ws : va_W) (cI : ClassId) (hI : tys[0]? = some (cI, .int)) (ad : Nat → Nat) (k : Nat) (g : Gr) (pa di ki : Int32) (hG : GraphAt cI ad ws k g) : x_Mi l yG_addTarget wG_addTarget (xR 1) D xCl tys A [.ref (ad k), .int pa, .int di, .int ki] ws (fun r ws1 => x_fr k (k + 9) ws ws1 ∧ r = (tgtS g pa di ki).1 ∧ GraphAt cI ad ws1 k (tgtS g pa di ki).2) := by
  obtain ⟨F, ⟨h0, h1, h2, h3, h4, h5, h6, h7, h8⟩, hR⟩ := id hG
  obtain ⟨⟨hle, hok1, hok2, hok3⟩, hr1, hr2, hr3, hr4, hr5, hr6, hr7⟩ := id hR
  refine x_enter (by decide) rfl (Nat.le_of_ble_eq_true rfl) (fun p e s m args below meth c ls hx hb hr hlk hml hown hnm hts hK hP hD hS hA hN hl => ?_)
  have hl : lv_has ls 6 [(0, .ref (ad k)), (1, .int pa), (2, .int di), (3, .int ki)] := hl
  refine lv_aload_n hx hb dG_addTarget_0 rfl (lv_at hl 0 rfl) ?_
  refine va_get (D := D) (cl := xCl) (ci := 0) (v := .int (nI g.length)) (C := rnG) (T := tbG) (N := 9) hx hb hts inG hown hK hP k h0 rfl 8 (by decide) (hts _ tw_37) (fun _ h9 => h9) rfl dG_addTarget_1 ?_
  refine lv_bipush (v := 30) hx hb dG_addTarget_4 (by decide) ?_
  refine lv_icmp_ge (tgt := 35) hx hb dG_addTarget_6 (by decide) (fun c6 => ?_) (fun c6 => ?_)
  · refine lv_iconst (v := (-1)) hx hb dG_addTarget_35 (by decide) ?_
    exact x_iret hx hb hr hlk hK hP hD hS dG_addTarget_36 ⟨x_fr.rf, by rw [tgtS_no (fun hc => absurd hc.1 (by have c6 : nI 30 ≤ nI g.length := c6; rw [nI_leI (by omega) (by omega)] at c6; omega))], by rw [tgtS_no (fun hc => absurd hc.1 (by have c6 : nI 30 ≤ nI g.length := c6; rw [nI_leI (by omega) (by omega)] at c6; omega))]; exact hG⟩
  · have hll : g.length < 30 := by have c6 : ¬ nI 30 ≤ nI g.length := c6; rw [nI_leI (by omega) (by omega)] at c6; omega
    refine lv_iload_n hx hb dG_addTarget_9 rfl (lv_at hl 1 rfl) ?_
    refine lv_bipush (v := 6) hx hb dG_addTarget_10 (by decide) ?_
    refine x_calli (x_runS (n := 2) (As := [.int pa, .int 6]) (rest := []) ⟨hx, hb, hml, hown, hts⟩ (cG_below l D tys A ws pa 6) tw_178 tw_179 tw_2 tw_180 (by decide +kernel) rfl rfl ⟨by decide, by decide⟩ ⟨Nat.zero_le _, Nat.zero_le _⟩ hK hP hD hS hA hN rfl hl.1 rfl (lv_room (Nat.le_of_ble_eq_true rfl)) dG_addTarget_12) hS (fun rhb1 ws_1 H locs hb1 hP hD hS => ?_)
    obtain ⟨hb1, rfl⟩ := hb1
    refine lv_if_eq (tgt := 35) hx hb dG_addTarget_15 (by decide) (fun c15 => ?_) (fun c15 => ?_)
    · refine lv_iconst (v := (-1)) hx hb dG_addTarget_35 (by decide) ?_
      exact x_iret hx hb hr hlk hK hP hD hS dG_addTarget_36 ⟨x_fr.rf, by rw [tgtS_no (fun hc => blw_no (n := 6) (by omega) hb1 c15 hc.2.1)], by rw [tgtS_no (fun hc => blw_no (n := 6) (by omega) hb1 c15 hc.2.1)]; exact hG⟩
    · refine lv_iload_n hx hb dG_addTarget_18 rfl (lv_at hl 2 rfl) ?_
      refine lv_bipush (v := 10) hx hb dG_addTarget_19 (by decide) ?_
      refine x_calli (x_runS (n := 2) (As := [.int di, .int 10]) (rest := []) ⟨hx, hb, hml, hown, hts⟩ (cG_below l D tys A ws di 10) tw_178 tw_179 tw_2 tw_180 (by decide +kernel) rfl rfl ⟨by decide, by decide⟩ ⟨Nat.zero_le _, Nat.zero_le _⟩ hK hP hD hS hA hN rfl hl.1 rfl (lv_room (Nat.le_of_ble_eq_true rfl)) dG_addTarget_21) hS (fun rhb2 ws_2 H locs hb2 hP hD hS => ?_)
      obtain ⟨hb2, rfl⟩ := hb2
      refine lv_if_eq (tgt := 35) hx hb dG_addTarget_24 (by decide) (fun c24 => ?_) (fun c24 => ?_)
      · refine lv_iconst (v := (-1)) hx hb dG_addTarget_35 (by decide) ?_
        exact x_iret hx hb hr hlk hK hP hD hS dG_addTarget_36 ⟨x_fr.rf, by rw [tgtS_no (fun hc => blw_no (n := 10) (by omega) hb2 c24 hc.2.2.1)], by rw [tgtS_no (fun hc => blw_no (n := 10) (by omega) hb2 c24 hc.2.2.1)]; exact hG⟩
      · refine lv_iload_n hx hb dG_addTarget_27 rfl (lv_at hl 3 rfl) ?_
        refine lv_iconst (v := 4) hx hb dG_addTarget_28 (by decide) ?_
        refine x_calli (x_runS (n := 2) (As := [.int ki, .int 4]) (rest := []) ⟨hx, hb, hml, hown, hts⟩ (cG_below l D tys A ws ki 4) tw_178 tw_179 tw_2 tw_180 (by decide +kernel) rfl rfl ⟨by decide, by decide⟩ ⟨Nat.zero_le _, Nat.zero_le _⟩ hK hP hD hS hA hN rfl hl.1 rfl (lv_room (Nat.le_of_ble_eq_true rfl)) dG_addTarget_29) hS (fun rhb3 ws_3 H locs hb3 hP hD hS => ?_)
        obtain ⟨hb3, rfl⟩ := hb3
        refine lv_if_ne (tgt := 37) hx hb dG_addTarget_32 (by decide) (fun c32 => ?_) (fun c32 => ?_)
        · obtain ⟨a, ha, rfl⟩ := blw_of (n := 6) (by omega) hb1 c15
          obtain ⟨b9, hb9, rfl⟩ := blw_of (n := 10) (by omega) hb2 c24
          obtain ⟨c9, hc9, rfl⟩ := blw_of (n := 4) (by omega) hb3 c32
          refine lv_iload_n hx hb dG_addTarget_37 rfl (lv_at hl 1 rfl) ?_
          refine lv_bipush (v := 10) hx hb dG_addTarget_38 (by decide) ?_
          refine lv_imul hx hb dG_addTarget_40 ?_
          refine lv_topi (fun v_4 ev_4 => ?_)
          refine lv_iload_n hx hb dG_addTarget_41 rfl (lv_at hl 2 rfl) ?_
          refine lv_iadd hx hb dG_addTarget_42 ?_
          refine lv_topi (fun v_5 ev_5 => ?_)
          obtain rfl : v_5 = nI (a * 10 + b9) := by rw [ev_5, ev_4, show (10 : Int32) = nI 10 from rfl, pk_mul, nI_add]
          refine lv_istore (lv' := [(4, .int (nI (a * 10 + b9))), (0, .ref (ad k)), (1, .int (nI a)), (2, .int (nI b9)), (3, .int (nI c9))]) hx hb dG_addTarget_43 hl (by decide) rfl (fun ls hl => ?_)
          refine lv_aload_n hx hb dG_addTarget_45 rfl (lv_at hl 1 rfl) ?_
          refine va_get (D := D) (cl := xCl) (ci := 0) (v := .ref (ad (k + 3))) (C := rnG) (T := tbG) (N := 9) hx hb hts inG hown hK hP k h0 rfl 2 (by decide) (hts _ tw_31) (fun _ h9 => h9) rfl dG_addTarget_46 ?_
          refine lv_iload hx hb dG_addTarget_49 (lv_at hl 0 rfl) ?_
          refine va_iald hx hb hK hP (k + 3) 0 h3 hI (vp_in_nI (by omega) (by omega)) dG_addTarget_51 ?_
          refine lv_topi (fun v_6 ev_6 => ?_)
          refine lv_iconst (v := (-1)) hx hb dG_addTarget_52 (by decide) ?_
          refine lv_icmp_eq (tgt := 58) hx hb dG_addTarget_53 (by decide) (fun c53 => ?_) (fun c53 => ?_)
          · have hno : gNum g (a * 10 + b9) = none := by rw [ev_6, nI_clamp (by omega), hr3 _ (by omega), gNo_none hle] at c53; exact c53
            refine lv_aload_n hx hb dG_addTarget_58 rfl (lv_at hl 1 rfl) ?_
            refine va_get (D := D) (cl := xCl) (ci := 0) (v := .int (nI g.length)) (C := rnG) (T := tbG) (N := 9) hx hb hts inG hown hK hP k h0 rfl 8 (by decide) (hts _ tw_37) (fun _ h9 => h9) rfl dG_addTarget_59 ?_
            refine lv_istore (lv' := [(5, .int (nI g.length)), (4, .int (nI (a * 10 + b9))), (0, .ref (ad k)), (1, .int (nI a)), (2, .int (nI b9)), (3, .int (nI c9))]) hx hb dG_addTarget_62 hl (by decide) rfl (fun ls hl => ?_)
            refine lv_aload_n hx hb dG_addTarget_64 rfl (lv_at hl 2 rfl) ?_
            refine va_get (D := D) (cl := xCl) (ci := 0) (v := .ref (ad (k + 3))) (C := rnG) (T := tbG) (N := 9) hx hb hts inG hown hK hP k h0 rfl 2 (by decide) (hts _ tw_31) (fun _ h9 => h9) rfl dG_addTarget_65 ?_
            refine lv_iload hx hb dG_addTarget_68 (lv_at hl 1 rfl) ?_
            refine lv_iload hx hb dG_addTarget_70 (lv_at hl 0 rfl) ?_
            refine va_iast hx hb hK hP hD hS (k + 3) 0 h3 hI (vp_in_nI (by omega) (by omega)) dG_addTarget_72 (fun H locs hP hD hS => ?_)
            obtain ⟨ws_8, hu_7, hP, hD⟩ := x_gen h3 hP hD
            have h_9 : ws_8[k + 3]? = some (ad (k + 3), .inl (cI, 60, .inl (upd (F 3) ((nI (a * 10 + b9))).toNatClampNeg ((nI g.length))))) := hu_7.1
            have h_10 := (hu_7.2 k (by omega)).trans h0
            have h_11 := (hu_7.2 (k + 1) (by omega)).trans h1
            have h_12 := (hu_7.2 (k + 2) (by omega)).trans h2
            have h_13 := (hu_7.2 (k + 4) (by omega)).trans h4
            have h_14 := (hu_7.2 (k + 5) (by omega)).trans h5
            have h_15 := (hu_7.2 (k + 6) (by omega)).trans h6
            have h_16 := (hu_7.2 (k + 7) (by omega)).trans h7
            have h_17 := (hu_7.2 (k + 8) (by omega)).trans h8
            refine lv_aload_n hx hb dG_addTarget_73 rfl (lv_at hl 2 rfl) ?_
            refine va_get (D := D) (cl := xCl) (ci := 0) (v := .ref (ad (k + 1))) (C := rnG) (T := tbG) (N := 9) hx hb hts inG hown hK hP k h_10 rfl 0 (by decide) (hts _ tw_29) (fun _ h9 => h9) rfl dG_addTarget_74 ?_
            refine lv_iload hx hb dG_addTarget_77 (lv_at hl 0 rfl) ?_
            refine lv_iload hx hb dG_addTarget_79 (lv_at hl 1 rfl) ?_
            refine va_iast hx hb hK hP hD hS (k + 1) 0 h_11 hI (vp_in_nI (by omega) (by omega)) dG_addTarget_81 (fun H locs hP hD hS => ?_)
            obtain ⟨ws_19, hu_18, hP, hD⟩ := x_gen h_11 hP hD
            have h_20 : ws_19[k + 1]? = some (ad (k + 1), .inl (cI, 30, .inl (upd (F 1) ((nI g.length)).toNatClampNeg ((nI (a * 10 + b9)))))) := hu_18.1
            have h_21 := (hu_18.2 k (by omega)).trans h_10
            have h_22 := (hu_18.2 (k + 2) (by omega)).trans h_12
            have h_23 := (hu_18.2 (k + 3) (by omega)).trans h_9
            have h_24 := (hu_18.2 (k + 4) (by omega)).trans h_13
            have h_25 := (hu_18.2 (k + 5) (by omega)).trans h_14
            have h_26 := (hu_18.2 (k + 6) (by omega)).trans h_15
            have h_27 := (hu_18.2 (k + 7) (by omega)).trans h_16
            have h_28 := (hu_18.2 (k + 8) (by omega)).trans h_17
            refine lv_aload_n hx hb dG_addTarget_82 rfl (lv_at hl 2 rfl) ?_
            refine va_get (D := D) (cl := xCl) (ci := 0) (v := .ref (ad (k + 2))) (C := rnG) (T := tbG) (N := 9) hx hb hts inG hown hK hP k h_21 rfl 1 (by decide) (hts _ tw_30) (fun _ h9 => h9) rfl dG_addTarget_83 ?_
            refine lv_iload hx hb dG_addTarget_86 (lv_at hl 0 rfl) ?_
            refine lv_iload_n hx hb dG_addTarget_88 rfl (lv_at hl 5 rfl) ?_
            refine va_iast hx hb hK hP hD hS (k + 2) 0 h_22 hI (vp_in_nI (by omega) (by omega)) dG_addTarget_89 (fun H locs hP hD hS => ?_)
            obtain ⟨ws_30, hu_29, hP, hD⟩ := x_gen h_22 hP hD
            have h_31 : ws_30[k + 2]? = some (ad (k + 2), .inl (cI, 30, .inl (upd (F 2) ((nI g.length)).toNatClampNeg ((nI c9))))) := hu_29.1
            have h_32 := (hu_29.2 k (by omega)).trans h_21
            have h_33 := (hu_29.2 (k + 1) (by omega)).trans h_20
            have h_34 := (hu_29.2 (k + 3) (by omega)).trans h_23
            have h_35 := (hu_29.2 (k + 4) (by omega)).trans h_24
            have h_36 := (hu_29.2 (k + 5) (by omega)).trans h_25
            have h_37 := (hu_29.2 (k + 6) (by omega)).trans h_26
            have h_38 := (hu_29.2 (k + 7) (by omega)).trans h_27
            have h_39 := (hu_29.2 (k + 8) (by omega)).trans h_28
            refine lv_aload_n hx hb dG_addTarget_90 rfl (lv_at hl 2 rfl) ?_
            refine lv_dup hx hb dG_addTarget_91 rfl ?_
            refine va_get (D := D) (cl := xCl) (ci := 0) (v := .int (nI g.length)) (C := rnG) (T := tbG) (N := 9) hx hb hts inG hown hK hP k h_32 rfl 8 (by decide) (hts _ tw_37) (fun _ h9 => h9) rfl dG_addTarget_92 ?_
            refine lv_iconst (v := 1) hx hb dG_addTarget_95 (by decide) ?_
            refine lv_iadd hx hb dG_addTarget_96 ?_
            refine lv_topi (fun v_40 ev_40 => ?_)
            refine va_put (D := D) (cl := xCl) (ci := 0) (v := .int v_40) (ty := .int) (C := rnG) (T := tbG) (N := 9) hx hb hts inG tyG toG nmG hown hK hP hD hS k h_32 rfl 8 (by decide) (hts _ tw_37) (fun _ h9 => h9) rfl (by decide +kernel) rfl rfl (Nat.le_of_ble_eq_true rfl) dG_addTarget_97 (fun H locs hP hD hS => ?_)
            obtain ⟨ws_42, hu_41, hP, hD⟩ := x_gen h_32 hP hD
            have h_43 : ws_42[k]? = some (ad k, .inr (0, [.ref (ad (k + 1)), .ref (ad (k + 2)), .ref (ad (k + 3)), .ref (ad (k + 4)), .ref (ad (k + 5)), .ref (ad (k + 6)), .ref (ad (k + 7)), .ref (ad (k + 8)), .int v_40])) := hu_41.1
            have h_44 := (hu_41.2 (k + 1) (by omega)).trans h_33
            have h_45 := (hu_41.2 (k + 2) (by omega)).trans h_31
            have h_46 := (hu_41.2 (k + 3) (by omega)).trans h_34
            have h_47 := (hu_41.2 (k + 4) (by omega)).trans h_35
            have h_48 := (hu_41.2 (k + 5) (by omega)).trans h_36
            have h_49 := (hu_41.2 (k + 6) (by omega)).trans h_37
            have h_50 := (hu_41.2 (k + 7) (by omega)).trans h_38
            have h_51 := (hu_41.2 (k + 8) (by omega)).trans h_39
            refine lv_iload hx hb dG_addTarget_100 (lv_at hl 0 rfl) ?_
            exact x_iret hx hb hr hlk hK hP hD hS dG_addTarget_102 ⟨((((hu_7.fr (a := k) (b := k + 9) (by omega) (by omega)).tr (hu_18.fr (a := k) (b := k + 9) (by omega) (by omega))).tr (hu_29.fr (a := k) (b := k + 9) (by omega) (by omega))).tr (hu_41.fr (a := k) (b := k + 9) (by omega) (by omega))), by rw [tgtS_yes hll ha hb9 hc9 hno], by rw [tgtS_yes hll ha hb9 hc9 hno]; exact ⟨setF (setF (setF F 3 (upd (F 3) ((nI (a * 10 + b9))).toNatClampNeg ((nI g.length)))) 1 (upd (F 1) ((nI g.length)).toNatClampNeg ((nI (a * 10 + b9))))) 2 (upd (F 2) ((nI g.length)).toNatClampNeg ((nI c9))), ⟨by rw [gApp_len, ← nI_1, ← ev_40]; exact h_43, h_44, h_45, h_46, h_47, h_48, h_49, h_50, h_51⟩, GrRel.app hR hll (by omega) hc9 hno (by show upd _ _ _ = _; rw [nI_clamp (by omega)]) (by show upd _ _ _ = _; rw [nI_clamp (by omega)]) (by show upd _ _ _ = _; rw [nI_clamp (by omega)]) rfl rfl rfl rfl⟩⟩
          · refine lv_iconst (v := (-1)) hx hb dG_addTarget_56 (by decide) ?_
            exact x_iret hx hb hr hlk hK hP hD hS dG_addTarget_57 ⟨x_fr.rf, by rw [tgtS_no (fun hc => c53 (by rw [ev_6, nI_clamp (by omega), hr3 _ (by omega), gNo_none hle]; have q := hc.2.2.2.2; rw [nI_toInt (by omega), nI_toInt (by omega)] at q; simpa using q))], by rw [tgtS_no (fun hc => c53 (by rw [ev_6, nI_clamp (by omega), hr3 _ (by omega), gNo_none hle]; have q := hc.2.2.2.2; rw [nI_toInt (by omega), nI_toInt (by omega)] at q; simpa using q))]; exact hG⟩
        · refine lv_iconst (v := (-1)) hx hb dG_addTarget_35 (by decide) ?_
          exact x_iret hx hb hr hlk hK hP hD hS dG_addTarget_36 ⟨x_fr.rf, by rw [tgtS_no (fun hc => blw_no (n := 4) (by omega) hb3 c32 hc.2.2.2.1)], by rw [tgtS_no (fun hc => blw_no (n := 4) (by omega) hb3 c32 hc.2.2.2.1)]; exact hG⟩
end
section
theorem msk_keep {i x : Nat} {P : Nat → Prop} [DecidablePred P] (h : ¬ P i) : decide (x < i ∧ P x) = decide (x < i + 1 ∧ P x) :=
  decide_eq_decide.mpr ⟨fun q => ⟨by omega, q.2⟩, fun q => ⟨Nat.lt_of_le_of_ne (Nat.le_of_lt_succ q.1) (fun e => h (e ▸ q.2)), q.2⟩⟩
theorem msk_add {i x : Nat} {P : Nat → Prop} [DecidablePred P] (h : P i) : (decide (x < i ∧ P x) || decide (x = i)) = decide (x < i + 1 ∧ P x) := by
  by_cases e : x = i
  · subst e
    rw [decide_eq_true (p := x = x) rfl, decide_eq_true (p := x < x + 1 ∧ P x) ⟨by omega, h⟩, Bool.or_true]
  · rw [decide_eq_false e, Bool.or_false]
    exact decide_eq_decide.mpr ⟨fun q => ⟨by omega, q.2⟩, fun q => ⟨by omega, q.2⟩⟩

-- ===== a need more =====
def gNd (g : Gr) (t o : Nat) : Gr := g.set t (gN g t, gK g t, gD g t ++ [o])
theorem gNd_len (g : Gr) (t o : Nat) : (gNd g t o).length = g.length := List.length_set
theorem gNd_get (g : Gr) {t o : Nat} (ht : t < g.length) (u : Nat) : (gNd g t o).getD u (0, 0, []) = if u = t then (gN g t, gK g t, gD g t ++ [o]) else g.getD u (0, 0, []) := by
  unfold gNd
  rw [List.getD_eq_getElem?_getD, List.getD_eq_getElem?_getD]
  by_cases e : u = t
  · rw [if_pos e, e, List.getElem?_set_self ht]; rfl
  · rw [if_neg e, List.getElem?_set_ne (fun h => e h.symm)]
theorem gNd_N (g : Gr) {t o : Nat} (ht : t < g.length) (u : Nat) : gN (gNd g t o) u = gN g u := by
  show ((gNd g t o).getD u (0, 0, [])).1 = _
  rw [gNd_get g ht]
  split
  · next e => rw [e]
  · rfl
theorem gNd_K (g : Gr) {t o : Nat} (ht : t < g.length) (u : Nat) : gK (gNd g t o) u = gK g u := by
  show ((gNd g t o).getD u (0, 0, [])).2.1 = _
  rw [gNd_get g ht]
  split
  · next e => rw [e]
  · rfl
theorem gNd_D (g : Gr) {t o : Nat} (ht : t < g.length) (u : Nat) : gD (gNd g t o) u = if u = t then gD g t ++ [o] else gD g u := by
  show ((gNd g t o).getD u (0, 0, [])).2.2 = _
  rw [gNd_get g ht]
  split <;> rfl
theorem GrOK.nd {g : Gr} (h : GrOK g) {t o : Nat} (ht : t < g.length) (ho : o < g.length) (hm : o ∉ gD g t) (h8 : (gD g t).length < 8) : GrOK (gNd g t o) := by
  obtain ⟨h1, h2, h3, h4⟩ := h
  refine ⟨by rw [gNd_len]; exact h1, ?_, ?_, ?_⟩
  · intro u hu
    rw [gNd_len] at hu
    rw [gNd_N g ht, gNd_K g ht]; exact h2 u hu
  · intro u v hu hv
    rw [gNd_len] at hu hv
    rw [gNd_N g ht, gNd_N g ht]; exact h3 u v hu hv
  · intro u
    rw [gNd_D g ht, gNd_len]
    by_cases e : u = t
    · rw [if_pos e]
      refine ⟨?_, by rw [List.length_append]; exact h8, ?_⟩
      · rw [List.nodup_append]
        exact ⟨(h4 t).1, by simp, fun a ha b hb e => hm (by rw [List.mem_singleton] at hb; rw [← hb, ← e]; exact ha)⟩
      · intro x hx
        rcases List.mem_append.mp hx with q | q
        · exact (h4 t).2.2 x q
        · rw [List.mem_singleton] at q; omega
    · rw [if_neg e]; exact h4 u
theorem GrRel.nd {g : Gr} {F F1 : Nat → Nat → Int32} (h : GrRel g F) {t o : Nat} (ht : t < g.length) (ho : o < g.length) (hm : o ∉ gD g t) (h8 : (gD g t).length < 8) (e1 : F1 1 = F 1) (e2 : F1 2 = F 2) (e3 : F1 3 = F 3) (e4 : F1 4 = upd (F 4) (t * 8 + (gD g t).length) (nI o)) (e5 : F1 5 = upd (F 5) t (nI ((gD g t).length + 1))) (e6 : F1 6 = upd (F 6) t (F 6 t ||| ((1 : Int32) <<< (nI o &&& 31)))) (e7 : F1 7 = upd (F 7) o (F 7 o ||| ((1 : Int32) <<< (nI t &&& 31)))) : GrRel (gNd g t o) F1 := by
  obtain ⟨h0, h1, h2, h3, h4, h5, h6, h7⟩ := h
  have hle := h0.1
  refine ⟨h0.nd ht ho hm h8, ?_, ?_, ?_, ?_, ?_, ?_, ?_⟩
  · intro u hu
    rw [gNd_len] at hu
    rw [e1, gNd_N g ht]; exact h1 u hu
  · intro u hu
    rw [gNd_len] at hu
    rw [e2, gNd_K g ht]; exact h2 u hu
  · intro x hx
    rw [e3, h3 x hx]
    unfold gNo gNum
    rw [gNd_len, gNumN_congr (g := gNd g t o) (g2 := g) (fun u _ => gNd_N g ht u)]
  · intro u i hu hi
    rw [gNd_D g ht] at hi ⊢
    rw [e4]
    unfold upd
    by_cases e : u = t
    · rw [if_pos e] at hi ⊢
      rw [List.length_append] at hi
      simp only [List.length_singleton] at hi
      subst e
      by_cases e9 : i = (gD g u).length
      · rw [if_pos (by omega), e9]; simp
      · rw [if_neg (by omega), h4 u i hu (by omega)]
        congr 1
        rw [List.getD_eq_getElem?_getD, List.getD_eq_getElem?_getD, List.getElem?_append_left (by omega)]
    · rw [if_neg e] at hi ⊢
      have := (h0.2.2.2 u).2.1
      rw [if_neg (by omega)]; exact h4 u i hu hi
  · intro u hu
    rw [e5, gNd_D g ht]
    unfold upd
    by_cases e : u = t
    · rw [if_pos e, if_pos e, List.length_append]; rfl
    · rw [if_neg e, if_neg e]; exact h5 u hu
  · intro u hu i hi
    rw [e6, gNd_D g ht]
    unfold upd
    by_cases e : u = t
    · rw [if_pos e, if_pos e, b_or, h6 t (by omega) i hi, b_sh1 (by omega) hi]
      simp only [List.mem_append, List.mem_singleton]
      by_cases a : i ∈ gD g t <;> by_cases b : i = o <;> simp [a, b]
    · rw [if_neg e, if_neg e]; exact h6 u hu i hi
  · intro u hu i hi
    rw [e7, gNd_D g ht]
    unfold upd
    by_cases e : u = o
    · rw [if_pos e, b_or, h7 o (by omega) i hi, b_sh1 (by omega) hi, e]
      by_cases b : i = t
      · rw [if_pos b]; simp [b]
      · rw [if_neg b]; simp [b]
    · rw [if_neg e, h7 u hu i hi]
      by_cases b : i = t
      · rw [if_pos b, b]; simp [e]
      · rw [if_neg b]
def ndC (g : Gr) (t o : Int32) : Prop := (0 ≤ t.toInt ∧ t.toInt < g.length) ∧ (0 ≤ o.toInt ∧ o.toInt < g.length) ∧ o.toInt.toNat ∉ gD g t.toInt.toNat ∧ (gD g t.toInt.toNat).length < 8
/-- promise 3: the answer, and the targets behind it -/
noncomputable def ndS (g : Gr) (t o : Int32) : Int32 × Gr := by
  classical
  exact if ndC g t o then (1, gNd g t.toInt.toNat o.toInt.toNat) else (0, g)
theorem ndS_no {g : Gr} {t o : Int32} (h : ¬ ndC g t o) : ndS g t o = (0, g) := if_neg h
theorem ndS_yes {g : Gr} {t o : Nat} (hg : g.length ≤ 30) (h1 : t < g.length) (h2 : o < g.length) (h3 : o ∉ gD g t) (h4 : (gD g t).length < 8) : ndS g (nI t) (nI o) = (1, gNd g t o) := by
  have c : ndC g (nI t) (nI o) := by
    unfold ndC
    rw [nI_toInt (by omega), nI_toInt (by omega)]
    exact ⟨by omega, by omega, by simpa using h3, by simpa using h4⟩
  unfold ndS
  rw [if_pos c, nI_toInt (by omega), nI_toInt (by omega)]
  simp

set_option maxHeartbeats 4000000 in
set_option maxRecDepth 100000 in
/-- Graph.addNeed(t, other) -/
theorem cG_addNeed (l : Launch) (D : va_G) (tys : List (ClassId × FieldType)) (A : Nat → Prop) (ws : va_W) (cI : ClassId) (hI : tys[0]? = some (cI, .int)) (ad : Nat → Nat) (k : Nat) (g : Gr) (tt oo : Int32) (hG : GraphAt cI ad ws k g) : x_Mi l yG_addNeed wG_addNeed (xR 1) D xCl tys A [.ref (ad k), .int tt, .int oo] ws (fun r ws1 => x_fr k (k + 9) ws ws1 ∧ r = (ndS g tt oo).1 ∧ GraphAt cI ad ws1 k (ndS g tt oo).2) := by
  obtain ⟨F, ⟨h0, h1, h2, h3, h4, h5, h6, h7, h8⟩, hR⟩ := id hG
  obtain ⟨⟨hle, hok1, hok2, hok3⟩, hr1, hr2, hr3, hr4, hr5, hr6, hr7⟩ := id hR
  refine x_enter (by decide) rfl (Nat.le_of_ble_eq_true rfl) (fun p e s m args below meth c ls hx hb hr hlk hml hown hnm hts hK hP hD hS hA hN hl => ?_)
  have hl : lv_has ls 3 [(0, .ref (ad k)), (1, .int tt), (2, .int oo)] := hl
  refine lv_iload_n hx hb dG_addNeed_0 rfl (lv_at hl 1 rfl) ?_
  refine lv_aload_n hx hb dG_addNeed_1 rfl (lv_at hl 0 rfl) ?_
  refine va_get (D := D) (cl := xCl) (ci := 0) (v := .int (nI g.length)) (C := rnG) (T := tbG) (N := 9) hx hb hts inG hown hK hP k h0 rfl 8 (by decide) (hts _ tw_37) (fun _ h9 => h9) rfl dG_addNeed_2 ?_
  refine x_calli (x_runS (n := 2) (As := [.int tt, .int (nI g.length)]) (rest := []) ⟨hx, hb, hml, hown, hts⟩ (cG_below l D tys A ws tt ((nI g.length))) tw_178 tw_179 tw_2 tw_180 (by decide +kernel) rfl rfl ⟨by decide, by decide⟩ ⟨Nat.zero_le _, Nat.zero_le _⟩ hK hP hD hS hA hN rfl hl.1 rfl (lv_room (Nat.le_of_ble_eq_true rfl)) dG_addNeed_5) hS (fun rhb1 ws_1 H locs hb1 hP hD hS => ?_)
  obtain ⟨hb1, rfl⟩ := hb1
  refine lv_if_eq (tgt := 49) hx hb dG_addNeed_8 (by decide) (fun c8 => ?_) (fun c8 => ?_)
  · refine lv_iconst (v := 0) hx hb dG_addNeed_49 (by decide) ?_
    exact x_zret hx hb hr rfl hlk hK hP hD hS dG_addNeed_50 ⟨x_fr.rf, by rw [ndS_no (fun hc => blw_no (by omega) hb1 c8 hc.1)], by rw [ndS_no (fun hc => blw_no (by omega) hb1 c8 hc.1)]; exact hG⟩
  · obtain ⟨ta, hta, rfl⟩ := blw_of (by omega) hb1 c8
    refine lv_iload_n hx hb dG_addNeed_11 rfl (lv_at hl 2 rfl) ?_
    refine lv_aload_n hx hb dG_addNeed_12 rfl (lv_at hl 0 rfl) ?_
    refine va_get (D := D) (cl := xCl) (ci := 0) (v := .int (nI g.length)) (C := rnG) (T := tbG) (N := 9) hx hb hts inG hown hK hP k h0 rfl 8 (by decide) (hts _ tw_37) (fun _ h9 => h9) rfl dG_addNeed_13 ?_
    refine x_calli (x_runS (n := 2) (As := [.int oo, .int (nI g.length)]) (rest := []) ⟨hx, hb, hml, hown, hts⟩ (cG_below l D tys A ws oo ((nI g.length))) tw_178 tw_179 tw_2 tw_180 (by decide +kernel) rfl rfl ⟨by decide, by decide⟩ ⟨Nat.zero_le _, Nat.zero_le _⟩ hK hP hD hS hA hN rfl hl.1 rfl (lv_room (Nat.le_of_ble_eq_true rfl)) dG_addNeed_16) hS (fun rhb2 ws_2 H locs hb2 hP hD hS => ?_)
    obtain ⟨hb2, rfl⟩ := hb2
    refine lv_if_eq (tgt := 49) hx hb dG_addNeed_19 (by decide) (fun c19 => ?_) (fun c19 => ?_)
    · refine lv_iconst (v := 0) hx hb dG_addNeed_49 (by decide) ?_
      exact x_zret hx hb hr rfl hlk hK hP hD hS dG_addNeed_50 ⟨x_fr.rf, by rw [ndS_no (fun hc => blw_no (by omega) hb2 c19 hc.2.1)], by rw [ndS_no (fun hc => blw_no (by omega) hb2 c19 hc.2.1)]; exact hG⟩
    · obtain ⟨ob, hob, rfl⟩ := blw_of (by omega) hb2 c19
      refine lv_aload_n hx hb dG_addNeed_22 rfl (lv_at hl 0 rfl) ?_
      refine va_get (D := D) (cl := xCl) (ci := 0) (v := .ref (ad (k + 6))) (C := rnG) (T := tbG) (N := 9) hx hb hts inG hown hK hP k h0 rfl 5 (by decide) (hts _ tw_34) (fun _ h9 => h9) rfl dG_addNeed_23 ?_
      refine lv_iload_n hx hb dG_addNeed_26 rfl (lv_at hl 1 rfl) ?_
      refine va_iald hx hb hK hP (k + 6) 0 h6 hI (vp_in_nI (by omega) (by omega)) dG_addNeed_27 ?_
      refine lv_topi (fun v_3 ev_3 => ?_)
      refine lv_iload_n hx hb dG_addNeed_28 rfl (lv_at hl 2 rfl) ?_
      refine x_calli (x_runSN (n := 2) (As := [.int v_3, .int (nI ob)]) (rest := []) ⟨hx, hb, hml, hown, hts⟩ (cQ_isIn l D tys A ws v_3 ((nI ob))) (xN_189 hN) tw_190 tw_1 tw_191 (by decide +kernel) rfl rfl ⟨by decide, by decide⟩ ⟨Nat.zero_le _, Nat.zero_le _⟩ hK hP hD hS hA hN rfl hl.1 rfl (lv_room (Nat.le_of_ble_eq_true rfl)) dG_addNeed_29) hS (fun rhb3 ws_4 H locs hb3 hP hD hS => ?_)
      obtain ⟨hb3, rfl⟩ := hb3
      refine lv_if_ne (tgt := 49) hx hb dG_addNeed_32 (by decide) (fun c32 => ?_) (fun c32 => ?_)
      · refine lv_iconst (v := 0) hx hb dG_addNeed_49 (by decide) ?_
        exact x_zret hx hb hr rfl hlk hK hP hD hS dG_addNeed_50 ⟨x_fr.rf, by rw [ndS_no (fun hc => by rw [hb3, isIn_nI _ (by omega), b2i_n0, ev_3, nI_clamp (by omega), hr6 ta (by omega) ob (by omega), decide_eq_true_eq] at c32; have q := hc.2.2.1; rw [nI_toInt (by omega), nI_toInt (by omega)] at q; exact q (by simpa using c32))], by rw [ndS_no (fun hc => by rw [hb3, isIn_nI _ (by omega), b2i_n0, ev_3, nI_clamp (by omega), hr6 ta (by omega) ob (by omega), decide_eq_true_eq] at c32; have q := hc.2.2.1; rw [nI_toInt (by omega), nI_toInt (by omega)] at q; exact q (by simpa using c32))]; exact hG⟩
      · refine lv_aload_n hx hb dG_addNeed_35 rfl (lv_at hl 0 rfl) ?_
        refine va_get (D := D) (cl := xCl) (ci := 0) (v := .ref (ad (k + 5))) (C := rnG) (T := tbG) (N := 9) hx hb hts inG hown hK hP k h0 rfl 4 (by decide) (hts _ tw_33) (fun _ h9 => h9) rfl dG_addNeed_36 ?_
        refine lv_iload_n hx hb dG_addNeed_39 rfl (lv_at hl 1 rfl) ?_
        refine va_iald hx hb hK hP (k + 5) 0 h5 hI (vp_in_nI (by omega) (by omega)) dG_addNeed_40 ?_
        refine lv_topi (fun v_5 ev_5 => ?_)
        refine lv_bipush (v := 8) hx hb dG_addNeed_41 (by decide) ?_
        refine x_calli (x_runS (n := 2) (As := [.int v_5, .int 8]) (rest := []) ⟨hx, hb, hml, hown, hts⟩ (cG_below l D tys A ws v_5 8) tw_178 tw_179 tw_2 tw_180 (by decide +kernel) rfl rfl ⟨by decide, by decide⟩ ⟨Nat.zero_le _, Nat.zero_le _⟩ hK hP hD hS hA hN rfl hl.1 rfl (lv_room (Nat.le_of_ble_eq_true rfl)) dG_addNeed_43) hS (fun rhb4 ws_6 H locs hb4 hP hD hS => ?_)
        obtain ⟨hb4, rfl⟩ := hb4
        refine lv_if_ne (tgt := 51) hx hb dG_addNeed_46 (by decide) (fun c46 => ?_) (fun c46 => ?_)
        · have hnm9 : ob ∉ gD g ta := by rw [hb3, isIn_nI _ (by omega), b2i_0, ev_3, nI_clamp (by omega), hr6 ta (by omega) ob (by omega), decide_eq_false_iff_not] at c32; exact c32
          have h89 : (gD g ta).length < 8 := by have q9 := (hok3 ta).2.1; obtain ⟨j, hj, ej⟩ := blw_of (n := 8) (by omega) hb4 c46; rw [ev_5, nI_clamp (by omega), hr5 ta (by omega), nI_eq (by omega) (by omega)] at ej; omega
          refine lv_aload_n hx hb dG_addNeed_51 rfl (lv_at hl 0 rfl) ?_
          refine va_get (D := D) (cl := xCl) (ci := 0) (v := .ref (ad (k + 4))) (C := rnG) (T := tbG) (N := 9) hx hb hts inG hown hK hP k h0 rfl 3 (by decide) (hts _ tw_32) (fun _ h9 => h9) rfl dG_addNeed_52 ?_
          refine lv_iload_n hx hb dG_addNeed_55 rfl (lv_at hl 1 rfl) ?_
          refine lv_bipush (v := 8) hx hb dG_addNeed_56 (by decide) ?_
          refine lv_imul hx hb dG_addNeed_58 ?_
          refine lv_topi (fun v_7 ev_7 => ?_)
          refine lv_aload_n hx hb dG_addNeed_59 rfl (lv_at hl 0 rfl) ?_
          refine va_get (D := D) (cl := xCl) (ci := 0) (v := .ref (ad (k + 5))) (C := rnG) (T := tbG) (N := 9) hx hb hts inG hown hK hP k h0 rfl 4 (by decide) (hts _ tw_33) (fun _ h9 => h9) rfl dG_addNeed_60 ?_
          refine lv_iload_n hx hb dG_addNeed_63 rfl (lv_at hl 1 rfl) ?_
          refine va_iald hx hb hK hP (k + 5) 0 h5 hI (vp_in_nI (by omega) (by omega)) dG_addNeed_64 ?_
          refine lv_topi (fun v_8 ev_8 => ?_)
          refine lv_iadd hx hb dG_addNeed_65 ?_
          refine lv_topi (fun v_9 ev_9 => ?_)
          obtain rfl : v_9 = nI (ta * 8 + (gD g ta).length) := by rw [ev_9, ev_7, ev_8, nI_clamp (by omega), hr5 ta (by omega), show (8 : Int32) = nI 8 from rfl, pk_mul, nI_add]
          refine lv_iload_n hx hb dG_addNeed_66 rfl (lv_at hl 2 rfl) ?_
          refine va_iast hx hb hK hP hD hS (k + 4) 0 h4 hI (vp_in_nI (by omega) (by omega)) dG_addNeed_67 (fun H locs hP hD hS => ?_)
          obtain ⟨ws_11, hu_10, hP, hD⟩ := x_gen h4 hP hD
          have h_12 : ws_11[k + 4]? = some (ad (k + 4), .inl (cI, 240, .inl (upd (F 4) ((nI (ta * 8 + (gD g ta).length))).toNatClampNeg ((nI ob))))) := hu_10.1
          have h_13 := (hu_10.2 k (by omega)).trans h0
          have h_14 := (hu_10.2 (k + 1) (by omega)).trans h1
          have h_15 := (hu_10.2 (k + 2) (by omega)).trans h2
          have h_16 := (hu_10.2 (k + 3) (by omega)).trans h3
          have h_17 := (hu_10.2 (k + 5) (by omega)).trans h5
          have h_18 := (hu_10.2 (k + 6) (by omega)).trans h6
          have h_19 := (hu_10.2 (k + 7) (by omega)).trans h7
          have h_20 := (hu_10.2 (k + 8) (by omega)).trans h8
          refine lv_aload_n hx hb dG_addNeed_68 rfl (lv_at hl 0 rfl) ?_
          refine va_get (D := D) (cl := xCl) (ci := 0) (v := .ref (ad (k + 5))) (C := rnG) (T := tbG) (N := 9) hx hb hts inG hown hK hP k h_13 rfl 4 (by decide) (hts _ tw_33) (fun _ h9 => h9) rfl dG_addNeed_69 ?_
          refine lv_iload_n hx hb dG_addNeed_72 rfl (lv_at hl 1 rfl) ?_
          refine lv_dup2_11 hx hb dG_addNeed_73 rfl rfl ?_
          refine va_iald hx hb hK hP (k + 5) 0 h_17 hI (vp_in_nI (by omega) (by omega)) dG_addNeed_74 ?_
          refine lv_topi (fun v_21 ev_21 => ?_)
          refine lv_iconst (v := 1) hx hb dG_addNeed_75 (by decide) ?_
          refine lv_iadd hx hb dG_addNeed_76 ?_
          refine lv_topi (fun v_22 ev_22 => ?_)
          obtain rfl : v_22 = nI ((gD g ta).length + 1) := by rw [ev_22, ev_21, nI_clamp (by omega), hr5 ta (by omega), nI_1]
          refine va_iast hx hb hK hP hD hS (k + 5) 0 h_17 hI (vp_in_nI (by omega) (by omega)) dG_addNeed_77 (fun H locs hP hD hS => ?_)
          obtain ⟨ws_24, hu_23, hP, hD⟩ := x_gen h_17 hP hD
          have h_25 : ws_24[k + 5]? = some (ad (k + 5), .inl (cI, 30, .inl (upd (F 5) ((nI ta)).toNatClampNeg ((nI ((gD g ta).length + 1)))))) := hu_23.1
          have h_26 := (hu_23.2 k (by omega)).trans h_13
          have h_27 := (hu_23.2 (k + 1) (by omega)).trans h_14
          have h_28 := (hu_23.2 (k + 2) (by omega)).trans h_15
          have h_29 := (hu_23.2 (k + 3) (by omega)).trans h_16
          have h_30 := (hu_23.2 (k + 4) (by omega)).trans h_12
          have h_31 := (hu_23.2 (k + 6) (by omega)).trans h_18
          have h_32 := (hu_23.2 (k + 7) (by omega)).trans h_19
          have h_33 := (hu_23.2 (k + 8) (by omega)).trans h_20
          refine lv_aload_n hx hb dG_addNeed_78 rfl (lv_at hl 0 rfl) ?_
          refine va_get (D := D) (cl := xCl) (ci := 0) (v := .ref (ad (k + 6))) (C := rnG) (T := tbG) (N := 9) hx hb hts inG hown hK hP k h_26 rfl 5 (by decide) (hts _ tw_34) (fun _ h9 => h9) rfl dG_addNeed_79 ?_
          refine lv_iload_n hx hb dG_addNeed_82 rfl (lv_at hl 1 rfl) ?_
          refine lv_dup2_11 hx hb dG_addNeed_83 rfl rfl ?_
          refine va_iald hx hb hK hP (k + 6) 0 h_31 hI (vp_in_nI (by omega) (by omega)) dG_addNeed_84 ?_
          refine lv_topi (fun v_34 ev_34 => ?_)
          refine lv_iconst (v := 1) hx hb dG_addNeed_85 (by decide) ?_
          refine lv_iload_n hx hb dG_addNeed_86 rfl (lv_at hl 2 rfl) ?_
          refine lv_ishl hx hb dG_addNeed_87 ?_
          refine lv_topi (fun v_35 ev_35 => ?_)
          refine lv_ior hx hb dG_addNeed_88 ?_
          refine lv_topi (fun v_36 ev_36 => ?_)
          obtain rfl : v_36 = (F 6 ta ||| ((1 : Int32) <<< (nI ob &&& 31))) := by rw [ev_36, ev_34, ev_35, nI_clamp (by omega)]
          refine va_iast hx hb hK hP hD hS (k + 6) 0 h_31 hI (vp_in_nI (by omega) (by omega)) dG_addNeed_89 (fun H locs hP hD hS => ?_)
          obtain ⟨ws_38, hu_37, hP, hD⟩ := x_gen h_31 hP hD
          have h_39 : ws_38[k + 6]? = some (ad (k + 6), .inl (cI, 30, .inl (upd (F 6) ((nI ta)).toNatClampNeg ((F 6 ta ||| ((1 : Int32) <<< (nI ob &&& 31))))))) := hu_37.1
          have h_40 := (hu_37.2 k (by omega)).trans h_26
          have h_41 := (hu_37.2 (k + 1) (by omega)).trans h_27
          have h_42 := (hu_37.2 (k + 2) (by omega)).trans h_28
          have h_43 := (hu_37.2 (k + 3) (by omega)).trans h_29
          have h_44 := (hu_37.2 (k + 4) (by omega)).trans h_30
          have h_45 := (hu_37.2 (k + 5) (by omega)).trans h_25
          have h_46 := (hu_37.2 (k + 7) (by omega)).trans h_32
          have h_47 := (hu_37.2 (k + 8) (by omega)).trans h_33
          refine lv_aload_n hx hb dG_addNeed_90 rfl (lv_at hl 0 rfl) ?_
          refine va_get (D := D) (cl := xCl) (ci := 0) (v := .ref (ad (k + 7))) (C := rnG) (T := tbG) (N := 9) hx hb hts inG hown hK hP k h_40 rfl 6 (by decide) (hts _ tw_35) (fun _ h9 => h9) rfl dG_addNeed_91 ?_
          refine lv_iload_n hx hb dG_addNeed_94 rfl (lv_at hl 2 rfl) ?_
          refine lv_dup2_11 hx hb dG_addNeed_95 rfl rfl ?_
          refine va_iald hx hb hK hP (k + 7) 0 h_46 hI (vp_in_nI (by omega) (by omega)) dG_addNeed_96 ?_
          refine lv_topi (fun v_48 ev_48 => ?_)
          refine lv_iconst (v := 1) hx hb dG_addNeed_97 (by decide) ?_
          refine lv_iload_n hx hb dG_addNeed_98 rfl (lv_at hl 1 rfl) ?_
          refine lv_ishl hx hb dG_addNeed_99 ?_
          refine lv_topi (fun v_49 ev_49 => ?_)
          refine lv_ior hx hb dG_addNeed_100 ?_
          refine lv_topi (fun v_50 ev_50 => ?_)
          obtain rfl : v_50 = (F 7 ob ||| ((1 : Int32) <<< (nI ta &&& 31))) := by rw [ev_50, ev_48, ev_49, nI_clamp (by omega)]
          refine va_iast hx hb hK hP hD hS (k + 7) 0 h_46 hI (vp_in_nI (by omega) (by omega)) dG_addNeed_101 (fun H locs hP hD hS => ?_)
          obtain ⟨ws_52, hu_51, hP, hD⟩ := x_gen h_46 hP hD
          have h_53 : ws_52[k + 7]? = some (ad (k + 7), .inl (cI, 30, .inl (upd (F 7) ((nI ob)).toNatClampNeg ((F 7 ob ||| ((1 : Int32) <<< (nI ta &&& 31))))))) := hu_51.1
          have h_54 := (hu_51.2 k (by omega)).trans h_40
          have h_55 := (hu_51.2 (k + 1) (by omega)).trans h_41
          have h_56 := (hu_51.2 (k + 2) (by omega)).trans h_42
          have h_57 := (hu_51.2 (k + 3) (by omega)).trans h_43
          have h_58 := (hu_51.2 (k + 4) (by omega)).trans h_44
          have h_59 := (hu_51.2 (k + 5) (by omega)).trans h_45
          have h_60 := (hu_51.2 (k + 6) (by omega)).trans h_39
          have h_61 := (hu_51.2 (k + 8) (by omega)).trans h_47
          refine lv_iconst (v := 1) hx hb dG_addNeed_102 (by decide) ?_
          exact x_zret hx hb hr rfl hlk hK hP hD hS dG_addNeed_103 ⟨((((hu_10.fr (a := k) (b := k + 9) (by omega) (by omega)).tr (hu_23.fr (a := k) (b := k + 9) (by omega) (by omega))).tr (hu_37.fr (a := k) (b := k + 9) (by omega) (by omega))).tr (hu_51.fr (a := k) (b := k + 9) (by omega) (by omega))), by rw [ndS_yes hle hta hob hnm9 h89], by rw [ndS_yes hle hta hob hnm9 h89]; exact ⟨setF (setF (setF (setF F 4 (upd (F 4) ((nI (ta * 8 + (gD g ta).length))).toNatClampNeg ((nI ob)))) 5 (upd (F 5) ((nI ta)).toNatClampNeg ((nI ((gD g ta).length + 1))))) 6 (upd (F 6) ((nI ta)).toNatClampNeg ((F 6 ta ||| ((1 : Int32) <<< (nI ob &&& 31)))))) 7 (upd (F 7) ((nI ob)).toNatClampNeg ((F 7 ob ||| ((1 : Int32) <<< (nI ta &&& 31))))), ⟨by rw [gNd_len]; exact h_54, h_55, h_56, h_57, h_58, h_59, h_60, h_53, h_61⟩, GrRel.nd hR hta hob hnm9 h89 rfl rfl rfl (by show upd _ _ _ = _; rw [nI_clamp (by omega)]) (by show upd _ _ _ = _; rw [nI_clamp (by omega)]) (by show upd _ _ _ = _; rw [nI_clamp (by omega)]) (by show upd _ _ _ = _; rw [nI_clamp (by omega)])⟩⟩
        · refine lv_iconst (v := 0) hx hb dG_addNeed_49 (by decide) ?_
          exact x_zret hx hb hr rfl hlk hK hP hD hS dG_addNeed_50 ⟨x_fr.rf, by rw [ndS_no (fun hc => by have q9 := (hok3 ta).2.1; have q := blw_no (n := 8) (by omega) hb4 c46; rw [ev_5, nI_clamp (by omega), hr5 ta (by omega), nI_toInt (by omega)] at q; have q2 := hc.2.2.2; rw [nI_toInt (by omega)] at q2; simp at q2; omega)], by rw [ndS_no (fun hc => by have q9 := (hok3 ta).2.1; have q := blw_no (n := 8) (by omega) hb4 c46; rw [ev_5, nI_clamp (by omega), hr5 ta (by omega), nI_toInt (by omega)] at q; have q2 := hc.2.2.2; rw [nI_toInt (by omega)] at q2; simp at q2; omega)]; exact hG⟩

set_option maxHeartbeats 4000000 in
set_option maxRecDepth 100000 in
/-- Graph.ofKind(kind) -/
theorem cG_ofKind (l : Launch) (D : va_G) (tys : List (ClassId × FieldType)) (A : Nat → Prop) (ws : va_W) (cI : ClassId) (hI : tys[0]? = some (cI, .int)) (ad : Nat → Nat) (k : Nat) (g : Gr) (kk : Int32) (hG : GraphAt cI ad ws k g) : x_Mi l yG_ofKind wG_ofKind (xR 0) D xCl tys A [.ref (ad k), .int kk] ws (fun r ws1 => (∀ i, i < 32 → bt r i = decide (i < g.length ∧ nI (gK g i) = kk)) ∧ ws = ws1) := by
  obtain ⟨F, ⟨h0, h1, h2, h3, h4, h5, h6, h7, h8⟩, hR⟩ := id hG
  obtain ⟨⟨hle, hok1, hok2, hok3⟩, hr1, hr2, hr3, hr4, hr5, hr6, hr7⟩ := id hR
  refine x_enter (by decide) rfl (Nat.le_of_ble_eq_true rfl) (fun p e s m args below meth c ls hx hb hr hlk hml hown hnm hts hK hP hD hS hA hN hl => ?_)
  have hl : lv_has ls 4 [(0, .ref (ad k)), (1, .int kk)] := hl
  have loop_4 : ∀ (n : Nat) (i : Nat) (w0 : Int32) (hi : i ≤ g.length) (ws1 : va_W) (H : Heap) (locs : List Loc) (ls : Array Slot), (∀ x, x < 32 → bt w0 x = decide (x < i ∧ nI (gK g x) = kk)) → ws = ws1 → g.length - i < n → va_P D xCl ws1 H → va_D A ws1 → va_S A s.heap H locs → lv_has ls 4 [(0, .ref (ad k)), (1, .int kk), (2, .int w0), (3, .int (nI i))] → W p l e (xR 0) s m args below meth c H locs 0 0 (MQ below (va_Qi (fun r ws1 => (∀ i, i < 32 → bt r i = decide (i < g.length ∧ nI (gK g i) = kk)) ∧ ws = ws1) (x_B D xCl tys A) A) args s 0 0 A) (F0 m 4 ls []) := by
    intro n
    induction n with
    | zero => intro i w0 hi ws1 H locs ls hw0 hws hme; exact absurd hme (Nat.not_lt_zero _)
    | succ n ih =>
      intro i w0 hi ws1 H locs ls hw0 hws hme hP hD hS hl
      subst hws
      refine lv_iload_n hx hb dG_ofKind_4 rfl (lv_at hl 3 rfl) ?_
      refine lv_aload_n hx hb dG_ofKind_5 rfl (lv_at hl 0 rfl) ?_
      refine va_get (D := D) (cl := xCl) (ci := 0) (v := .int (nI g.length)) (C := rnG) (T := tbG) (N := 9) hx hb hts inG hown hK hP k h0 rfl 8 (by decide) (hts _ tw_37) (fun _ h9 => h9) rfl dG_ofKind_6 ?_
      refine lv_icmp_ge (tgt := 43) hx hb dG_ofKind_9 (by decide) (fun c9 => ?_) (fun c9 => ?_)
      · refine lv_iload_n hx hb dG_ofKind_43 rfl (lv_at hl 2 rfl) ?_
        exact x_iret hx hb hr hlk hK hP hD hS dG_ofKind_44 ⟨fun x hx => by rw [hw0 x hx]; have e : i = g.length := (by rw [nI_leI (by omega) (by omega)] at c9; omega); rw [e], rfl⟩
      · have hi2 : i < g.length := by rw [nI_leI (by omega) (by omega)] at c9; omega
        refine lv_iload_n hx hb dG_ofKind_12 rfl (lv_at hl 3 rfl) ?_
        refine lv_aload_n hx hb dG_ofKind_13 rfl (lv_at hl 0 rfl) ?_
        refine va_get (D := D) (cl := xCl) (ci := 0) (v := .ref (ad (k + 2))) (C := rnG) (T := tbG) (N := 9) hx hb hts inG hown hK hP k h0 rfl 1 (by decide) (hts _ tw_30) (fun _ h9 => h9) rfl dG_ofKind_14 ?_
        refine va_alen (v := 30) hx hb hK hP (k + 2) 0 h2 hI (by rfl) dG_ofKind_17 ?_
        refine lv_icmp_ge (tgt := 43) hx hb dG_ofKind_18 (by decide) (fun c18 => ?_) (fun c18 => ?_)
        · exact absurd ((nI_leI (a := 30) (by omega) (by omega)).mp c18) (by omega)
        · refine lv_aload_n hx hb dG_ofKind_21 rfl (lv_at hl 0 rfl) ?_
          refine va_get (D := D) (cl := xCl) (ci := 0) (v := .ref (ad (k + 2))) (C := rnG) (T := tbG) (N := 9) hx hb hts inG hown hK hP k h0 rfl 1 (by decide) (hts _ tw_30) (fun _ h9 => h9) rfl dG_ofKind_22 ?_
          refine lv_iload_n hx hb dG_ofKind_25 rfl (lv_at hl 3 rfl) ?_
          refine va_iald hx hb hK hP (k + 2) 0 h2 hI (vp_in_nI (by omega) (by omega)) dG_ofKind_26 ?_
          refine lv_topi (fun v_1 ev_1 => ?_)
          refine lv_iload_n hx hb dG_ofKind_27 rfl (lv_at hl 1 rfl) ?_
          refine lv_icmp_ne (tgt := 37) hx hb dG_ofKind_28 (by decide) (fun c28 => ?_) (fun c28 => ?_)
          · refine lv_iinc (v := (nI (i + 1))) (lv' := [(3, .int (nI (i + 1))), (0, .ref (ad k)), (1, .int kk), (2, .int w0)]) hx hb dG_ofKind_37 hl (k := 3) rfl (nI_1 _) (by decide) rfl (fun ls hl => ?_)
            refine lv_goto (tgt := 4) hx hb dG_ofKind_40 (by decide) ?_
            exact ih (i + 1) w0 (by omega) ws _ _ _ (fun x hx => by rw [ev_1, nI_clamp (by omega), hr2 i hi2] at c28; rw [hw0 x hx]; exact msk_keep (P := fun x => nI (gK g x) = kk) c28) rfl (by omega) hP hD hS (lv_sub hl [1, 2, 3, 0] rfl)
          · refine lv_iload_n hx hb dG_ofKind_31 rfl (lv_at hl 2 rfl) ?_
            refine lv_iconst (v := 1) hx hb dG_ofKind_32 (by decide) ?_
            refine lv_iload_n hx hb dG_ofKind_33 rfl (lv_at hl 3 rfl) ?_
            refine lv_ishl hx hb dG_ofKind_34 ?_
            refine lv_topi (fun v_2 ev_2 => ?_)
            refine lv_ior hx hb dG_ofKind_35 ?_
            refine lv_topi (fun v_3 ev_3 => ?_)
            refine lv_istore_n (lv' := [(2, .int v_3), (0, .ref (ad k)), (1, .int kk), (3, .int (nI i))]) hx hb dG_ofKind_36 rfl hl (by decide) rfl (fun ls hl => ?_)
            refine lv_iinc (v := (nI (i + 1))) (lv' := [(3, .int (nI (i + 1))), (2, .int v_3), (0, .ref (ad k)), (1, .int kk)]) hx hb dG_ofKind_37 hl (k := 3) rfl (nI_1 _) (by decide) rfl (fun ls hl => ?_)
            refine lv_goto (tgt := 4) hx hb dG_ofKind_40 (by decide) ?_
            exact ih (i + 1) v_3 (by omega) ws _ _ _ (fun x hx => by rw [ev_1, nI_clamp (by omega), hr2 i hi2] at c28; rw [ev_3, ev_2, b_or, hw0 x hx, b_sh1 (by omega) hx]; exact msk_add (P := fun x => nI (gK g x) = kk) c28) rfl (by omega) hP hD hS (lv_sub hl [2, 3, 1, 0] rfl)
  refine lv_iconst (v := 0) hx hb dG_ofKind_0 (by decide) ?_
  refine lv_istore_n (lv' := [(2, .int 0), (0, .ref (ad k)), (1, .int kk)]) hx hb dG_ofKind_1 rfl hl (by decide) rfl (fun ls hl => ?_)
  refine lv_iconst (v := 0) hx hb dG_ofKind_2 (by decide) ?_
  refine lv_istore_n (lv' := [(3, .int 0), (2, .int 0), (0, .ref (ad k)), (1, .int kk)]) hx hb dG_ofKind_3 rfl hl (by decide) rfl (fun ls hl => ?_)
  exact loop_4 _ 0 0 (Nat.zero_le _) ws _ _ _ (fun i hi => by rw [b_0, decide_eq_false]; omega) rfl (Nat.lt_succ_self _) hP hD hS (lv_sub hl [2, 3, 1, 0] rfl)
end
section
set_option maxHeartbeats 4000000 in
set_option maxRecDepth 100000 in
/-- Graph.listAll(list) -/
theorem cG_listAll (l : Launch) (D : va_G) (tys : List (ClassId × FieldType)) (A : Nat → Prop) (ws : va_W) (cI : ClassId) (hI : tys[0]? = some (cI, .int)) (ad : Nat → Nat) (kg k : Nat) (hd : kg + 9 ≤ k) (g : Gr) (L : List Nat) (hG : GraphAt cI ad ws kg g) (h : RowAt cI ad ws k L) : x_Mv l yG_listAll wG_listAll (xR 2) D xCl tys A [.ref (ad kg), .ref (ad k)] ws (fun ws1 => x_two k ws ws1 ∧ RowAt cI ad ws1 k (addL L (List.range g.length))) := by
  refine x_enter (by decide) rfl (Nat.le_of_ble_eq_true rfl) (fun p e s m args below meth c ls hx hb hr hlk hml hown hnm hts hK hP hD hS hA hN hl => ?_)
  have hl : lv_has ls 3 [(0, .ref (ad kg)), (1, .ref (ad k))] := hl
  have loop_2 : ∀ (n : Nat) (i : Nat) (hi : i ≤ g.length) (ws1 : va_W) (H : Heap) (locs : List Loc) (ls : Array Slot), x_two k ws ws1 → RowAt cI ad ws1 k (addL L (List.range i)) → GraphAt cI ad ws1 kg g → g.length - i < n → va_P D xCl ws1 H → va_D A ws1 → va_S A s.heap H locs → lv_has ls 3 [(0, .ref (ad kg)), (1, .ref (ad k)), (2, .int (nI i))] → W p l e (xR 2) s m args below meth c H locs 0 0 (MQ below (va_Qv (fun ws1 => x_two k ws ws1 ∧ RowAt cI ad ws1 k (addL L (List.range g.length))) (x_B D xCl tys A) A) args s 0 0 A) (F0 m 2 ls []) := by
    intro n
    induction n with
    | zero => intro i hi ws1 H locs ls hT hrow hG1 hme; exact absurd hme (Nat.not_lt_zero _)
    | succ n ih =>
      intro i hi ws1 H locs ls hT hrow hG1 hme hP hD hS hl
      obtain ⟨fsR, hRo⟩ := hrow.obj
      obtain ⟨f1, hR1⟩ := id hrow
      obtain ⟨FF, ⟨hg0, -⟩, -⟩ := id hG1
      have hle := hG1.ok.1
      refine lv_iload_n hx hb dG_listAll_2 rfl (lv_at hl 2 rfl) ?_
      refine lv_aload_n hx hb dG_listAll_3 rfl (lv_at hl 0 rfl) ?_
      refine va_get (D := D) (cl := xCl) (ci := 0) (v := .int (nI g.length)) (C := rnG) (T := tbG) (N := 9) hx hb hts inG hown hK hP kg hg0 rfl 8 (by decide) (hts _ tw_37) (fun _ h9 => h9) rfl dG_listAll_4 ?_
      refine lv_icmp_ge (tgt := 21) hx hb dG_listAll_7 (by decide) (fun c7 => ?_) (fun c7 => ?_)
      · exact x_vret hx hb hr hlk hK hP hD hS dG_listAll_21 ⟨hT, by have e : i = g.length := (by rw [nI_leI (by omega) (by omega)] at c7; omega); rw [e] at hrow; exact hrow⟩
      · have hi2 : i < g.length := by rw [nI_leI (by omega) (by omega)] at c7; omega
        refine lv_aload_n hx hb dG_listAll_10 rfl (lv_at hl 1 rfl) ?_
        refine lv_iload_n hx hb dG_listAll_11 rfl (lv_at hl 2 rfl) ?_
        refine x_callv (x_runV (n := 1) (As := [.int (nI i)]) (rest := []) ⟨hx, hb, hml, hown, hts⟩ (cR_add l D tys A ws1 cI hI ad k _ ((nI i)) f1 hR1) tw_488 tw_451 tw_452 tw_7 tw_453 (by decide +kernel) rfl rfl ⟨by decide, by decide⟩ ⟨Nat.zero_le _, Nat.zero_le _⟩ (va_recv hK hP (ci := 2) (q0 := k) rfl hRo) hK hP hD hS hA hN rfl hl.1 rfl (lv_room (Nat.le_of_ble_eq_true rfl)) dG_listAll_12) hS (fun ws_1 H locs hadd hP hD hS => ?_)
        obtain ⟨ht2, f9, hr2, -⟩ := hadd
        have hG2 := hG1.keep ht2.fr (by omega)
        refine lv_iinc (v := (nI (i + 1))) (lv' := [(2, .int (nI (i + 1))), (0, .ref (ad kg)), (1, .ref (ad k))]) hx hb dG_listAll_15 hl (k := 2) rfl (nI_1 _) (by decide) rfl (fun ls hl => ?_)
        refine lv_goto (tgt := 2) hx hb dG_listAll_18 (by decide) ?_
        exact ih (i + 1) (by omega) ws_1 _ _ _ (hT.tr ht2) (by rw [List.range_succ, addL, List.foldl_append]; show RowAt cI ad _ k (addN ((List.range i).foldl addN L) i); rw [← addI_N _ (by omega)]; exact ⟨_, hr2⟩) hG2 (by omega) hP hD hS (lv_sub hl [1, 2, 0] rfl)
  refine lv_iconst (v := 0) hx hb dG_listAll_0 (by decide) ?_
  refine lv_istore_n (lv' := [(2, .int 0), (0, .ref (ad kg)), (1, .ref (ad k))]) hx hb dG_listAll_1 rfl hl (by decide) rfl (fun ls hl => ?_)
  exact loop_2 _ 0 (Nat.zero_le _) ws _ _ _ x_two.rf h hG (Nat.lt_succ_self _) hP hD hS (lv_sub hl [1, 2, 0] rfl)

theorem addNeeds_s {g : Gr} {ta i : Nat} (hg : GrOK g) (hta : ta < 30) (hi : i < 8) (L : List Nat) : addL L ((gD g ta).take (i + 1)) = addI (addL L ((gD g ta).take i)) (gAt g (nI ta) (nI i)) := by
  by_cases h : i < (gD g ta).length
  · rw [gAt_nI g (by omega) h (by omega), addI_N _ (by
      have := (hg.2.2.2 ta).2.2 ((gD g ta).getD i 0) (by rw [List.getD_eq_getElem?_getD, List.getElem?_eq_getElem h]; exact List.getElem_mem h)
      have := hg.1
      omega)]
    unfold addL
    rw [take_foldl addN L _ h]
    simp [h]
  · rw [gAt_no (by rw [nI_toInt (by omega), nI_toInt (by omega)]; simp; omega), addI_m1, List.take_of_length_le (by omega), List.take_of_length_le (by omega)]

set_option maxHeartbeats 4000000 in
set_option maxRecDepth 100000 in
/-- Graph.addNeedsOf(t, list) -/
theorem cG_addNeedsOf (l : Launch) (D : va_G) (tys : List (ClassId × FieldType)) (A : Nat → Prop) (ws : va_W) (cI : ClassId) (hI : tys[0]? = some (cI, .int)) (ad : Nat → Nat) (kg k : Nat) (hd : kg + 9 ≤ k) (g : Gr) (L : List Nat) (ta : Nat) (hta : ta < 30) (hG : GraphAt cI ad ws kg g) (h : RowAt cI ad ws k L) : x_Mv l yG_addNeedsOf wG_addNeedsOf (xR 2) D xCl tys A [.ref (ad kg), .int (nI ta), .ref (ad k)] ws (fun ws1 => x_two k ws ws1 ∧ RowAt cI ad ws1 k (addL L (gD g ta))) := by
  refine x_enter (by decide) rfl (Nat.le_of_ble_eq_true rfl) (fun p e s m args below meth c ls hx hb hr hlk hml hown hnm hts hK hP hD hS hA hN hl => ?_)
  have hl : lv_has ls 4 [(0, .ref (ad kg)), (1, .int (nI ta)), (2, .ref (ad k))] := hl
  have loop_2 : ∀ (n : Nat) (i : Nat) (hi : i ≤ 8) (ws1 : va_W) (H : Heap) (locs : List Loc) (ls : Array Slot), x_two k ws ws1 → RowAt cI ad ws1 k (addL L ((gD g ta).take i)) → GraphAt cI ad ws1 kg g → 8 - i < n → va_P D xCl ws1 H → va_D A ws1 → va_S A s.heap H locs → lv_has ls 4 [(0, .ref (ad kg)), (1, .int (nI ta)), (2, .ref (ad k)), (3, .int (nI i))] → W p l e (xR 2) s m args below meth c H locs 0 0 (MQ below (va_Qv (fun ws1 => x_two k ws ws1 ∧ RowAt cI ad ws1 k (addL L (gD g ta))) (x_B D xCl tys A) A) args s 0 0 A) (F0 m 2 ls []) := by
    intro n
    induction n with
    | zero => intro i hi ws1 H locs ls hT hrow hG1 hme; exact absurd hme (Nat.not_lt_zero _)
    | succ n ih =>
      intro i hi ws1 H locs ls hT hrow hG1 hme hP hD hS hl
      obtain ⟨fsR, hRo⟩ := hrow.obj
      obtain ⟨f1, hR1⟩ := id hrow
      obtain ⟨FF, ⟨hg0, -⟩, -⟩ := id hG1
      have hle := hG1.ok.1
      refine lv_iload_n hx hb dG_addNeedsOf_2 rfl (lv_at hl 3 rfl) ?_
      refine lv_bipush (v := 8) hx hb dG_addNeedsOf_3 (by decide) ?_
      refine lv_icmp_ge (tgt := 24) hx hb dG_addNeedsOf_5 (by decide) (fun c5 => ?_) (fun c5 => ?_)
      · exact x_vret hx hb hr hlk hK hP hD hS dG_addNeedsOf_24 ⟨hT, by have e : i = 8 := (by have c5 : nI 8 ≤ nI i := c5; rw [nI_leI (by omega) (by omega)] at c5; omega); rw [e, List.take_of_length_le (hG1.ok.2.2.2 ta).2.1] at hrow; exact hrow⟩
      · have hi2 : i < 8 := by have c5 : ¬ nI 8 ≤ nI i := c5; rw [nI_leI (by omega) (by omega)] at c5; omega
        refine lv_aload_n hx hb dG_addNeedsOf_8 rfl (lv_at hl 2 rfl) ?_
        refine lv_aload_n hx hb dG_addNeedsOf_9 rfl (lv_at hl 0 rfl) ?_
        refine lv_iload_n hx hb dG_addNeedsOf_10 rfl (lv_at hl 1 rfl) ?_
        refine lv_iload_n hx hb dG_addNeedsOf_11 rfl (lv_at hl 3 rfl) ?_
        refine x_calli (x_runV (n := 2) (As := [.int (nI ta), .int (nI i)]) (rest := [.ref (ad k)]) ⟨hx, hb, hml, hown, hts⟩ (cG_needAt l D tys A ws1 cI hI ad kg g ((nI ta)) ((nI i)) hG1) tw_487 tw_197 tw_198 tw_2 tw_199 (by decide +kernel) rfl rfl ⟨by decide, by decide⟩ ⟨Nat.zero_le _, Nat.zero_le _⟩ (va_recv hK hP (ci := 0) (q0 := kg) rfl hg0) hK hP hD hS hA hN rfl hl.1 rfl (lv_room (Nat.le_of_ble_eq_true rfl)) dG_addNeedsOf_12) hS (fun rna ws_1 H locs hna hP hD hS => ?_)
        obtain ⟨hna, rfl⟩ := hna
        refine x_callv (x_runV (n := 1) (As := [.int rna]) (rest := []) ⟨hx, hb, hml, hown, hts⟩ (cR_add l D tys A ws1 cI hI ad k _ rna f1 hR1) tw_488 tw_451 tw_452 tw_7 tw_453 (by decide +kernel) rfl rfl ⟨by decide, by decide⟩ ⟨Nat.zero_le _, Nat.zero_le _⟩ (va_recv hK hP (ci := 2) (q0 := k) rfl hRo) hK hP hD hS hA hN rfl hl.1 rfl (lv_room (Nat.le_of_ble_eq_true rfl)) dG_addNeedsOf_15) hS (fun ws_2 H locs hadd hP hD hS => ?_)
        obtain ⟨ht2, f9, hr2, -⟩ := hadd
        have hG2 := hG1.keep ht2.fr (by omega)
        refine lv_iinc (v := (nI (i + 1))) (lv' := [(3, .int (nI (i + 1))), (0, .ref (ad kg)), (1, .int (nI ta)), (2, .ref (ad k))]) hx hb dG_addNeedsOf_18 hl (k := 3) rfl (nI_1 _) (by decide) rfl (fun ls hl => ?_)
        refine lv_goto (tgt := 2) hx hb dG_addNeedsOf_21 (by decide) ?_
        exact ih (i + 1) (by omega) ws_2 _ _ _ (hT.tr ht2) (by rw [addNeeds_s hG1.ok hta hi2, ← hna]; exact ⟨_, hr2⟩) hG2 (by omega) hP hD hS (lv_sub hl [1, 2, 3, 0] rfl)
  refine lv_iconst (v := 0) hx hb dG_addNeedsOf_0 (by decide) ?_
  refine lv_istore_n (lv' := [(3, .int 0), (0, .ref (ad kg)), (1, .int (nI ta)), (2, .ref (ad k))]) hx hb dG_addNeedsOf_1 rfl hl (by decide) rfl (fun ls hl => ?_)
  exact loop_2 _ 0 (Nat.zero_le _) ws _ _ _ x_two.rf h hG (Nat.lt_succ_self _) hP hD hS (lv_sub hl [1, 2, 3, 0] rfl)

theorem fm_congr {w : Int32} {L : List Nat} {P : Nat → Prop} [DecidablePred P] (h : ∀ i, i < 32 → bt w i = decide (P i)) (hL : ∀ t ∈ L, t < 30) : fm w L = L.filter (fun t => decide (P t)) := by
  unfold fm
  exact List.filter_congr (fun t ht => h t (by have := hL t ht; omega))

set_option maxHeartbeats 4000000 in
set_option maxRecDepth 100000 in
/-- Graph.keepKind(list, kind) -/
theorem cG_keepKind (l : Launch) (D : va_G) (tys : List (ClassId × FieldType)) (A : Nat → Prop) (ws : va_W) (cI : ClassId) (hI : tys[0]? = some (cI, .int)) (ad : Nat → Nat) (kg k : Nat) (hd : kg + 9 ≤ k) (g : Gr) (L : List Nat) (kk : Int32) (hG : GraphAt cI ad ws kg g) (h : RowAt cI ad ws k L) : x_Mv l yG_keepKind wG_keepKind (xR 3) D xCl tys A [.ref (ad kg), .ref (ad k), .int kk] ws (fun ws1 => x_two k ws ws1 ∧ RowAt cI ad ws1 k (L.filter (fun t => decide (t < g.length ∧ nI (gK g t) = kk)))) := by
  obtain ⟨fsR, hRo⟩ := h.obj
  obtain ⟨FF, ⟨hg0, -⟩, -⟩ := id hG
  refine x_enter (by decide) rfl (Nat.le_of_ble_eq_true rfl) (fun p e s m args below meth c ls hx hb hr hlk hml hown hnm hts hK hP hD hS hA hN hl => ?_)
  have hl : lv_has ls 3 [(0, .ref (ad kg)), (1, .ref (ad k)), (2, .int kk)] := hl
  refine lv_aload_n hx hb dG_keepKind_0 rfl (lv_at hl 1 rfl) ?_
  refine lv_aload_n hx hb dG_keepKind_1 rfl (lv_at hl 0 rfl) ?_
  refine lv_iload_n hx hb dG_keepKind_2 rfl (lv_at hl 2 rfl) ?_
  refine x_calli (x_runV (n := 1) (As := [.int kk]) (rest := [.ref (ad k)]) ⟨hx, hb, hml, hown, hts⟩ (cG_ofKind l D tys A ws cI hI ad kg g kk hG) tw_533 tw_535 ts_G_ofKind tw_2 tw_536 (by decide +kernel) rfl rfl ⟨by decide, by decide⟩ ⟨Nat.zero_le _, Nat.zero_le _⟩ (va_recv hK hP (ci := 0) (q0 := kg) rfl hg0) hK hP hD hS hA hN rfl hl.1 rfl (lv_room (Nat.le_of_ble_eq_true rfl)) dG_keepKind_3) hS (fun rok ws_1 H locs hok hP hD hS => ?_)
  obtain ⟨hok, rfl⟩ := hok
  refine x_callv (x_runV (n := 1) (As := [.int rok]) (rest := []) ⟨hx, hb, hml, hown, hts⟩ (cR_keep l D tys A ws cI hI ad k L rok h) tw_537 tw_470 tw_471 tw_7 tw_472 (by decide +kernel) rfl rfl ⟨by decide, by decide⟩ ⟨Nat.zero_le _, Nat.zero_le _⟩ (va_recv hK hP (ci := 2) (q0 := k) rfl hRo) hK hP hD hS hA hN rfl hl.1 rfl (lv_room (Nat.le_of_ble_eq_true rfl)) dG_keepKind_6) hS (fun ws_2 H locs hkp hP hD hS => ?_)
  exact x_vret hx hb hr hlk hK hP hD hS dG_keepKind_9 ⟨hkp.1, by have q := hkp.2; rw [fm_congr hok h.lt] at q; exact q⟩

-- ===== growing in rounds =====
def pfx (L M : List Nat) : Prop := ∃ N, M = L ++ N
theorem pfx.rf (L : List Nat) : pfx L L := ⟨[], by simp⟩
theorem pfx.tr {A B C : List Nat} (h : pfx A B) (h2 : pfx B C) : pfx A C := by
  obtain ⟨x, rfl⟩ := h
  obtain ⟨y, rfl⟩ := h2
  exact ⟨x ++ y, by simp⟩
theorem pfx.len {A B : List Nat} (h : pfx A B) : A.length ≤ B.length := by
  obtain ⟨x, rfl⟩ := h
  rw [List.length_append]; omega
theorem pfx.get {A B : List Nat} (h : pfx A B) {i : Nat} (hi : i < A.length) : ∃ h2 : i < B.length, B[i] = A[i] := by
  obtain ⟨x, rfl⟩ := h
  exact ⟨by rw [List.length_append]; omega, List.getElem_append_left hi⟩
theorem pfx_addN (L : List Nat) (t : Nat) : pfx L (addN L t) := by
  unfold addN
  split
  · exact pfx.rf L
  · exact ⟨[t], rfl⟩
theorem pfx_addL : ∀ (M L : List Nat), pfx L (addL L M) := by
  intro M
  induction M with
  | nil => intro L; exact pfx.rf L
  | cons a t ih => intro L; exact (pfx_addN L a).tr (ih _)
/-- for each of the row in order, what nb has for it, added at the end -/
def addB (nb : Nat → List Nat) (L R : List Nat) : List Nat := R.foldl (fun M t => addL M (nb t)) L
theorem pfx_addB (nb : Nat → List Nat) : ∀ (R L : List Nat), pfx L (addB nb L R) := by
  intro R
  induction R with
  | nil => intro L; exact pfx.rf L
  | cons a t ih => intro L; exact (pfx_addL _ L).tr (ih _)
/-- at most r rounds; those from fr on are the round before -/
def growR (nb : Nat → List Nat) : Nat → List Nat → Nat → List Nat
  | 0, L, _ => L
  | r + 1, L, fr => if fr < L.length then growR nb r (addB nb L (L.drop fr)) L.length else L
theorem growR_end (nb : Nat → List Nat) (r : Nat) {L : List Nat} {fr : Nat} (h : L.length ≤ fr) : growR nb r L fr = L := by
  cases r with
  | zero => rfl
  | succ r => exact if_neg (by omega)
theorem growR_s (nb : Nat → List Nat) (r : Nat) {L : List Nat} {fr : Nat} (h : fr < L.length) : growR nb (r + 1) L fr = growR nb r (addB nb L (L.drop fr)) L.length := if_pos h
theorem addB_s (nb : Nat → List Nat) (L R : List Nat) {j : Nat} (h : j < R.length) : addB nb L (R.take (j + 1)) = addL (addB nb L (R.take j)) (nb R[j]) := take_foldl _ L R h
/-- those that need t, by their numbers -/
def gU (g : Gr) (t : Nat) : List Nat := (List.range 30).filter (fun u => decide (t ∈ gD g u))
theorem addM_eq (L : List Nat) (w : Int32) : ∀ n, addM L w n = addL L ((List.range n).filter (fun i => bt w i)) := by
  intro n
  induction n with
  | zero => rfl
  | succ n ih =>
    rw [List.range_succ, List.filter_append]
    show (if bt w n = true then addN (addM L w n) n else addM L w n) = _
    unfold addL at *
    rw [List.foldl_append, ← ih]
    by_cases h : bt w n = true
    · rw [if_pos h, List.filter_cons, if_pos h]; rfl
    · rw [if_neg h, List.filter_cons, if_neg h]; rfl
theorem addM_U {g : Gr} {w : Int32} {ta : Nat} (hta : ta < 30) (h : ∀ i, i < 32 → bt w i = decide (0 ≤ (nI ta).toInt ∧ (nI ta).toInt.toNat ∈ gD g i)) (L : List Nat) : addM L w 30 = addL L (gU g ta) := by
  rw [addM_eq]
  congr 1
  apply List.filter_congr
  intro u hu
  have hu := List.mem_range.mp hu
  rw [h u (by omega), nI_toInt (by omega)]
  apply decide_eq_decide.mpr
  simp

set_option maxHeartbeats 4000000 in
set_option maxRecDepth 100000 in
/-- Graph.growByNeeds(list, rounds) -/
theorem cG_growByNeeds (l : Launch) (D : va_G) (tys : List (ClassId × FieldType)) (A : Nat → Prop) (ws : va_W) (cI : ClassId) (hI : tys[0]? = some (cI, .int)) (ad : Nat → Nat) (kg k : Nat) (hd : kg + 9 ≤ k) (g : Gr) (L : List Nat) (R : Nat) (hRR : R < 1000) (hG : GraphAt cI ad ws kg g) (h : RowAt cI ad ws k L) : x_Mv l yG_growByNeeds wG_growByNeeds (xR 3) D xCl tys A [.ref (ad kg), .ref (ad k), .int (nI R)] ws (fun ws1 => x_two k ws ws1 ∧ RowAt cI ad ws1 k (growR (gD g) R L 0)) := by
  refine x_enter (by decide) rfl (Nat.le_of_ble_eq_true rfl) (fun p e s m args below meth c ls hx hb hr hlk hml hown hnm hts hK hP hD hS hA hN hl => ?_)
  have hl : lv_has ls 7 [(0, .ref (ad kg)), (1, .ref (ad k)), (2, .int (nI R))] := hl
  have loop_28 : ∀ (n : Nat) (M : List Nat) (fr u j : Nat) (hj : fr + j ≤ M.length) (hML : M.length ≤ 30) (ws1 : va_W) (H : Heap) (locs : List Loc) (ls : Array Slot), x_two k ws ws1 → RowAt cI ad ws1 k (addB (gD g) M ((M.drop fr).take j)) → GraphAt cI ad ws1 kg g → M.length - j < n → va_P D xCl ws1 H → va_D A ws1 → va_S A s.heap H locs → lv_has ls 7 [(0, .ref (ad kg)), (1, .ref (ad k)), (2, .int (nI R)), (3, .int (nI fr)), (4, .int (nI u)), (5, .int (nI M.length)), (6, .int (nI (fr + j)))] → (∀ (ws2 : va_W) (H2 : Heap) (locs2 : List Loc) (ls2 : Array Slot), x_two k ws ws2 → RowAt cI ad ws2 k (addB (gD g) M (M.drop fr)) → GraphAt cI ad ws2 kg g → va_P D xCl ws2 H2 → va_D A ws2 → va_S A s.heap H2 locs2 → lv_has ls2 7 [(0, .ref (ad kg)), (1, .ref (ad k)), (2, .int (nI R)), (4, .int (nI u)), (5, .int (nI M.length))] → W p l e (xR 3) s m args below meth c H2 locs2 0 0 (MQ below (va_Qv (fun ws1 => x_two k ws ws1 ∧ RowAt cI ad ws1 k (growR (gD g) R L 0)) (x_B D xCl tys A) A) args s 0 0 A) (F0 m 52 ls2 [])) → W p l e (xR 3) s m args below meth c H locs 0 0 (MQ below (va_Qv (fun ws1 => x_two k ws ws1 ∧ RowAt cI ad ws1 k (growR (gD g) R L 0)) (x_B D xCl tys A) A) args s 0 0 A) (F0 m 28 ls []) := by
    intro n
    induction n with
    | zero => intro M fr u j hj hML ws1 H locs ls hT hrow hG1 hme; exact absurd hme (Nat.not_lt_zero _)
    | succ n ih =>
      intro M fr u j hj hML ws1 H locs ls hT hrow hG1 hme hP hD hS hl K
      obtain ⟨fsR, hRo⟩ := hrow.obj
      obtain ⟨f1, hR1⟩ := id hrow
      obtain ⟨FF, ⟨hg0, -⟩, -⟩ := id hG1
      have hle := hG1.ok.1
      have hle9 := hrow.le
      refine lv_iload hx hb dG_growByNeeds_28 (lv_at hl 6 rfl) ?_
      refine lv_iload hx hb dG_growByNeeds_30 (lv_at hl 5 rfl) ?_
      refine lv_icmp_ge (tgt := 52) hx hb dG_growByNeeds_32 (by decide) (fun c32 => ?_) (fun c32 => ?_)
      · exact K  ws1 _ _ _ hT (by have e : (M.drop fr).take j = M.drop fr := List.take_of_length_le (by rw [List.length_drop]; rw [nI_leI (by omega) (by omega)] at c32; omega); rw [e] at hrow; exact hrow) hG1 hP hD hS (lv_sub hl [0, 1, 2, 4, 5] rfl)
      · have hj2 : fr + j < M.length := by rw [nI_leI (by omega) (by omega)] at c32; omega
        obtain ⟨hq1, hq2⟩ := (pfx_addB (gD g) ((M.drop fr).take j) M).get hj2
        have hq3 : M[fr + j] < 30 := by rw [← hq2]; exact hrow.lt _ (List.getElem_mem _)
        refine lv_aload_n hx hb dG_growByNeeds_35 rfl (lv_at hl 0 rfl) ?_
        refine lv_aload_n hx hb dG_growByNeeds_36 rfl (lv_at hl 1 rfl) ?_
        refine lv_iload hx hb dG_growByNeeds_37 (lv_at hl 6 rfl) ?_
        refine x_calli (x_runV (n := 1) (As := [.int (nI (fr + j))]) (rest := [.ref (ad kg)]) ⟨hx, hb, hml, hown, hts⟩ (cR_at l D tys A ws1 cI hI ad k _ ((nI (fr + j))) hrow) tw_478 tw_447 tw_448 tw_7 tw_449 (by decide +kernel) rfl rfl ⟨by decide, by decide⟩ ⟨Nat.zero_le _, Nat.zero_le _⟩ (va_recv hK hP (ci := 2) (q0 := k) rfl hRo) hK hP hD hS hA hN rfl hl.1 rfl (lv_room (Nat.le_of_ble_eq_true rfl)) dG_growByNeeds_39) hS (fun rat ws_1 H locs hat hP hD hS => ?_)
        obtain ⟨hat, rfl⟩ := hat
        refine lv_aload_n hx hb dG_growByNeeds_42 rfl (lv_at hl 1 rfl) ?_
        obtain rfl : rat = nI M[fr + j] := by rw [hat, atI_nI hq1 (by omega), hq2]
        refine x_callv (x_runV (n := 2) (As := [.int (nI M[fr + j]), .ref (ad k)]) (rest := []) ⟨hx, hb, hml, hown, hts⟩ (cG_addNeedsOf l D tys A ws1 cI hI ad kg k hd g _ M[fr + j] hq3 hG1 hrow) tw_513 tw_515 ts_G_addNeedsOf tw_2 tw_516 (by decide +kernel) rfl rfl ⟨by decide, by decide⟩ ⟨Nat.zero_le _, Nat.zero_le _⟩ (va_recv hK hP (ci := 0) (q0 := kg) rfl hg0) hK hP hD hS hA hN rfl hl.1 rfl (lv_room (Nat.le_of_ble_eq_true rfl)) dG_growByNeeds_43) hS (fun ws_2 H locs han hP hD hS => ?_)
        have hT2 := hT.tr han.1
        have hr2 := han.2
        have hG2 := hG1.keep han.1.fr (by omega)
        refine lv_iinc (v := (nI ((fr + j) + 1))) (lv' := [(6, .int (nI ((fr + j) + 1))), (0, .ref (ad kg)), (1, .ref (ad k)), (2, .int (nI R)), (3, .int (nI fr)), (4, .int (nI u)), (5, .int (nI M.length))]) hx hb dG_growByNeeds_46 hl (k := 6) rfl (nI_1 _) (by decide) rfl (fun ls hl => ?_)
        refine lv_goto (tgt := 28) hx hb dG_growByNeeds_49 (by decide) ?_
        exact ih M fr u (j + 1) (by omega) hML ws_2 _ _ _ hT2 (by rw [addB_s (gD g) M (M.drop fr) (by rw [List.length_drop]; omega), List.getElem_drop]; exact hr2) hG2 (by omega) hP hD hS (lv_sub hl [1, 2, 3, 4, 5, 6, 0] rfl) K
  have loop_5 : ∀ (n : Nat) (M : List Nat) (fr u : Nat) (hu : u ≤ R) (hfr : fr ≤ M.length) (ws1 : va_W) (H : Heap) (locs : List Loc) (ls : Array Slot), growR (gD g) (R - u) M fr = growR (gD g) R L 0 → x_two k ws ws1 → RowAt cI ad ws1 k M → GraphAt cI ad ws1 kg g → R - u < n → va_P D xCl ws1 H → va_D A ws1 → va_S A s.heap H locs → lv_has ls 7 [(0, .ref (ad kg)), (1, .ref (ad k)), (2, .int (nI R)), (3, .int (nI fr)), (4, .int (nI u))] → W p l e (xR 3) s m args below meth c H locs 0 0 (MQ below (va_Qv (fun ws1 => x_two k ws ws1 ∧ RowAt cI ad ws1 k (growR (gD g) R L 0)) (x_B D xCl tys A) A) args s 0 0 A) (F0 m 5 ls []) := by
    intro n
    induction n with
    | zero => intro M fr u hu hfr ws1 H locs ls hgr hT hrow hG1 hme; exact absurd hme (Nat.not_lt_zero _)
    | succ n ih =>
      intro M fr u hu hfr ws1 H locs ls hgr hT hrow hG1 hme hP hD hS hl
      obtain ⟨fsR, hRo⟩ := hrow.obj
      obtain ⟨f1, hR1⟩ := id hrow
      obtain ⟨FF, ⟨hg0, -⟩, -⟩ := id hG1
      have hle := hG1.ok.1
      have hle9 := hrow.le
      refine lv_iload hx hb dG_growByNeeds_5 (lv_at hl 4 rfl) ?_
      refine lv_iload_n hx hb dG_growByNeeds_7 rfl (lv_at hl 2 rfl) ?_
      refine lv_icmp_ge (tgt := 61) hx hb dG_growByNeeds_8 (by decide) (fun c8 => ?_) (fun c8 => ?_)
      · exact x_vret hx hb hr hlk hK hP hD hS dG_growByNeeds_61 ⟨hT, by have e : R - u = 0 := (by rw [nI_leI (by omega) (by omega)] at c8; omega); rw [e] at hgr; rw [← hgr]; exact hrow⟩
      · have hu2 : u < R := by rw [nI_leI (by omega) (by omega)] at c8; omega
        refine lv_iload_n hx hb dG_growByNeeds_11 rfl (lv_at hl 3 rfl) ?_
        refine lv_aload_n hx hb dG_growByNeeds_12 rfl (lv_at hl 1 rfl) ?_
        refine x_calli (x_runV (n := 0) (As := []) (rest := [.int (nI fr)]) ⟨hx, hb, hml, hown, hts⟩ (cR_size l D tys A ws1 cI hI ad k _ hrow) tw_477 tw_443 tw_444 tw_7 tw_445 (by decide +kernel) rfl rfl ⟨by decide, by decide⟩ ⟨Nat.zero_le _, Nat.zero_le _⟩ (va_recv hK hP (ci := 2) (q0 := k) rfl hRo) hK hP hD hS hA hN rfl hl.1 rfl (lv_room (Nat.le_of_ble_eq_true rfl)) dG_growByNeeds_13) hS (fun r_4 ws_3 H locs hz hP hD hS => ?_)
        obtain ⟨hz, rfl⟩ := hz
        refine lv_icmp_ge (tgt := 61) hx hb dG_growByNeeds_16 (by decide) (fun c16 => ?_) (fun c16 => ?_)
        · exact x_vret hx hb hr hlk hK hP hD hS dG_growByNeeds_61 ⟨hT, by rw [← hgr, growR_end _ _ (by rw [hz, nI_leI (by omega) (by omega)] at c16; exact c16)]; exact hrow⟩
        · have hfr2 : fr < M.length := by rw [hz, nI_leI (by omega) (by omega)] at c16; omega
          refine lv_aload_n hx hb dG_growByNeeds_19 rfl (lv_at hl 1 rfl) ?_
          refine x_calli (x_runV (n := 0) (As := []) (rest := []) ⟨hx, hb, hml, hown, hts⟩ (cR_size l D tys A ws1 cI hI ad k _ hrow) tw_477 tw_443 tw_444 tw_7 tw_445 (by decide +kernel) rfl rfl ⟨by decide, by decide⟩ ⟨Nat.zero_le _, Nat.zero_le _⟩ (va_recv hK hP (ci := 2) (q0 := k) rfl hRo) hK hP hD hS hA hN rfl hl.1 rfl (lv_room (Nat.le_of_ble_eq_true rfl)) dG_growByNeeds_20) hS (fun r_6 ws_5 H locs hz hP hD hS => ?_)
          obtain ⟨hz, rfl⟩ := hz
          obtain rfl := hz
          refine lv_istore (lv' := [(5, .int (nI M.length)), (0, .ref (ad kg)), (1, .ref (ad k)), (2, .int (nI R)), (3, .int (nI fr)), (4, .int (nI u))]) hx hb dG_growByNeeds_23 hl (by decide) rfl (fun ls hl => ?_)
          refine lv_iload_n hx hb dG_growByNeeds_25 rfl (lv_at hl 4 rfl) ?_
          refine lv_istore (lv' := [(6, .int (nI fr)), (5, .int (nI M.length)), (0, .ref (ad kg)), (1, .ref (ad k)), (2, .int (nI R)), (3, .int (nI fr)), (4, .int (nI u))]) hx hb dG_growByNeeds_26 hl (by decide) rfl (fun ls hl => ?_)
          refine loop_28 _ M fr u 0 (by omega) hle9 ws1 _ _ _ hT (by rw [List.take_zero]; exact hrow) hG1 (Nat.lt_succ_self _) hP hD hS (lv_sub hl [2, 3, 4, 5, 6, 1, 0] rfl) (fun ws_7 H locs ls hT hrow hG1 hP hD hS hl => ?_)
          refine lv_iload hx hb dG_growByNeeds_52 (lv_at hl 4 rfl) ?_
          refine lv_istore_n (lv' := [(3, .int (nI M.length)), (0, .ref (ad kg)), (1, .ref (ad k)), (2, .int (nI R)), (4, .int (nI u)), (5, .int (nI M.length))]) hx hb dG_growByNeeds_54 rfl hl (by decide) rfl (fun ls hl => ?_)
          refine lv_iinc (v := (nI (u + 1))) (lv' := [(4, .int (nI (u + 1))), (3, .int (nI M.length)), (0, .ref (ad kg)), (1, .ref (ad k)), (2, .int (nI R)), (5, .int (nI M.length))]) hx hb dG_growByNeeds_55 hl (k := 4) rfl (nI_1 _) (by decide) rfl (fun ls hl => ?_)
          refine lv_goto (tgt := 5) hx hb dG_growByNeeds_58 (by decide) ?_
          exact ih (addB (gD g) M (M.drop fr)) M.length (u + 1) (by omega) (pfx_addB _ _ _).len ws_7 _ _ _ (by rw [← hgr, show R - u = (R - (u + 1)) + 1 by omega, growR_s _ _ hfr2]) hT hrow hG1 (by omega) hP hD hS (lv_sub hl [2, 3, 4, 1, 0] rfl)
  refine lv_iconst (v := 0) hx hb dG_growByNeeds_0 (by decide) ?_
  refine lv_istore_n (lv' := [(3, .int 0), (0, .ref (ad kg)), (1, .ref (ad k)), (2, .int (nI R))]) hx hb dG_growByNeeds_1 rfl hl (by decide) rfl (fun ls hl => ?_)
  refine lv_iconst (v := 0) hx hb dG_growByNeeds_2 (by decide) ?_
  refine lv_istore (lv' := [(4, .int 0), (3, .int 0), (0, .ref (ad kg)), (1, .ref (ad k)), (2, .int (nI R))]) hx hb dG_growByNeeds_3 hl (by decide) rfl (fun ls hl => ?_)
  exact loop_5 _ L 0 0 (Nat.zero_le _) (Nat.zero_le _) ws _ _ _ rfl x_two.rf h hG (Nat.lt_succ_self _) hP hD hS (lv_sub hl [2, 3, 4, 1, 0] rfl)

set_option maxHeartbeats 4000000 in
set_option maxRecDepth 100000 in
/-- Graph.growByUsers(list, rounds) -/
theorem cG_growByUsers (l : Launch) (D : va_G) (tys : List (ClassId × FieldType)) (A : Nat → Prop) (ws : va_W) (cI : ClassId) (hI : tys[0]? = some (cI, .int)) (ad : Nat → Nat) (kg k : Nat) (hd : kg + 9 ≤ k) (g : Gr) (L : List Nat) (R : Nat) (hRR : R < 1000) (hG : GraphAt cI ad ws kg g) (h : RowAt cI ad ws k L) : x_Mv l yG_growByUsers wG_growByUsers (xR 3) D xCl tys A [.ref (ad kg), .ref (ad k), .int (nI R)] ws (fun ws1 => x_two k ws ws1 ∧ RowAt cI ad ws1 k (growR (gU g) R L 0)) := by
  refine x_enter (by decide) rfl (Nat.le_of_ble_eq_true rfl) (fun p e s m args below meth c ls hx hb hr hlk hml hown hnm hts hK hP hD hS hA hN hl => ?_)
  have hl : lv_has ls 7 [(0, .ref (ad kg)), (1, .ref (ad k)), (2, .int (nI R))] := hl
  have loop_28 : ∀ (n : Nat) (M : List Nat) (fr u j : Nat) (hj : fr + j ≤ M.length) (hML : M.length ≤ 30) (ws1 : va_W) (H : Heap) (locs : List Loc) (ls : Array Slot), x_two k ws ws1 → RowAt cI ad ws1 k (addB (gU g) M ((M.drop fr).take j)) → GraphAt cI ad ws1 kg g → M.length - j < n → va_P D xCl ws1 H → va_D A ws1 → va_S A s.heap H locs → lv_has ls 7 [(0, .ref (ad kg)), (1, .ref (ad k)), (2, .int (nI R)), (3, .int (nI fr)), (4, .int (nI u)), (5, .int (nI M.length)), (6, .int (nI (fr + j)))] → (∀ (ws2 : va_W) (H2 : Heap) (locs2 : List Loc) (ls2 : Array Slot), x_two k ws ws2 → RowAt cI ad ws2 k (addB (gU g) M (M.drop fr)) → GraphAt cI ad ws2 kg g → va_P D xCl ws2 H2 → va_D A ws2 → va_S A s.heap H2 locs2 → lv_has ls2 7 [(0, .ref (ad kg)), (1, .ref (ad k)), (2, .int (nI R)), (4, .int (nI u)), (5, .int (nI M.length))] → W p l e (xR 3) s m args below meth c H2 locs2 0 0 (MQ below (va_Qv (fun ws1 => x_two k ws ws1 ∧ RowAt cI ad ws1 k (growR (gU g) R L 0)) (x_B D xCl tys A) A) args s 0 0 A) (F0 m 55 ls2 [])) → W p l e (xR 3) s m args below meth c H locs 0 0 (MQ below (va_Qv (fun ws1 => x_two k ws ws1 ∧ RowAt cI ad ws1 k (growR (gU g) R L 0)) (x_B D xCl tys A) A) args s 0 0 A) (F0 m 28 ls []) := by
    intro n
    induction n with
    | zero => intro M fr u j hj hML ws1 H locs ls hT hrow hG1 hme; exact absurd hme (Nat.not_lt_zero _)
    | succ n ih =>
      intro M fr u j hj hML ws1 H locs ls hT hrow hG1 hme hP hD hS hl K
      obtain ⟨fsR, hRo⟩ := hrow.obj
      obtain ⟨f1, hR1⟩ := id hrow
      obtain ⟨FF, ⟨hg0, -⟩, -⟩ := id hG1
      have hle := hG1.ok.1
      have hle9 := hrow.le
      refine lv_iload hx hb dG_growByUsers_28 (lv_at hl 6 rfl) ?_
      refine lv_iload hx hb dG_growByUsers_30 (lv_at hl 5 rfl) ?_
      refine lv_icmp_ge (tgt := 55) hx hb dG_growByUsers_32 (by decide) (fun c32 => ?_) (fun c32 => ?_)
      · exact K  ws1 _ _ _ hT (by have e : (M.drop fr).take j = M.drop fr := List.take_of_length_le (by rw [List.length_drop]; rw [nI_leI (by omega) (by omega)] at c32; omega); rw [e] at hrow; exact hrow) hG1 hP hD hS (lv_sub hl [0, 1, 2, 4, 5] rfl)
      · have hj2 : fr + j < M.length := by rw [nI_leI (by omega) (by omega)] at c32; omega
        obtain ⟨hq1, hq2⟩ := (pfx_addB (gU g) ((M.drop fr).take j) M).get hj2
        have hq3 : M[fr + j] < 30 := by rw [← hq2]; exact hrow.lt _ (List.getElem_mem _)
        refine lv_aload_n hx hb dG_growByUsers_35 rfl (lv_at hl 1 rfl) ?_
        refine lv_aload_n hx hb dG_growByUsers_36 rfl (lv_at hl 0 rfl) ?_
        refine lv_aload_n hx hb dG_growByUsers_37 rfl (lv_at hl 1 rfl) ?_
        refine lv_iload hx hb dG_growByUsers_38 (lv_at hl 6 rfl) ?_
        refine x_calli (x_runV (n := 1) (As := [.int (nI (fr + j))]) (rest := [.ref (ad kg), .ref (ad k)]) ⟨hx, hb, hml, hown, hts⟩ (cR_at l D tys A ws1 cI hI ad k _ ((nI (fr + j))) hrow) tw_478 tw_447 tw_448 tw_7 tw_449 (by decide +kernel) rfl rfl ⟨by decide, by decide⟩ ⟨Nat.zero_le _, Nat.zero_le _⟩ (va_recv hK hP (ci := 2) (q0 := k) rfl hRo) hK hP hD hS hA hN rfl hl.1 rfl (lv_room (Nat.le_of_ble_eq_true rfl)) dG_growByUsers_40) hS (fun rat ws_1 H locs hat hP hD hS => ?_)
        obtain ⟨hat, rfl⟩ := hat
        obtain rfl : rat = nI M[fr + j] := by rw [hat, atI_nI hq1 (by omega), hq2]
        refine x_calli (x_runV (n := 1) (As := [.int (nI M[fr + j])]) (rest := [.ref (ad k)]) ⟨hx, hb, hml, hown, hts⟩ (cG_usersOf l D tys A ws1 cI hI ad kg g (nI M[fr + j]) hG1) tw_521 tw_523 ts_G_usersOf tw_2 tw_524 (by decide +kernel) rfl rfl ⟨by decide, by decide⟩ ⟨Nat.zero_le _, Nat.zero_le _⟩ (va_recv hK hP (ci := 0) (q0 := kg) rfl hg0) hK hP hD hS hA hN rfl hl.1 rfl (lv_room (Nat.le_of_ble_eq_true rfl)) dG_growByUsers_43) hS (fun rus ws_2 H locs hus hP hD hS => ?_)
        obtain ⟨hus, rfl⟩ := hus
        refine x_callv (x_runV (n := 1) (As := [.int rus]) (rest := []) ⟨hx, hb, hml, hown, hts⟩ (cR_addByNumbers l D tys A ws1 cI hI ad k _ rus hrow) tw_525 tw_526 tw_527 tw_7 tw_528 (by decide +kernel) rfl rfl ⟨by decide, by decide⟩ ⟨Nat.zero_le _, Nat.zero_le _⟩ (va_recv hK hP (ci := 2) (q0 := k) rfl hRo) hK hP hD hS hA hN rfl hl.1 rfl (lv_room (Nat.le_of_ble_eq_true rfl)) dG_growByUsers_46) hS (fun ws_3 H locs han hP hD hS => ?_)
        have hT2 := hT.tr han.1
        have hr2 := han.2
        rw [addM_U hq3 hus] at hr2
        have hG2 := hG1.keep han.1.fr (by omega)
        refine lv_iinc (v := (nI ((fr + j) + 1))) (lv' := [(6, .int (nI ((fr + j) + 1))), (0, .ref (ad kg)), (1, .ref (ad k)), (2, .int (nI R)), (3, .int (nI fr)), (4, .int (nI u)), (5, .int (nI M.length))]) hx hb dG_growByUsers_49 hl (k := 6) rfl (nI_1 _) (by decide) rfl (fun ls hl => ?_)
        refine lv_goto (tgt := 28) hx hb dG_growByUsers_52 (by decide) ?_
        exact ih M fr u (j + 1) (by omega) hML ws_3 _ _ _ hT2 (by rw [addB_s (gU g) M (M.drop fr) (by rw [List.length_drop]; omega), List.getElem_drop]; exact hr2) hG2 (by omega) hP hD hS (lv_sub hl [1, 2, 3, 4, 5, 6, 0] rfl) K
  have loop_5 : ∀ (n : Nat) (M : List Nat) (fr u : Nat) (hu : u ≤ R) (hfr : fr ≤ M.length) (ws1 : va_W) (H : Heap) (locs : List Loc) (ls : Array Slot), growR (gU g) (R - u) M fr = growR (gU g) R L 0 → x_two k ws ws1 → RowAt cI ad ws1 k M → GraphAt cI ad ws1 kg g → R - u < n → va_P D xCl ws1 H → va_D A ws1 → va_S A s.heap H locs → lv_has ls 7 [(0, .ref (ad kg)), (1, .ref (ad k)), (2, .int (nI R)), (3, .int (nI fr)), (4, .int (nI u))] → W p l e (xR 3) s m args below meth c H locs 0 0 (MQ below (va_Qv (fun ws1 => x_two k ws ws1 ∧ RowAt cI ad ws1 k (growR (gU g) R L 0)) (x_B D xCl tys A) A) args s 0 0 A) (F0 m 5 ls []) := by
    intro n
    induction n with
    | zero => intro M fr u hu hfr ws1 H locs ls hgr hT hrow hG1 hme; exact absurd hme (Nat.not_lt_zero _)
    | succ n ih =>
      intro M fr u hu hfr ws1 H locs ls hgr hT hrow hG1 hme hP hD hS hl
      obtain ⟨fsR, hRo⟩ := hrow.obj
      obtain ⟨f1, hR1⟩ := id hrow
      obtain ⟨FF, ⟨hg0, -⟩, -⟩ := id hG1
      have hle := hG1.ok.1
      have hle9 := hrow.le
      refine lv_iload hx hb dG_growByUsers_5 (lv_at hl 4 rfl) ?_
      refine lv_iload_n hx hb dG_growByUsers_7 rfl (lv_at hl 2 rfl) ?_
      refine lv_icmp_ge (tgt := 64) hx hb dG_growByUsers_8 (by decide) (fun c8 => ?_) (fun c8 => ?_)
      · exact x_vret hx hb hr hlk hK hP hD hS dG_growByUsers_64 ⟨hT, by have e : R - u = 0 := (by rw [nI_leI (by omega) (by omega)] at c8; omega); rw [e] at hgr; rw [← hgr]; exact hrow⟩
      · have hu2 : u < R := by rw [nI_leI (by omega) (by omega)] at c8; omega
        refine lv_iload_n hx hb dG_growByUsers_11 rfl (lv_at hl 3 rfl) ?_
        refine lv_aload_n hx hb dG_growByUsers_12 rfl (lv_at hl 1 rfl) ?_
        refine x_calli (x_runV (n := 0) (As := []) (rest := [.int (nI fr)]) ⟨hx, hb, hml, hown, hts⟩ (cR_size l D tys A ws1 cI hI ad k _ hrow) tw_477 tw_443 tw_444 tw_7 tw_445 (by decide +kernel) rfl rfl ⟨by decide, by decide⟩ ⟨Nat.zero_le _, Nat.zero_le _⟩ (va_recv hK hP (ci := 2) (q0 := k) rfl hRo) hK hP hD hS hA hN rfl hl.1 rfl (lv_room (Nat.le_of_ble_eq_true rfl)) dG_growByUsers_13) hS (fun r_5 ws_4 H locs hz hP hD hS => ?_)
        obtain ⟨hz, rfl⟩ := hz
        refine lv_icmp_ge (tgt := 64) hx hb dG_growByUsers_16 (by decide) (fun c16 => ?_) (fun c16 => ?_)
        · exact x_vret hx hb hr hlk hK hP hD hS dG_growByUsers_64 ⟨hT, by rw [← hgr, growR_end _ _ (by rw [hz, nI_leI (by omega) (by omega)] at c16; exact c16)]; exact hrow⟩
        · have hfr2 : fr < M.length := by rw [hz, nI_leI (by omega) (by omega)] at c16; omega
          refine lv_aload_n hx hb dG_growByUsers_19 rfl (lv_at hl 1 rfl) ?_
          refine x_calli (x_runV (n := 0) (As := []) (rest := []) ⟨hx, hb, hml, hown, hts⟩ (cR_size l D tys A ws1 cI hI ad k _ hrow) tw_477 tw_443 tw_444 tw_7 tw_445 (by decide +kernel) rfl rfl ⟨by decide, by decide⟩ ⟨Nat.zero_le _, Nat.zero_le _⟩ (va_recv hK hP (ci := 2) (q0 := k) rfl hRo) hK hP hD hS hA hN rfl hl.1 rfl (lv_room (Nat.le_of_ble_eq_true rfl)) dG_growByUsers_20) hS (fun r_7 ws_6 H locs hz hP hD hS => ?_)
          obtain ⟨hz, rfl⟩ := hz
          obtain rfl := hz
          refine lv_istore (lv' := [(5, .int (nI M.length)), (0, .ref (ad kg)), (1, .ref (ad k)), (2, .int (nI R)), (3, .int (nI fr)), (4, .int (nI u))]) hx hb dG_growByUsers_23 hl (by decide) rfl (fun ls hl => ?_)
          refine lv_iload_n hx hb dG_growByUsers_25 rfl (lv_at hl 4 rfl) ?_
          refine lv_istore (lv' := [(6, .int (nI fr)), (5, .int (nI M.length)), (0, .ref (ad kg)), (1, .ref (ad k)), (2, .int (nI R)), (3, .int (nI fr)), (4, .int (nI u))]) hx hb dG_growByUsers_26 hl (by decide) rfl (fun ls hl => ?_)
          refine loop_28 _ M fr u 0 (by omega) hle9 ws1 _ _ _ hT (by rw [List.take_zero]; exact hrow) hG1 (Nat.lt_succ_self _) hP hD hS (lv_sub hl [2, 3, 4, 5, 6, 1, 0] rfl) (fun ws_8 H locs ls hT hrow hG1 hP hD hS hl => ?_)
          refine lv_iload hx hb dG_growByUsers_55 (lv_at hl 4 rfl) ?_
          refine lv_istore_n (lv' := [(3, .int (nI M.length)), (0, .ref (ad kg)), (1, .ref (ad k)), (2, .int (nI R)), (4, .int (nI u)), (5, .int (nI M.length))]) hx hb dG_growByUsers_57 rfl hl (by decide) rfl (fun ls hl => ?_)
          refine lv_iinc (v := (nI (u + 1))) (lv' := [(4, .int (nI (u + 1))), (3, .int (nI M.length)), (0, .ref (ad kg)), (1, .ref (ad k)), (2, .int (nI R)), (5, .int (nI M.length))]) hx hb dG_growByUsers_58 hl (k := 4) rfl (nI_1 _) (by decide) rfl (fun ls hl => ?_)
          refine lv_goto (tgt := 5) hx hb dG_growByUsers_61 (by decide) ?_
          exact ih (addB (gU g) M (M.drop fr)) M.length (u + 1) (by omega) (pfx_addB _ _ _).len ws_8 _ _ _ (by rw [← hgr, show R - u = (R - (u + 1)) + 1 by omega, growR_s _ _ hfr2]) hT hrow hG1 (by omega) hP hD hS (lv_sub hl [2, 3, 4, 1, 0] rfl)
  refine lv_iconst (v := 0) hx hb dG_growByUsers_0 (by decide) ?_
  refine lv_istore_n (lv' := [(3, .int 0), (0, .ref (ad kg)), (1, .ref (ad k)), (2, .int (nI R))]) hx hb dG_growByUsers_1 rfl hl (by decide) rfl (fun ls hl => ?_)
  refine lv_iconst (v := 0) hx hb dG_growByUsers_2 (by decide) ?_
  refine lv_istore (lv' := [(4, .int 0), (3, .int 0), (0, .ref (ad kg)), (1, .ref (ad k)), (2, .int (nI R))]) hx hb dG_growByUsers_3 hl (by decide) rfl (fun ls hl => ?_)
  exact loop_5 _ L 0 0 (Nat.zero_le _) (Nat.zero_le _) ws _ _ _ rfl x_two.rf h hG (Nat.lt_succ_self _) hP hD hS (lv_sub hl [2, 3, 4, 1, 0] rfl)
end
section
-- ===== sets that grow, step by step =====
/-- in the set, or come by one of it, within s steps -/
def bsB (nb : Nat → List Nat) (n : Nat) (S : Nat → Bool) : Nat → Nat → Bool
  | 0, u => S u
  | s + 1, u => bsB nb n S s u || (List.range n).any (fun v => bsB nb n S s v && decide (u ∈ nb v))
theorem any_succ (n : Nat) (p : Nat → Bool) : (List.range (n + 1)).any p = ((List.range n).any p || p n) := by
  rw [List.range_succ, List.any_append]; simp
theorem any_congr {n : Nat} {p q : Nat → Bool} (h : ∀ v, v < n → p v = q v) : (List.range n).any p = (List.range n).any q := by
  induction n with
  | zero => rfl
  | succ n ih => rw [any_succ, any_succ, ih (fun v hv => h v (by omega)), h n (by omega)]

set_option maxHeartbeats 4000000 in
set_option maxRecDepth 100000 in
/-- Graph.joined(masks, wanted) -/
theorem cG_joined (l : Launch) (D : va_G) (tys : List (ClassId × FieldType)) (A : Nat → Prop) (ws : va_W) (cI : ClassId) (hI : tys[0]? = some (cI, .int)) (ad : Nat → Nat) (kg ka : Nat) (g : Gr) (w : Int32) (fA : Nat → Int32) (hG : GraphAt cI ad ws kg g) (hA0 : ws[ka]? = some (ad ka, .inl (cI, 30, .inl fA))) : x_Mi l yG_joined wG_joined (xR 1) D xCl tys A [.ref (ad kg), .ref (ad ka), .int w] ws (fun r ws1 => (∀ x, x < 32 → bt r x = (List.range g.length).any (fun v => bt w v && bt (fA v) x)) ∧ ws = ws1) := by
  obtain ⟨FF, ⟨hg0, -⟩, -⟩ := id hG
  have hle := hG.ok.1
  refine x_enter (by decide) rfl (Nat.le_of_ble_eq_true rfl) (fun p e s m args below meth c ls hx hb hr hlk hml hown hnm hts hK hP hD hS hA hN hl => ?_)
  have hl : lv_has ls 5 [(0, .ref (ad kg)), (1, .ref (ad ka)), (2, .int w)] := hl
  have loop_5 : ∀ (n : Nat) (i : Nat) (a0 : Int32) (hi : i ≤ g.length) (ws1 : va_W) (H : Heap) (locs : List Loc) (ls : Array Slot), (∀ x, x < 32 → bt a0 x = (List.range i).any (fun v => bt w v && bt (fA v) x)) → ws = ws1 → g.length - i < n → va_P D xCl ws1 H → va_D A ws1 → va_S A s.heap H locs → lv_has ls 5 [(0, .ref (ad kg)), (1, .ref (ad ka)), (2, .int w), (3, .int a0), (4, .int (nI i))] → W p l e (xR 1) s m args below meth c H locs 0 0 (MQ below (va_Qi (fun r ws1 => (∀ x, x < 32 → bt r x = (List.range g.length).any (fun v => bt w v && bt (fA v) x)) ∧ ws = ws1) (x_B D xCl tys A) A) args s 0 0 A) (F0 m 5 ls []) := by
    intro n
    induction n with
    | zero => intro i a0 hi ws1 H locs ls ha0 hws hme; exact absurd hme (Nat.not_lt_zero _)
    | succ n ih =>
      intro i a0 hi ws1 H locs ls ha0 hws hme hP hD hS hl
      subst hws
      refine lv_iload hx hb dG_joined_5 (lv_at hl 4 rfl) ?_
      refine lv_aload_n hx hb dG_joined_7 rfl (lv_at hl 0 rfl) ?_
      refine va_get (D := D) (cl := xCl) (ci := 0) (v := .int (nI g.length)) (C := rnG) (T := tbG) (N := 9) hx hb hts inG hown hK hP kg hg0 rfl 8 (by decide) (hts _ tw_37) (fun _ h9 => h9) rfl dG_joined_8 ?_
      refine lv_icmp_ge (tgt := 43) hx hb dG_joined_11 (by decide) (fun c11 => ?_) (fun c11 => ?_)
      · refine lv_iload_n hx hb dG_joined_43 rfl (lv_at hl 3 rfl) ?_
        exact x_iret hx hb hr hlk hK hP hD hS dG_joined_44 ⟨fun x hx => by rw [ha0 x hx]; have e : i = g.length := (by rw [nI_leI (by omega) (by omega)] at c11; omega); rw [e], rfl⟩
      · have hi2 : i < g.length := by rw [nI_leI (by omega) (by omega)] at c11; omega
        refine lv_iload hx hb dG_joined_14 (lv_at hl 4 rfl) ?_
        refine lv_aload_n hx hb dG_joined_16 rfl (lv_at hl 1 rfl) ?_
        refine va_alen (v := 30) hx hb hK hP ka 0 hA0 hI (by rfl) dG_joined_17 ?_
        refine lv_icmp_ge (tgt := 43) hx hb dG_joined_18 (by decide) (fun c18 => ?_) (fun c18 => ?_)
        · exact absurd ((nI_leI (a := 30) (by omega) (by omega)).mp c18) (by omega)
        · refine lv_iload_n hx hb dG_joined_21 rfl (lv_at hl 2 rfl) ?_
          refine lv_iload hx hb dG_joined_22 (lv_at hl 4 rfl) ?_
          refine x_calli (x_runSN (n := 2) (As := [.int w, .int (nI i)]) (rest := []) ⟨hx, hb, hml, hown, hts⟩ (cQ_isIn l D tys A ws w ((nI i))) (xN_189 hN) tw_190 tw_1 tw_191 (by decide +kernel) rfl rfl ⟨by decide, by decide⟩ ⟨Nat.zero_le _, Nat.zero_le _⟩ hK hP hD hS hA hN rfl hl.1 rfl (lv_room (Nat.le_of_ble_eq_true rfl)) dG_joined_24) hS (fun rhb1 ws_1 H locs hb1 hP hD hS => ?_)
          obtain ⟨hb1, rfl⟩ := hb1
          refine lv_if_eq (tgt := 37) hx hb dG_joined_27 (by decide) (fun c27 => ?_) (fun c27 => ?_)
          · refine lv_iinc (v := (nI (i + 1))) (lv' := [(4, .int (nI (i + 1))), (0, .ref (ad kg)), (1, .ref (ad ka)), (2, .int w), (3, .int a0)]) hx hb dG_joined_37 hl (k := 4) rfl (nI_1 _) (by decide) rfl (fun ls hl => ?_)
            refine lv_goto (tgt := 5) hx hb dG_joined_40 (by decide) ?_
            exact ih (i + 1) a0 (by omega) ws _ _ _ (fun x hx => by rw [hb1, isIn_nI w (by omega), b2i_0] at c27; rw [ha0 x hx, any_succ, c27]; simp) rfl (by omega) hP hD hS (lv_sub hl [1, 2, 3, 4, 0] rfl)
          · refine lv_iload_n hx hb dG_joined_30 rfl (lv_at hl 3 rfl) ?_
            refine lv_aload_n hx hb dG_joined_31 rfl (lv_at hl 1 rfl) ?_
            refine lv_iload hx hb dG_joined_32 (lv_at hl 4 rfl) ?_
            refine va_iald hx hb hK hP ka 0 hA0 hI (vp_in_nI (by omega) (by omega)) dG_joined_34 ?_
            refine lv_topi (fun v_2 ev_2 => ?_)
            refine lv_ior hx hb dG_joined_35 ?_
            refine lv_topi (fun v_3 ev_3 => ?_)
            refine lv_istore_n (lv' := [(3, .int v_3), (0, .ref (ad kg)), (1, .ref (ad ka)), (2, .int w), (4, .int (nI i))]) hx hb dG_joined_36 rfl hl (by decide) rfl (fun ls hl => ?_)
            refine lv_iinc (v := (nI (i + 1))) (lv' := [(4, .int (nI (i + 1))), (3, .int v_3), (0, .ref (ad kg)), (1, .ref (ad ka)), (2, .int w)]) hx hb dG_joined_37 hl (k := 4) rfl (nI_1 _) (by decide) rfl (fun ls hl => ?_)
            refine lv_goto (tgt := 5) hx hb dG_joined_40 (by decide) ?_
            exact ih (i + 1) v_3 (by omega) ws _ _ _ (fun x hx => by rw [hb1, isIn_nI w (by omega), b2i_n0] at c27; rw [ev_3, ev_2, nI_clamp (by omega), b_or, ha0 x hx, any_succ, c27]; simp) rfl (by omega) hP hD hS (lv_sub hl [2, 3, 4, 1, 0] rfl)
  refine lv_iconst (v := 0) hx hb dG_joined_0 (by decide) ?_
  refine lv_istore_n (lv' := [(3, .int 0), (0, .ref (ad kg)), (1, .ref (ad ka)), (2, .int w)]) hx hb dG_joined_1 rfl hl (by decide) rfl (fun ls hl => ?_)
  refine lv_iconst (v := 0) hx hb dG_joined_2 (by decide) ?_
  refine lv_istore (lv' := [(4, .int 0), (3, .int 0), (0, .ref (ad kg)), (1, .ref (ad ka)), (2, .int w)]) hx hb dG_joined_3 hl (by decide) rfl (fun ls hl => ?_)
  exact loop_5 _ 0 0 (Nat.zero_le _) ws _ _ _ (fun x _ => b_0 x) rfl (Nat.lt_succ_self _) hP hD hS (lv_sub hl [2, 3, 4, 1, 0] rfl)

/-- promise 9: how many steps from t to o -/
def farN (g : Gr) (t o : Nat) : Nat → Int32 → Int32
  | 0, r => r
  | n + 1, r => if bsB (gD g) g.length (fun u => decide (u = t)) (29 - n) o = true then nI (29 - n) else farN g t o n r
def farS (g : Gr) (t o : Int32) : Int32 := if (0 ≤ t.toInt ∧ t.toInt < g.length) ∧ (0 ≤ o.toInt ∧ o.toInt < g.length) then farN g t.toInt.toNat o.toInt.toNat 30 (-1) else -1
theorem farS_nI {g : Gr} (hg : g.length ≤ 30) {t o : Nat} (ht : t < g.length) (ho : o < g.length) : farS g (nI t) (nI o) = farN g t o 30 (-1) := by
  unfold farS
  rw [nI_toInt (by omega), nI_toInt (by omega), if_pos ⟨by omega, by omega⟩]; simp

set_option maxHeartbeats 4000000 in
set_option maxRecDepth 100000 in
/-- Graph.stepsBetween(t, other) -/
theorem cG_stepsBetween (l : Launch) (D : va_G) (tys : List (ClassId × FieldType)) (A : Nat → Prop) (ws : va_W) (cI : ClassId) (hI : tys[0]? = some (cI, .int)) (ad : Nat → Nat) (kg : Nat) (g : Gr) (tt oo : Int32) (hG : GraphAt cI ad ws kg g) : x_Mi l yG_stepsBetween wG_stepsBetween (xR 2) D xCl tys A [.ref (ad kg), .int tt, .int oo] ws (fun r ws1 => r = farS g tt oo ∧ ws = ws1) := by
  obtain ⟨FF, ⟨hg0, hg1, hg2, hg3, hg4, hg5, hg6, hg7, hg8⟩, hRR⟩ := id hG
  obtain ⟨hokk, hrr1, hrr2, hrr3, hrr4, hrr5, hrr6, hrr7⟩ := id hRR
  have hle := hG.ok.1
  refine x_enter (by decide) rfl (Nat.le_of_ble_eq_true rfl) (fun p e s m args below meth c ls hx hb hr hlk hml hown hnm hts hK hP hD hS hA hN hl => ?_)
  have hl : lv_has ls 5 [(0, .ref (ad kg)), (1, .int tt), (2, .int oo)] := hl
  have loop_31 : ∀ (n : Nat) (ta ob i : Nat) (w0 : Int32) (hta : ta < g.length) (hob : ob < g.length) (hi : i ≤ 30) (ws1 : va_W) (H : Heap) (locs : List Loc) (ls : Array Slot), (∀ x, x < 32 → bt w0 x = bsB (gD g) g.length (fun u => decide (u = ta)) i x) → farS g tt oo = farN g ta ob (30 - i) (-1) → ws = ws1 → 30 - i < n → va_P D xCl ws1 H → va_D A ws1 → va_S A s.heap H locs → lv_has ls 5 [(0, .ref (ad kg)), (2, .int (nI ob)), (3, .int w0), (4, .int (nI i))] → W p l e (xR 2) s m args below meth c H locs 0 0 (MQ below (va_Qi (fun r ws1 => r = farS g tt oo ∧ ws = ws1) (x_B D xCl tys A) A) args s 0 0 A) (F0 m 31 ls []) := by
    intro n
    induction n with
    | zero => intro ta ob i w0 hta hob hi ws1 H locs ls hw0 hfar hws hme; exact absurd hme (Nat.not_lt_zero _)
    | succ n ih =>
      intro ta ob i w0 hta hob hi ws1 H locs ls hw0 hfar hws hme hP hD hS hl
      subst hws
      refine lv_iload hx hb dG_stepsBetween_31 (lv_at hl 3 rfl) ?_
      refine lv_bipush (v := 30) hx hb dG_stepsBetween_33 (by decide) ?_
      refine lv_icmp_ge (tgt := 67) hx hb dG_stepsBetween_35 (by decide) (fun c35 => ?_) (fun c35 => ?_)
      · refine lv_iconst (v := (-1)) hx hb dG_stepsBetween_67 (by decide) ?_
        exact x_iret hx hb hr hlk hK hP hD hS dG_stepsBetween_68 ⟨by rw [hfar]; have e : 30 - i = 0 := (by have c35 : nI 30 ≤ nI i := c35; rw [nI_leI (by omega) (by omega)] at c35; omega); rw [e]; rfl, rfl⟩
      · have hi2 : i < 30 := by have c35 : ¬ nI 30 ≤ nI i := c35; rw [nI_leI (by omega) (by omega)] at c35; omega
        refine lv_iload_n hx hb dG_stepsBetween_38 rfl (lv_at hl 2 rfl) ?_
        refine lv_iload_n hx hb dG_stepsBetween_39 rfl (lv_at hl 1 rfl) ?_
        refine x_calli (x_runSN (n := 2) (As := [.int w0, .int (nI ob)]) (rest := []) ⟨hx, hb, hml, hown, hts⟩ (cQ_isIn l D tys A ws w0 ((nI ob))) (xN_189 hN) tw_190 tw_1 tw_191 (by decide +kernel) rfl rfl ⟨by decide, by decide⟩ ⟨Nat.zero_le _, Nat.zero_le _⟩ hK hP hD hS hA hN rfl hl.1 rfl (lv_room (Nat.le_of_ble_eq_true rfl)) dG_stepsBetween_40) hS (fun rhb3 ws_1 H locs hb3 hP hD hS => ?_)
        obtain ⟨hb3, rfl⟩ := hb3
        refine lv_if_eq (tgt := 49) hx hb dG_stepsBetween_43 (by decide) (fun c43 => ?_) (fun c43 => ?_)
        · refine lv_iload_n hx hb dG_stepsBetween_49 rfl (lv_at hl 2 rfl) ?_
          refine lv_aload_n hx hb dG_stepsBetween_50 rfl (lv_at hl 0 rfl) ?_
          refine lv_aload_n hx hb dG_stepsBetween_51 rfl (lv_at hl 0 rfl) ?_
          refine va_get (D := D) (cl := xCl) (ci := 0) (v := .ref (ad (kg + 6))) (C := rnG) (T := tbG) (N := 9) hx hb hts inG hown hK hP kg hg0 rfl 5 (by decide) (hts _ tw_34) (fun _ h9 => h9) rfl dG_stepsBetween_52 ?_
          refine lv_iload_n hx hb dG_stepsBetween_55 rfl (lv_at hl 2 rfl) ?_
          refine x_calli (x_runV (n := 2) (As := [.ref (ad (kg + 6)), .int w0]) (rest := [.int w0]) ⟨hx, hb, hml, hown, hts⟩ (cG_joined l D tys A ws cI hI ad kg (kg + 6) g w0 (FF 6) hG hg6) tw_543 tw_545 ts_G_joined tw_2 tw_546 (by decide +kernel) rfl rfl ⟨by decide, by decide⟩ ⟨Nat.zero_le _, Nat.zero_le _⟩ (va_recv hK hP (ci := 0) (q0 := kg) rfl hg0) hK hP hD hS hA hN rfl hl.1 rfl (lv_room (Nat.le_of_ble_eq_true rfl)) dG_stepsBetween_56) hS (fun rjo ws_2 H locs hjo hP hD hS => ?_)
          obtain ⟨hjo, rfl⟩ := hjo
          refine lv_ior hx hb dG_stepsBetween_59 ?_
          refine lv_topi (fun v_3 ev_3 => ?_)
          refine lv_istore_n (lv' := [(3, .int v_3), (0, .ref (ad kg)), (2, .int (nI ob)), (4, .int (nI i))]) hx hb dG_stepsBetween_60 rfl hl (by decide) rfl (fun ls hl => ?_)
          refine lv_iinc (v := (nI (i + 1))) (lv' := [(4, .int (nI (i + 1))), (3, .int v_3), (0, .ref (ad kg)), (2, .int (nI ob))]) hx hb dG_stepsBetween_61 hl (k := 3) rfl (nI_1 _) (by decide) rfl (fun ls hl => ?_)
          refine lv_goto (tgt := 31) hx hb dG_stepsBetween_64 (by decide) ?_
          exact ih ta ob (i + 1) v_3 hta hob (by omega) ws _ _ _ (fun x hx => by rw [ev_3, b_or, hjo x hx, hw0 x hx]; show _ = (bsB _ _ _ i x || _); congr 1; exact any_congr (fun v hv => by rw [hw0 v (by omega), hrr6 v (by omega) x hx])) (by rw [hfar, show 30 - i = (30 - (i + 1)) + 1 by omega]; show (if bsB _ _ _ (29 - (30 - (i + 1))) ob = true then _ else _) = _; rw [show 29 - (30 - (i + 1)) = i by omega]; rw [hb3, isIn_nI w0 (by omega), b2i_0, hw0 ob (by omega)] at c43; rw [if_neg (by rw [c43]; decide)]) rfl (by omega) hP hD hS (lv_sub hl [2, 3, 1, 0] rfl)
        · refine lv_iload hx hb dG_stepsBetween_46 (lv_at hl 3 rfl) ?_
          exact x_iret hx hb hr hlk hK hP hD hS dG_stepsBetween_48 ⟨by rw [hfar, show 30 - i = (29 - i) + 1 by omega]; show _ = if bsB _ _ _ (29 - (29 - i)) ob = true then _ else _; rw [show 29 - (29 - i) = i by omega]; rw [hb3, isIn_nI w0 (by omega), b2i_n0, hw0 ob (by omega)] at c43; rw [if_pos c43], rfl⟩
  refine lv_iload_n hx hb dG_stepsBetween_0 rfl (lv_at hl 1 rfl) ?_
  refine lv_aload_n hx hb dG_stepsBetween_1 rfl (lv_at hl 0 rfl) ?_
  refine va_get (D := D) (cl := xCl) (ci := 0) (v := .int (nI g.length)) (C := rnG) (T := tbG) (N := 9) hx hb hts inG hown hK hP kg hg0 rfl 8 (by decide) (hts _ tw_37) (fun _ h9 => h9) rfl dG_stepsBetween_2 ?_
  refine x_calli (x_runS (n := 2) (As := [.int tt, .int (nI g.length)]) (rest := []) ⟨hx, hb, hml, hown, hts⟩ (cG_below l D tys A ws tt ((nI g.length))) tw_178 tw_179 tw_2 tw_180 (by decide +kernel) rfl rfl ⟨by decide, by decide⟩ ⟨Nat.zero_le _, Nat.zero_le _⟩ hK hP hD hS hA hN rfl hl.1 rfl (lv_room (Nat.le_of_ble_eq_true rfl)) dG_stepsBetween_5) hS (fun rhb1 ws_4 H locs hb1 hP hD hS => ?_)
  obtain ⟨hb1, rfl⟩ := hb1
  refine lv_if_eq (tgt := 22) hx hb dG_stepsBetween_8 (by decide) (fun c8 => ?_) (fun c8 => ?_)
  · refine lv_iconst (v := (-1)) hx hb dG_stepsBetween_22 (by decide) ?_
    exact x_iret hx hb hr hlk hK hP hD hS dG_stepsBetween_23 ⟨(if_neg (fun hc => blw_no (by omega) hb1 c8 hc.1)).symm, rfl⟩
  · obtain ⟨ta, hta, rfl⟩ := blw_of (by omega) hb1 c8
    refine lv_iload_n hx hb dG_stepsBetween_11 rfl (lv_at hl 2 rfl) ?_
    refine lv_aload_n hx hb dG_stepsBetween_12 rfl (lv_at hl 0 rfl) ?_
    refine va_get (D := D) (cl := xCl) (ci := 0) (v := .int (nI g.length)) (C := rnG) (T := tbG) (N := 9) hx hb hts inG hown hK hP kg hg0 rfl 8 (by decide) (hts _ tw_37) (fun _ h9 => h9) rfl dG_stepsBetween_13 ?_
    refine x_calli (x_runS (n := 2) (As := [.int oo, .int (nI g.length)]) (rest := []) ⟨hx, hb, hml, hown, hts⟩ (cG_below l D tys A ws oo ((nI g.length))) tw_178 tw_179 tw_2 tw_180 (by decide +kernel) rfl rfl ⟨by decide, by decide⟩ ⟨Nat.zero_le _, Nat.zero_le _⟩ hK hP hD hS hA hN rfl hl.1 rfl (lv_room (Nat.le_of_ble_eq_true rfl)) dG_stepsBetween_16) hS (fun rhb2 ws_5 H locs hb2 hP hD hS => ?_)
    obtain ⟨hb2, rfl⟩ := hb2
    refine lv_if_ne (tgt := 24) hx hb dG_stepsBetween_19 (by decide) (fun c19 => ?_) (fun c19 => ?_)
    · obtain ⟨ob, hob, rfl⟩ := blw_of (by omega) hb2 c19
      refine lv_iconst (v := 1) hx hb dG_stepsBetween_24 (by decide) ?_
      refine lv_iload_n hx hb dG_stepsBetween_25 rfl (lv_at hl 1 rfl) ?_
      refine lv_ishl hx hb dG_stepsBetween_26 ?_
      refine lv_topi (fun v_6 ev_6 => ?_)
      refine lv_istore_n (lv' := [(3, .int v_6), (0, .ref (ad kg)), (1, .int (nI ta)), (2, .int (nI ob))]) hx hb dG_stepsBetween_27 rfl hl (by decide) rfl (fun ls hl => ?_)
      refine lv_iconst (v := 0) hx hb dG_stepsBetween_28 (by decide) ?_
      refine lv_istore (lv' := [(4, .int 0), (3, .int v_6), (0, .ref (ad kg)), (1, .int (nI ta)), (2, .int (nI ob))]) hx hb dG_stepsBetween_29 hl (by decide) rfl (fun ls hl => ?_)
      exact loop_31 _ ta ob 0 v_6 hta hob (Nat.zero_le _) ws _ _ _ (fun x hx => by rw [ev_6, b_sh1 (by omega) hx]; rfl) (farS_nI hle hta hob) rfl (Nat.lt_succ_self _) hP hD hS (lv_sub hl [2, 4, 1, 0] rfl)
    · refine lv_iconst (v := (-1)) hx hb dG_stepsBetween_22 (by decide) ?_
      exact x_iret hx hb hr hlk hK hP hD hS dG_stepsBetween_23 ⟨(if_neg (fun hc => blw_no (by omega) hb2 c19 hc.2)).symm, rfl⟩

theorem gU_mem {g : Gr} (hg : GrOK g) {u v : Nat} : u ∈ gU g v ↔ v ∈ gD g u := by
  unfold gU
  rw [List.mem_filter, List.mem_range, decide_eq_true_eq]
  constructor
  · exact fun h => h.2
  · intro h
    refine ⟨?_, h⟩
    rcases Nat.lt_or_ge u g.length with q | q
    · have := hg.1; omega
    · rw [gD_out q] at h; cases h
/-- the tests: those of kind 3 that need, in the end, one of the list, or are one -/
def testS (g : Gr) (L : List Nat) : List Nat := (List.range 30).filter (fun t => bsB (gU g) g.length (fun u => decide (u ∈ L)) 30 t && decide (t < g.length ∧ nI (gK g t) = 3))
theorem addL_flt (n : Nat) (p : Nat → Bool) : addL [] ((List.range n).filter p) = (List.range n).filter p := addL_nil (List.Pairwise.sublist List.filter_sublist List.nodup_range)

set_option maxHeartbeats 4000000 in
set_option maxRecDepth 100000 in
/-- Graph.findTests(list) -/
theorem cG_findTests (l : Launch) (D : va_G) (tys : List (ClassId × FieldType)) (A : Nat → Prop) (ws : va_W) (cI : ClassId) (hI : tys[0]? = some (cI, .int)) (ad : Nat → Nat) (kg k : Nat) (hd : kg + 9 ≤ k) (g : Gr) (L : List Nat) (hG : GraphAt cI ad ws kg g) (h : RowAt cI ad ws k L) : x_Mv l yG_findTests wG_findTests (xR 3) D xCl tys A [.ref (ad kg), .ref (ad k)] ws (fun ws1 => x_two k ws ws1 ∧ RowAt cI ad ws1 k (testS g L)) := by
  obtain ⟨FF, ⟨hg0, hg1, hg2, hg3, hg4, hg5, hg6, hg7, hg8⟩, hRR⟩ := id hG
  obtain ⟨hokk, hrr1, hrr2, hrr3, hrr4, hrr5, hrr6, hrr7⟩ := id hRR
  have hle := hG.ok.1
  obtain ⟨fsR, hRo⟩ := h.obj
  obtain ⟨f1, hR1⟩ := id h
  refine x_enter (by decide) rfl (Nat.le_of_ble_eq_true rfl) (fun p e s m args below meth c ls hx hb hr hlk hml hown hnm hts hK hP hD hS hA hN hl => ?_)
  have hl : lv_has ls 4 [(0, .ref (ad kg)), (1, .ref (ad k))] := hl
  have loop_7 : ∀ (n : Nat) (i : Nat) (w0 : Int32) (hi : i ≤ 30) (ws1 : va_W) (H : Heap) (locs : List Loc) (ls : Array Slot), (∀ x, x < 32 → bt w0 x = bsB (gU g) g.length (fun u => decide (u ∈ L)) i x) → ws = ws1 → 30 - i < n → va_P D xCl ws1 H → va_D A ws1 → va_S A s.heap H locs → lv_has ls 4 [(0, .ref (ad kg)), (1, .ref (ad k)), (2, .int w0), (3, .int (nI i))] → W p l e (xR 3) s m args below meth c H locs 0 0 (MQ below (va_Qv (fun ws1 => x_two k ws ws1 ∧ RowAt cI ad ws1 k (testS g L)) (x_B D xCl tys A) A) args s 0 0 A) (F0 m 7 ls []) := by
    intro n
    induction n with
    | zero => intro i w0 hi ws1 H locs ls hw0 hws hme; exact absurd hme (Nat.not_lt_zero _)
    | succ n ih =>
      intro i w0 hi ws1 H locs ls hw0 hws hme hP hD hS hl
      subst hws
      refine lv_iload_n hx hb dG_findTests_7 rfl (lv_at hl 3 rfl) ?_
      refine lv_bipush (v := 30) hx hb dG_findTests_8 (by decide) ?_
      refine lv_icmp_ge (tgt := 31) hx hb dG_findTests_10 (by decide) (fun c10 => ?_) (fun c10 => ?_)
      · refine lv_aload_n hx hb dG_findTests_31 rfl (lv_at hl 1 rfl) ?_
        refine x_callv (x_runV (n := 0) (As := []) (rest := []) ⟨hx, hb, hml, hown, hts⟩ (cR_clear l D tys A ws cI hI ad k L f1 hR1) tw_489 tw_435 tw_436 tw_7 tw_437 (by decide +kernel) rfl rfl ⟨by decide, by decide⟩ ⟨Nat.zero_le _, Nat.zero_le _⟩ (va_recv hK hP (ci := 2) (q0 := k) rfl hRo) hK hP hD hS hA hN rfl hl.1 rfl (lv_room (Nat.le_of_ble_eq_true rfl)) dG_findTests_32) hS (fun ws_1 H locs hcl hP hD hS => ?_)
        have hG3 := hG.keep hcl.1.fr (by omega)
        obtain ⟨FG, ⟨hgg0, -⟩, -⟩ := id hG3
        obtain ⟨fsR3, hRo3⟩ := RowAt.obj ⟨_, hcl.2⟩
        refine lv_aload_n hx hb dG_findTests_35 rfl (lv_at hl 1 rfl) ?_
        refine lv_iload_n hx hb dG_findTests_36 rfl (lv_at hl 2 rfl) ?_
        refine lv_aload_n hx hb dG_findTests_37 rfl (lv_at hl 0 rfl) ?_
        refine lv_iconst (v := 3) hx hb dG_findTests_38 (by decide) ?_
        refine x_calli (x_runV (n := 1) (As := [.int 3]) (rest := [.int w0, .ref (ad k)]) ⟨hx, hb, hml, hown, hts⟩ (cG_ofKind l D tys A ws_1 cI hI ad kg g 3 hG3) tw_533 tw_535 ts_G_ofKind tw_2 tw_536 (by decide +kernel) rfl rfl ⟨by decide, by decide⟩ ⟨Nat.zero_le _, Nat.zero_le _⟩ (va_recv hK hP (ci := 0) (q0 := kg) rfl hgg0) hK hP hD hS hA hN rfl hl.1 rfl (lv_room (Nat.le_of_ble_eq_true rfl)) dG_findTests_39) hS (fun rok ws_2 H locs hok hP hD hS => ?_)
        obtain ⟨hok, rfl⟩ := hok
        refine lv_iand hx hb dG_findTests_42 ?_
        refine lv_topi (fun v_3 ev_3 => ?_)
        refine x_callv (x_runV (n := 1) (As := [.int v_3]) (rest := []) ⟨hx, hb, hml, hown, hts⟩ (cR_addByNumbers l D tys A ws_1 cI hI ad k [] v_3 ⟨_, hcl.2⟩) tw_525 tw_526 tw_527 tw_7 tw_528 (by decide +kernel) rfl rfl ⟨by decide, by decide⟩ ⟨Nat.zero_le _, Nat.zero_le _⟩ (va_recv hK hP (ci := 2) (q0 := k) rfl hRo3) hK hP hD hS hA hN rfl hl.1 rfl (lv_room (Nat.le_of_ble_eq_true rfl)) dG_findTests_43) hS (fun ws_4 H locs hab hP hD hS => ?_)
        exact x_vret hx hb hr hlk hK hP hD hS dG_findTests_46 ⟨hcl.1.tr hab.1, by have q := hab.2; rw [addM_eq] at q; rw [show testS g L = addL [] ((List.range 30).filter (fun t => bt v_3 t)) from ?_]; exact q; unfold testS; rw [addL_flt]; apply List.filter_congr; intro t ht; have ht := List.mem_range.mp ht; rw [ev_3, b_and, hok t (by omega), hw0 t (by omega), show i = 30 from (by have c10 : nI 30 ≤ nI i := c10; rw [nI_leI (by omega) (by omega)] at c10; omega)]⟩
      · have hi2 : i < 30 := by have c10 : ¬ nI 30 ≤ nI i := c10; rw [nI_leI (by omega) (by omega)] at c10; omega
        refine lv_iload_n hx hb dG_findTests_13 rfl (lv_at hl 2 rfl) ?_
        refine lv_aload_n hx hb dG_findTests_14 rfl (lv_at hl 0 rfl) ?_
        refine lv_aload_n hx hb dG_findTests_15 rfl (lv_at hl 0 rfl) ?_
        refine va_get (D := D) (cl := xCl) (ci := 0) (v := .ref (ad (kg + 7))) (C := rnG) (T := tbG) (N := 9) hx hb hts inG hown hK hP kg hg0 rfl 6 (by decide) (hts _ tw_35) (fun _ h9 => h9) rfl dG_findTests_16 ?_
        refine lv_iload_n hx hb dG_findTests_19 rfl (lv_at hl 2 rfl) ?_
        refine x_calli (x_runV (n := 2) (As := [.ref (ad (kg + 7)), .int w0]) (rest := [.int w0]) ⟨hx, hb, hml, hown, hts⟩ (cG_joined l D tys A ws cI hI ad kg (kg + 7) g w0 (FF 7) hG hg7) tw_543 tw_545 ts_G_joined tw_2 tw_546 (by decide +kernel) rfl rfl ⟨by decide, by decide⟩ ⟨Nat.zero_le _, Nat.zero_le _⟩ (va_recv hK hP (ci := 0) (q0 := kg) rfl hg0) hK hP hD hS hA hN rfl hl.1 rfl (lv_room (Nat.le_of_ble_eq_true rfl)) dG_findTests_20) hS (fun rjo ws_5 H locs hjo hP hD hS => ?_)
        obtain ⟨hjo, rfl⟩ := hjo
        refine lv_ior hx hb dG_findTests_23 ?_
        refine lv_topi (fun v_6 ev_6 => ?_)
        refine lv_istore_n (lv' := [(2, .int v_6), (0, .ref (ad kg)), (1, .ref (ad k)), (3, .int (nI i))]) hx hb dG_findTests_24 rfl hl (by decide) rfl (fun ls hl => ?_)
        refine lv_iinc (v := (nI (i + 1))) (lv' := [(3, .int (nI (i + 1))), (2, .int v_6), (0, .ref (ad kg)), (1, .ref (ad k))]) hx hb dG_findTests_25 hl (k := 3) rfl (nI_1 _) (by decide) rfl (fun ls hl => ?_)
        refine lv_goto (tgt := 7) hx hb dG_findTests_28 (by decide) ?_
        exact ih (i + 1) v_6 (by omega) ws _ _ _ (fun x hx => by rw [ev_6, b_or, hjo x hx, hw0 x hx]; show _ = (bsB _ _ _ i x || _); congr 1; exact any_congr (fun v hv => by rw [hw0 v (by omega), hrr7 v (by omega) x hx]; congr 1; exact decide_eq_decide.mpr (gU_mem hokk).symm)) rfl (by omega) hP hD hS (lv_sub hl [2, 3, 1, 0] rfl)
  refine lv_aload_n hx hb dG_findTests_0 rfl (lv_at hl 1 rfl) ?_
  refine x_calli (x_runV (n := 0) (As := []) (rest := []) ⟨hx, hb, hml, hown, hts⟩ (cR_mask l D tys A ws cI hI ad k L h) tw_542 tw_466 tw_467 tw_7 tw_468 (by decide +kernel) rfl rfl ⟨by decide, by decide⟩ ⟨Nat.zero_le _, Nat.zero_le _⟩ (va_recv hK hP (ci := 2) (q0 := k) rfl hRo) hK hP hD hS hA hN rfl hl.1 rfl (lv_room (Nat.le_of_ble_eq_true rfl)) dG_findTests_1) hS (fun rmk ws_7 H locs hmk hP hD hS => ?_)
  obtain ⟨hmk, rfl⟩ := hmk
  refine lv_istore_n (lv' := [(2, .int rmk), (0, .ref (ad kg)), (1, .ref (ad k))]) hx hb dG_findTests_4 rfl hl (by decide) rfl (fun ls hl => ?_)
  refine lv_iconst (v := 0) hx hb dG_findTests_5 (by decide) ?_
  refine lv_istore_n (lv' := [(3, .int 0), (2, .int rmk), (0, .ref (ad kg)), (1, .ref (ad k))]) hx hb dG_findTests_6 rfl hl (by decide) rfl (fun ls hl => ?_)
  exact loop_7 _ 0 rmk (Nat.zero_le _) ws _ _ _ (fun x hx => hmk x hx) rfl (Nat.lt_succ_self _) hP hD hS (lv_sub hl [2, 3, 1, 0] rfl)
end
section
-- ===== same =====
def gPn (g : Gr) (u : Nat) : Nat := if u < g.length then gN g u / 10 else 6
theorem gP_nI {g : Gr} {u : Nat} (h : u < 2 ^ 31) : gP g (nI u) = nI (gPn g u) := by
  unfold gP gPn
  rw [nI_toInt h]
  by_cases q : u < g.length
  · rw [if_pos ⟨by omega, by omega⟩, if_pos q]; simp
  · rw [if_neg (by omega), if_neg q]; rfl
theorem gPn_lt {g : Gr} (hg : GrOK g) (u : Nat) : gPn g u < 7 := by
  unfold gPn
  split
  · next h => have := (hg.2.1 u h).1; omega
  · omega
/-- all targets, by their numbers, that have the package of one of the list -/
def sameS (g : Gr) (L : List Nat) : List Nat := (List.range g.length).filter (fun t => L.any (fun u => decide (gPn g u = gPn g t)))
theorem any_take {L : List Nat} {p : Nat → Bool} {i : Nat} (h : i < L.length) : (L.take (i + 1)).any p = ((L.take i).any p || p L[i]) := by
  rw [List.take_succ_eq_append_getElem h, List.any_append]; simp

set_option maxHeartbeats 4000000 in
set_option maxRecDepth 100000 in
/-- Graph.findSame(list) -/
theorem cG_findSame (l : Launch) (D : va_G) (tys : List (ClassId × FieldType)) (A : Nat → Prop) (ws : va_W) (cI : ClassId) (hI : tys[0]? = some (cI, .int)) (ad : Nat → Nat) (kg k : Nat) (hd : kg + 9 ≤ k) (g : Gr) (L : List Nat) (hG : GraphAt cI ad ws kg g) (h : RowAt cI ad ws k L) : x_Mv l yG_findSame wG_findSame (xR 2) D xCl tys A [.ref (ad kg), .ref (ad k)] ws (fun ws1 => x_two k ws ws1 ∧ RowAt cI ad ws1 k (sameS g L)) := by
  obtain ⟨FF, ⟨hg0, hg1, hg2, hg3, hg4, hg5, hg6, hg7, hg8⟩, hRR⟩ := id hG
  obtain ⟨hokk, hrr1, hrr2, hrr3, hrr4, hrr5, hrr6, hrr7⟩ := id hRR
  have hle := hG.ok.1
  obtain ⟨fsR, hRo⟩ := h.obj
  obtain ⟨f1, hR1⟩ := id h
  refine x_enter (by decide) rfl (Nat.le_of_ble_eq_true rfl) (fun p e s m args below meth c ls hx hb hr hlk hml hown hnm hts hK hP hD hS hA hN hl => ?_)
  have hl : lv_has ls 4 [(0, .ref (ad kg)), (1, .ref (ad k))] := hl
  have loop_38 : ∀ (n : Nat) (w0 : Int32) (i : Nat) (hi : i ≤ g.length) (ws1 : va_W) (H : Heap) (locs : List Loc) (ls : Array Slot), (∀ x, x < 32 → bt w0 x = L.any (fun u => decide (gPn g u = x))) → x_two k ws ws1 → RowAt cI ad ws1 k (addL [] ((List.range i).filter (fun t => L.any (fun u => decide (gPn g u = gPn g t))))) → GraphAt cI ad ws1 kg g → g.length - i < n → va_P D xCl ws1 H → va_D A ws1 → va_S A s.heap H locs → lv_has ls 4 [(0, .ref (ad kg)), (1, .ref (ad k)), (2, .int w0), (3, .int (nI i))] → W p l e (xR 2) s m args below meth c H locs 0 0 (MQ below (va_Qv (fun ws1 => x_two k ws ws1 ∧ RowAt cI ad ws1 k (sameS g L)) (x_B D xCl tys A) A) args s 0 0 A) (F0 m 38 ls []) := by
    intro n
    induction n with
    | zero => intro w0 i hi ws1 H locs ls hw1 hT hrow hG1 hme; exact absurd hme (Nat.not_lt_zero _)
    | succ n ih =>
      intro w0 i hi ws1 H locs ls hw1 hT hrow hG1 hme hP hD hS hl
      obtain ⟨fsR2, hRo2⟩ := hrow.obj
      obtain ⟨f2, hR2⟩ := id hrow
      obtain ⟨FG, ⟨hgg0, -⟩, -⟩ := id hG1
      refine lv_iload_n hx hb dG_findSame_38 rfl (lv_at hl 3 rfl) ?_
      refine lv_aload_n hx hb dG_findSame_39 rfl (lv_at hl 0 rfl) ?_
      refine va_get (D := D) (cl := xCl) (ci := 0) (v := .int (nI g.length)) (C := rnG) (T := tbG) (N := 9) hx hb hts inG hown hK hP kg hgg0 rfl 8 (by decide) (hts _ tw_37) (fun _ h9 => h9) rfl dG_findSame_40 ?_
      refine lv_icmp_ge (tgt := 69) hx hb dG_findSame_43 (by decide) (fun c43 => ?_) (fun c43 => ?_)
      · exact x_vret hx hb hr hlk hK hP hD hS dG_findSame_69 ⟨hT, by have e : i = g.length := (by rw [nI_leI (by omega) (by omega)] at c43; omega); rw [e, addL_flt] at hrow; exact hrow⟩
      · have hi2 : i < g.length := by rw [nI_leI (by omega) (by omega)] at c43; omega
        refine lv_iload_n hx hb dG_findSame_46 rfl (lv_at hl 2 rfl) ?_
        refine lv_aload_n hx hb dG_findSame_47 rfl (lv_at hl 0 rfl) ?_
        refine lv_iload_n hx hb dG_findSame_48 rfl (lv_at hl 3 rfl) ?_
        refine x_calli (x_runV (n := 1) (As := [.int (nI i)]) (rest := [.int w0]) ⟨hx, hb, hml, hown, hts⟩ (cG_packOf l D tys A ws1 cI hI ad kg g (nI i) hG1) tw_551 tw_553 ts_G_packOf tw_2 tw_554 (by decide +kernel) rfl rfl ⟨by decide, by decide⟩ ⟨Nat.zero_le _, Nat.zero_le _⟩ (va_recv hK hP (ci := 0) (q0 := kg) rfl hgg0) hK hP hD hS hA hN rfl hl.1 rfl (lv_room (Nat.le_of_ble_eq_true rfl)) dG_findSame_49) hS (fun rpk ws_1 H locs hpk hP hD hS => ?_)
        obtain ⟨hpk, rfl⟩ := hpk
        refine lv_iushr (v := ((w0).toUInt32 >>> ((rpk).toUInt32 &&& Int32.toUInt32 31)).toInt32) hx hb dG_findSame_52 rfl ?_
        refine lv_topi (fun v_2 ev_2 => ?_)
        refine lv_iconst (v := 1) hx hb dG_findSame_53 (by decide) ?_
        refine lv_iand hx hb dG_findSame_54 ?_
        refine lv_topi (fun v_3 ev_3 => ?_)
        refine lv_if_eq (tgt := 63) hx hb dG_findSame_55 (by decide) (fun c55 => ?_) (fun c55 => ?_)
        · refine lv_iinc (v := (nI (i + 1))) (lv' := [(3, .int (nI (i + 1))), (0, .ref (ad kg)), (1, .ref (ad k)), (2, .int w0)]) hx hb dG_findSame_63 hl (k := 3) rfl (nI_1 _) (by decide) rfl (fun ls hl => ?_)
          refine lv_goto (tgt := 38) hx hb dG_findSame_66 (by decide) ?_
          exact ih w0 (i + 1) (by omega) ws1 _ _ _ hw1 hT (by have q7 := gPn_lt hokk i; rw [ev_3, ev_2, hpk, gP_nI (by omega), b_test w0 (by omega), hw1 _ (by omega)] at c55; rw [List.range_succ, List.filter_append, List.filter_cons, if_neg (by rw [c55]; decide)]; simpa using hrow) hG1 (by omega) hP hD hS (lv_sub hl [1, 2, 3, 0] rfl)
        · refine lv_aload_n hx hb dG_findSame_58 rfl (lv_at hl 1 rfl) ?_
          refine lv_iload_n hx hb dG_findSame_59 rfl (lv_at hl 3 rfl) ?_
          refine x_callv (x_runV (n := 1) (As := [.int (nI i)]) (rest := []) ⟨hx, hb, hml, hown, hts⟩ (cR_add l D tys A ws1 cI hI ad k _ ((nI i)) f2 hR2) tw_488 tw_451 tw_452 tw_7 tw_453 (by decide +kernel) rfl rfl ⟨by decide, by decide⟩ ⟨Nat.zero_le _, Nat.zero_le _⟩ (va_recv hK hP (ci := 2) (q0 := k) rfl hRo2) hK hP hD hS hA hN rfl hl.1 rfl (lv_room (Nat.le_of_ble_eq_true rfl)) dG_findSame_60) hS (fun ws_4 H locs hadd hP hD hS => ?_)
          obtain ⟨ht2, f9, hr2, -⟩ := hadd
          have hG2 := hG1.keep ht2.fr (by omega)
          refine lv_iinc (v := (nI (i + 1))) (lv' := [(3, .int (nI (i + 1))), (0, .ref (ad kg)), (1, .ref (ad k)), (2, .int w0)]) hx hb dG_findSame_63 hl (k := 3) rfl (nI_1 _) (by decide) rfl (fun ls hl => ?_)
          refine lv_goto (tgt := 38) hx hb dG_findSame_66 (by decide) ?_
          exact ih w0 (i + 1) (by omega) ws_4 _ _ _ hw1 (hT.tr ht2) (by have q7 := gPn_lt hokk i; rw [ev_3, ev_2, hpk, gP_nI (by omega), b_test w0 (by omega), hw1 _ (by omega)] at c55; rw [List.range_succ, List.filter_append, List.filter_cons, if_pos (ts_nf9 c55)]; unfold addL; rw [List.foldl_append]; show RowAt cI ad _ k (addN (addL [] _) i); rw [← addI_N _ (by omega)]; exact ⟨_, hr2⟩) hG2 (by omega) hP hD hS (lv_sub hl [1, 2, 3, 0] rfl)
  have loop_4 : ∀ (n : Nat) (i : Nat) (w0 : Int32) (hi : i ≤ L.length) (ws1 : va_W) (H : Heap) (locs : List Loc) (ls : Array Slot), (∀ x, x < 32 → bt w0 x = (L.take i).any (fun u => decide (gPn g u = x))) → ws = ws1 → L.length - i < n → va_P D xCl ws1 H → va_D A ws1 → va_S A s.heap H locs → lv_has ls 4 [(0, .ref (ad kg)), (1, .ref (ad k)), (2, .int w0), (3, .int (nI i))] → W p l e (xR 2) s m args below meth c H locs 0 0 (MQ below (va_Qv (fun ws1 => x_two k ws ws1 ∧ RowAt cI ad ws1 k (sameS g L)) (x_B D xCl tys A) A) args s 0 0 A) (F0 m 4 ls []) := by
    intro n
    induction n with
    | zero => intro i w0 hi ws1 H locs ls hw0 hws hme; exact absurd hme (Nat.not_lt_zero _)
    | succ n ih =>
      intro i w0 hi ws1 H locs ls hw0 hws hme hP hD hS hl
      subst hws
      have hle9 := h.le
      refine lv_iload_n hx hb dG_findSame_4 rfl (lv_at hl 3 rfl) ?_
      refine lv_aload_n hx hb dG_findSame_5 rfl (lv_at hl 1 rfl) ?_
      refine x_calli (x_runV (n := 0) (As := []) (rest := [.int (nI i)]) ⟨hx, hb, hml, hown, hts⟩ (cR_size l D tys A ws cI hI ad k _ h) tw_477 tw_443 tw_444 tw_7 tw_445 (by decide +kernel) rfl rfl ⟨by decide, by decide⟩ ⟨Nat.zero_le _, Nat.zero_le _⟩ (va_recv hK hP (ci := 2) (q0 := k) rfl hRo) hK hP hD hS hA hN rfl hl.1 rfl (lv_room (Nat.le_of_ble_eq_true rfl)) dG_findSame_6) hS (fun r_6 ws_5 H locs hz hP hD hS => ?_)
      obtain ⟨hz, rfl⟩ := hz
      refine lv_icmp_ge (tgt := 32) hx hb dG_findSame_9 (by decide) (fun c9 => ?_) (fun c9 => ?_)
      · refine lv_aload_n hx hb dG_findSame_32 rfl (lv_at hl 1 rfl) ?_
        refine x_callv (x_runV (n := 0) (As := []) (rest := []) ⟨hx, hb, hml, hown, hts⟩ (cR_clear l D tys A ws cI hI ad k L f1 hR1) tw_489 tw_435 tw_436 tw_7 tw_437 (by decide +kernel) rfl rfl ⟨by decide, by decide⟩ ⟨Nat.zero_le _, Nat.zero_le _⟩ (va_recv hK hP (ci := 2) (q0 := k) rfl hRo) hK hP hD hS hA hN rfl hl.1 rfl (lv_room (Nat.le_of_ble_eq_true rfl)) dG_findSame_33) hS (fun ws_7 H locs hcl hP hD hS => ?_)
        have hG3 := hG.keep hcl.1.fr (by omega)
        refine lv_iconst (v := 0) hx hb dG_findSame_36 (by decide) ?_
        refine lv_istore_n (lv' := [(3, .int 0), (0, .ref (ad kg)), (1, .ref (ad k)), (2, .int w0)]) hx hb dG_findSame_37 rfl hl (by decide) rfl (fun ls hl => ?_)
        exact loop_38 _ w0 0 (Nat.zero_le _) ws_7 _ _ _ (fun x hx => by rw [hw0 x hx]; have e : i = L.length := (by rw [hz, nI_leI (by omega) (by omega)] at c9; omega); rw [e, List.take_length]) hcl.1 ⟨_, hcl.2⟩ hG3 (Nat.lt_succ_self _) hP hD hS (lv_sub hl [1, 2, 3, 0] rfl)
      · have hi2 : i < L.length := by rw [hz, nI_leI (by omega) (by omega)] at c9; omega
        refine lv_iload_n hx hb dG_findSame_12 rfl (lv_at hl 2 rfl) ?_
        refine lv_iconst (v := 1) hx hb dG_findSame_13 (by decide) ?_
        refine lv_aload_n hx hb dG_findSame_14 rfl (lv_at hl 0 rfl) ?_
        refine lv_aload_n hx hb dG_findSame_15 rfl (lv_at hl 1 rfl) ?_
        refine lv_iload_n hx hb dG_findSame_16 rfl (lv_at hl 3 rfl) ?_
        refine x_calli (x_runV (n := 1) (As := [.int (nI i)]) (rest := [.ref (ad kg), .int 1, .int w0]) ⟨hx, hb, hml, hown, hts⟩ (cR_at l D tys A ws cI hI ad k _ ((nI i)) h) tw_478 tw_447 tw_448 tw_7 tw_449 (by decide +kernel) rfl rfl ⟨by decide, by decide⟩ ⟨Nat.zero_le _, Nat.zero_le _⟩ (va_recv hK hP (ci := 2) (q0 := k) rfl hRo) hK hP hD hS hA hN rfl hl.1 rfl (lv_room (Nat.le_of_ble_eq_true rfl)) dG_findSame_17) hS (fun rat ws_8 H locs hat hP hD hS => ?_)
        obtain ⟨hat, rfl⟩ := hat
        obtain rfl : rat = nI L[i] := by rw [hat, atI_nI hi2 (by omega)]
        refine x_calli (x_runV (n := 1) (As := [.int (nI L[i])]) (rest := [.int 1, .int w0]) ⟨hx, hb, hml, hown, hts⟩ (cG_packOf l D tys A ws cI hI ad kg g (nI L[i]) hG) tw_551 tw_553 ts_G_packOf tw_2 tw_554 (by decide +kernel) rfl rfl ⟨by decide, by decide⟩ ⟨Nat.zero_le _, Nat.zero_le _⟩ (va_recv hK hP (ci := 0) (q0 := kg) rfl hg0) hK hP hD hS hA hN rfl hl.1 rfl (lv_room (Nat.le_of_ble_eq_true rfl)) dG_findSame_20) hS (fun rpk ws_9 H locs hpk hP hD hS => ?_)
        obtain ⟨hpk, rfl⟩ := hpk
        refine lv_ishl hx hb dG_findSame_23 ?_
        refine lv_topi (fun v_10 ev_10 => ?_)
        refine lv_ior hx hb dG_findSame_24 ?_
        refine lv_topi (fun v_11 ev_11 => ?_)
        refine lv_istore_n (lv' := [(2, .int v_11), (0, .ref (ad kg)), (1, .ref (ad k)), (3, .int (nI i))]) hx hb dG_findSame_25 rfl hl (by decide) rfl (fun ls hl => ?_)
        refine lv_iinc (v := (nI (i + 1))) (lv' := [(3, .int (nI (i + 1))), (2, .int v_11), (0, .ref (ad kg)), (1, .ref (ad k))]) hx hb dG_findSame_26 hl (k := 3) rfl (nI_1 _) (by decide) rfl (fun ls hl => ?_)
        refine lv_goto (tgt := 4) hx hb dG_findSame_29 (by decide) ?_
        exact ih (i + 1) v_11 (by omega) ws _ _ _ (fun x hx => by have q7 := gPn_lt hokk L[i]; rw [ev_11, ev_10, hpk, gP_nI (by have := h.lt L[i] (List.getElem_mem hi2); omega), b_or, hw0 x hx, b_sh1 (by omega) hx, any_take hi2]; congr 1; exact decide_eq_decide.mpr ⟨Eq.symm, Eq.symm⟩) rfl (by omega) hP hD hS (lv_sub hl [2, 3, 1, 0] rfl)
  refine lv_iconst (v := 0) hx hb dG_findSame_0 (by decide) ?_
  refine lv_istore_n (lv' := [(2, .int 0), (0, .ref (ad kg)), (1, .ref (ad k))]) hx hb dG_findSame_1 rfl hl (by decide) rfl (fun ls hl => ?_)
  refine lv_iconst (v := 0) hx hb dG_findSame_2 (by decide) ?_
  refine lv_istore_n (lv' := [(3, .int 0), (2, .int 0), (0, .ref (ad kg)), (1, .ref (ad k))]) hx hb dG_findSame_3 rfl hl (by decide) rfl (fun ls hl => ?_)
  exact loop_4 _ 0 0 (Nat.zero_le _) ws _ _ _ (fun x _ => by rw [b_0]; rfl) rfl (Nat.lt_succ_self _) hP hD hS (lv_sub hl [2, 3, 1, 0] rfl)

-- ===== ways =====
/-- a Graph whose row cameBy is cb -/
def GraphC (cI : ClassId) (ad : Nat → Nat) (ws : va_W) (k : Nat) (g : Gr) (cb : Nat → Int32) : Prop := ∃ F, GraphF cI ad ws k F g.length ∧ GrRel g F ∧ F 8 = cb
theorem GraphC.at {cI : ClassId} {ad : Nat → Nat} {ws : va_W} {k : Nat} {g : Gr} {cb : Nat → Int32} (h : GraphC cI ad ws k g cb) : GraphAt cI ad ws k g := by
  obtain ⟨F, h1, h2, -⟩ := h
  exact ⟨F, h1, h2⟩
theorem GraphAt.c {cI : ClassId} {ad : Nat → Nat} {ws : va_W} {k : Nat} {g : Gr} (h : GraphAt cI ad ws k g) : ∃ cb, GraphC cI ad ws k g cb := by
  obtain ⟨F, h1, h2⟩ := h
  exact ⟨F 8, F, h1, h2, rfl⟩
theorem GraphC.keep {cI : ClassId} {ad : Nat → Nat} {ws ws1 : va_W} {k a b : Nat} {g : Gr} {cb : Nat → Int32} (h : GraphC cI ad ws k g cb) (hf : x_fr a b ws ws1) (hd : k + 9 ≤ a ∨ b ≤ k) : GraphC cI ad ws1 k g cb := by
  obtain ⟨F, ⟨h0, h1, h2, h3, h4, h5, h6, h7, h8⟩, r⟩ := h
  exact ⟨F, ⟨(hf _ (by omega)).trans h0, (hf _ (by omega)).trans h1, (hf _ (by omega)).trans h2, (hf _ (by omega)).trans h3, (hf _ (by omega)).trans h4, (hf _ (by omega)).trans h5, (hf _ (by omega)).trans h6, (hf _ (by omega)).trans h7, (hf _ (by omega)).trans h8⟩, r⟩
theorem GrRel.c8 {g : Gr} {F : Nat → Nat → Int32} (h : GrRel g F) (f : Nat → Int32) : GrRel g (setF F 8 f) := h
/-- nothing changed but cameBy and the row k -/
def x_nt (kg k : Nat) (ws ws1 : va_W) : Prop := ∀ j, j ≠ kg + 8 → j ≠ k → j ≠ k + 1 → ws1[j]? = ws[j]?
theorem x_nt.rf {kg k : Nat} {ws : va_W} : x_nt kg k ws ws := fun _ _ _ _ => rfl
theorem x_nt.tr {kg k : Nat} {a b c : va_W} (h1 : x_nt kg k a b) (h2 : x_nt kg k b c) : x_nt kg k a c := fun j h h' h'' => (h2 j h h' h'').trans (h1 j h h' h'')
theorem x_two.nt {kg k : Nat} {a b : va_W} (h : x_two k a b) : x_nt kg k a b := fun j _ h1 h2 => h j h1 h2
theorem x_upd.nt {kg k : Nat} {a b : va_W} {q : Nat × va_E} (h : x_upd a (kg + 8) q b) : x_nt kg k a b := fun j h1 _ _ => h.2 j h1
theorem RowAt.keepN {cI : ClassId} {ad : Nat → Nat} {ws ws1 : va_W} {kg k k2 : Nat} {L : List Nat} (h : RowAt cI ad ws k2 L) (hf : x_nt kg k ws ws1) (h1 : kg + 9 ≤ k2) (h2 : k2 + 2 ≤ k ∨ k + 2 ≤ k2) : RowAt cI ad ws1 k2 L := by
  obtain ⟨f, mk, h0, h1, r⟩ := h
  exact ⟨f, mk, (hf _ (by omega) (by omega) (by omega)).trans h0, (hf _ (by omega) (by omega) (by omega)).trans h1, r⟩
/-- u comes by t, if it isn't there -/
def note1 (t : Nat) (x : List Nat × (Nat → Int32)) (u : Nat) : List Nat × (Nat → Int32) := if u ∈ x.1 then x else (x.1 ++ [u], upd x.2 u (nI t))
def noteL (t : Nat) (x : List Nat × (Nat → Int32)) (R : List Nat) : List Nat × (Nat → Int32) := R.foldl (note1 t) x
theorem noteL_s (t : Nat) (x : List Nat × (Nat → Int32)) (R : List Nat) {i : Nat} (h : i < R.length) : noteL t x (R.take (i + 1)) = note1 t (noteL t x (R.take i)) R[i] := take_foldl _ x R h

theorem note_no {g : Gr} {ta i : Nat} (hta : ta < 30) (hi : i < 8) (x : List Nat × (Nat → Int32)) {r : Int32} (e : r = b2i (blw (gAt g (nI ta) (nI i)) 30)) (h : r = 0) (hg : GrOK g) : noteL ta x ((gD g ta).take (i + 1)) = noteL ta x ((gD g ta).take i) := by
  by_cases hl : i < (gD g ta).length
  · exfalso
    have q := blw_no (n := 30) (by omega) e h
    rw [gAt_nI g (by omega) hl (by omega)] at q
    have q2 := (hg.2.2.2 ta).2.2 ((gD g ta).getD i 0) (by rw [List.getD_eq_getElem?_getD, List.getElem?_eq_getElem hl]; exact List.getElem_mem hl)
    have := hg.1
    rw [nI_toInt (by omega)] at q
    omega
  · rw [List.take_of_length_le (by omega), List.take_of_length_le (by omega)]
theorem note_in {g : Gr} {ta i : Nat} (hta : ta < 30) (hi : i < 8) {r : Int32} (e : r = b2i (blw (gAt g (nI ta) (nI i)) 30)) (h : ¬ r = 0) (hg : GrOK g) : ∃ hl : i < (gD g ta).length, gAt g (nI ta) (nI i) = nI (gD g ta)[i] ∧ (gD g ta)[i] < 30 := by
  by_cases hl : i < (gD g ta).length
  · refine ⟨hl, ?_, ?_⟩
    · rw [gAt_nI g (by omega) hl (by omega)]; simp [hl]
    · have := (hg.2.2.2 ta).2.2 _ (List.getElem_mem hl)
      have := hg.1
      omega
  · exfalso
    rw [e, gAt_no (by rw [nI_toInt (by omega), nI_toInt (by omega)]; simp; omega)] at h
    exact h (by decide)

set_option maxHeartbeats 4000000 in
set_option maxRecDepth 100000 in
/-- Graph.noteNeedsOf(t, list) -/
theorem cG_noteNeedsOf (l : Launch) (D : va_G) (tys : List (ClassId × FieldType)) (A : Nat → Prop) (ws : va_W) (cI : ClassId) (hI : tys[0]? = some (cI, .int)) (ad : Nat → Nat) (kg k : Nat) (hd : kg + 9 ≤ k) (g : Gr) (L : List Nat) (ta : Nat) (hta : ta < 30) (cb : Nat → Int32) (hC : GraphC cI ad ws kg g cb) (h : RowAt cI ad ws k L) : x_Mv l yG_noteNeedsOf wG_noteNeedsOf (xR 2) D xCl tys A [.ref (ad kg), .int (nI ta), .ref (ad k)] ws (fun ws1 => x_nt kg k ws ws1 ∧ RowAt cI ad ws1 k (noteL ta (L, cb) (gD g ta)).1 ∧ GraphC cI ad ws1 kg g (noteL ta (L, cb) (gD g ta)).2) := by
  refine x_enter (by decide) rfl (Nat.le_of_ble_eq_true rfl) (fun p e s m args below meth c ls hx hb hr hlk hml hown hnm hts hK hP hD hS hA hN hl => ?_)
  have hl : lv_has ls 5 [(0, .ref (ad kg)), (1, .int (nI ta)), (2, .ref (ad k))] := hl
  have loop_2 : ∀ (n : Nat) (i : Nat) (hi : i ≤ 8) (ws1 : va_W) (H : Heap) (locs : List Loc) (ls : Array Slot), x_nt kg k ws ws1 → RowAt cI ad ws1 k (noteL ta (L, cb) ((gD g ta).take i)).1 → GraphC cI ad ws1 kg g (noteL ta (L, cb) ((gD g ta).take i)).2 → 8 - i < n → va_P D xCl ws1 H → va_D A ws1 → va_S A s.heap H locs → lv_has ls 5 [(0, .ref (ad kg)), (1, .int (nI ta)), (2, .ref (ad k)), (3, .int (nI i))] → W p l e (xR 2) s m args below meth c H locs 0 0 (MQ below (va_Qv (fun ws1 => x_nt kg k ws ws1 ∧ RowAt cI ad ws1 k (noteL ta (L, cb) (gD g ta)).1 ∧ GraphC cI ad ws1 kg g (noteL ta (L, cb) (gD g ta)).2) (x_B D xCl tys A) A) args s 0 0 A) (F0 m 2 ls []) := by
    intro n
    induction n with
    | zero => intro i hi ws1 H locs ls hT hrow hC1 hme; exact absurd hme (Nat.not_lt_zero _)
    | succ n ih =>
      intro i hi ws1 H locs ls hT hrow hC1 hme hP hD hS hl
      obtain ⟨fsR, hRo⟩ := hrow.obj
      have hG1 := hC1.at
      obtain ⟨FF, ⟨hg0, hg1, hg2, hg3, hg4, hg5, hg6, hg7, hg8⟩, hRR, hc8⟩ := id hC1
      have hle := hG1.ok.1
      refine lv_iload_n hx hb dG_noteNeedsOf_2 rfl (lv_at hl 3 rfl) ?_
      refine lv_bipush (v := 8) hx hb dG_noteNeedsOf_3 (by decide) ?_
      refine lv_icmp_ge (tgt := 58) hx hb dG_noteNeedsOf_5 (by decide) (fun c5 => ?_) (fun c5 => ?_)
      · exact x_vret hx hb hr hlk hK hP hD hS dG_noteNeedsOf_58 ⟨hT, (by have e : (gD g ta).take i = gD g ta := List.take_of_length_le (by have c5 : nI 8 ≤ nI i := c5; rw [nI_leI (by omega) (by omega)] at c5; have := (hG1.ok.2.2.2 ta).2.1; omega); rw [e] at hrow; exact hrow), (by have e : (gD g ta).take i = gD g ta := List.take_of_length_le (by have c5 : nI 8 ≤ nI i := c5; rw [nI_leI (by omega) (by omega)] at c5; have := (hG1.ok.2.2.2 ta).2.1; omega); rw [e] at hC1; exact hC1)⟩
      · have hi2 : i < 8 := by have c5 : ¬ nI 8 ≤ nI i := c5; rw [nI_leI (by omega) (by omega)] at c5; omega
        refine lv_aload_n hx hb dG_noteNeedsOf_8 rfl (lv_at hl 0 rfl) ?_
        refine lv_iload_n hx hb dG_noteNeedsOf_9 rfl (lv_at hl 1 rfl) ?_
        refine lv_iload_n hx hb dG_noteNeedsOf_10 rfl (lv_at hl 3 rfl) ?_
        refine x_calli (x_runV (n := 2) (As := [.int (nI ta), .int (nI i)]) (rest := []) ⟨hx, hb, hml, hown, hts⟩ (cG_needAt l D tys A ws1 cI hI ad kg g ((nI ta)) ((nI i)) hG1) tw_487 tw_197 tw_198 tw_2 tw_199 (by decide +kernel) rfl rfl ⟨by decide, by decide⟩ ⟨Nat.zero_le _, Nat.zero_le _⟩ (va_recv hK hP (ci := 0) (q0 := kg) rfl hg0) hK hP hD hS hA hN rfl hl.1 rfl (lv_room (Nat.le_of_ble_eq_true rfl)) dG_noteNeedsOf_11) hS (fun rna ws_1 H locs hna hP hD hS => ?_)
        obtain ⟨hna, rfl⟩ := hna
        refine lv_istore (lv' := [(4, .int rna), (0, .ref (ad kg)), (1, .int (nI ta)), (2, .ref (ad k)), (3, .int (nI i))]) hx hb dG_noteNeedsOf_14 hl (by decide) rfl (fun ls hl => ?_)
        refine lv_iload hx hb dG_noteNeedsOf_16 (lv_at hl 0 rfl) ?_
        refine lv_aload_n hx hb dG_noteNeedsOf_18 rfl (lv_at hl 1 rfl) ?_
        refine va_get (D := D) (cl := xCl) (ci := 0) (v := .ref (ad (kg + 8))) (C := rnG) (T := tbG) (N := 9) hx hb hts inG hown hK hP kg hg0 rfl 7 (by decide) (hts _ tw_36) (fun _ h9 => h9) rfl dG_noteNeedsOf_19 ?_
        refine va_alen (v := 30) hx hb hK hP (kg + 8) 0 hg8 hI (by rfl) dG_noteNeedsOf_22 ?_
        refine x_calli (x_runS (n := 2) (As := [.int rna, .int 30]) (rest := []) ⟨hx, hb, hml, hown, hts⟩ (cG_below l D tys A ws1 rna 30) tw_178 tw_179 tw_2 tw_180 (by decide +kernel) rfl rfl ⟨by decide, by decide⟩ ⟨Nat.zero_le _, Nat.zero_le _⟩ hK hP hD hS hA hN rfl hl.1 rfl (lv_room (Nat.le_of_ble_eq_true rfl)) dG_noteNeedsOf_23) hS (fun rhb1 ws_2 H locs hb1 hP hD hS => ?_)
        obtain ⟨hb1, rfl⟩ := hb1
        refine lv_if_eq (tgt := 52) hx hb dG_noteNeedsOf_26 (by decide) (fun c26 => ?_) (fun c26 => ?_)
        · refine lv_iinc (v := (nI (i + 1))) (lv' := [(3, .int (nI (i + 1))), (4, .int rna), (0, .ref (ad kg)), (1, .int (nI ta)), (2, .ref (ad k))]) hx hb dG_noteNeedsOf_52 hl (k := 4) rfl (nI_1 _) (by decide) rfl (fun ls hl => ?_)
          refine lv_goto (tgt := 2) hx hb dG_noteNeedsOf_55 (by decide) ?_
          exact ih (i + 1) (by omega) ws1 _ _ _ hT (by rw [note_no hta hi2 _ (by rw [hb1, hna]) c26 hG1.ok]; exact hrow) (by rw [note_no hta hi2 _ (by rw [hb1, hna]) c26 hG1.ok]; exact hC1) (by omega) hP hD hS (lv_sub hl [2, 3, 4, 0] rfl)
        · obtain ⟨hl9, hx1, hx2⟩ := note_in hta hi2 (by rw [hb1, hna]) c26 hG1.ok
          refine lv_aload_n hx hb dG_noteNeedsOf_29 rfl (lv_at hl 3 rfl) ?_
          refine lv_iload hx hb dG_noteNeedsOf_30 (lv_at hl 0 rfl) ?_
          refine x_calli (x_runV (n := 1) (As := [.int rna]) (rest := []) ⟨hx, hb, hml, hown, hts⟩ (cR_has l D tys A ws1 cI hI ad k _ rna hrow) tw_479 tw_480 tw_481 tw_7 tw_482 (by decide +kernel) rfl rfl ⟨by decide, by decide⟩ ⟨Nat.zero_le _, Nat.zero_le _⟩ (va_recv hK hP (ci := 2) (q0 := k) rfl hRo) hK hP hD hS hA hN rfl hl.1 rfl (lv_room (Nat.le_of_ble_eq_true rfl)) dG_noteNeedsOf_32) hS (fun rhs ws_3 H locs hhs hP hD hS => ?_)
          obtain ⟨hhs, rfl⟩ := hhs
          refine lv_if_ne (tgt := 52) hx hb dG_noteNeedsOf_35 (by decide) (fun c35 => ?_) (fun c35 => ?_)
          · refine lv_iinc (v := (nI (i + 1))) (lv' := [(3, .int (nI (i + 1))), (4, .int rna), (0, .ref (ad kg)), (1, .int (nI ta)), (2, .ref (ad k))]) hx hb dG_noteNeedsOf_52 hl (k := 4) rfl (nI_1 _) (by decide) rfl (fun ls hl => ?_)
            refine lv_goto (tgt := 2) hx hb dG_noteNeedsOf_55 (by decide) ?_
            exact ih (i + 1) (by omega) ws1 _ _ _ hT (by have e : noteL ta (L, cb) ((gD g ta).take (i + 1)) = noteL ta (L, cb) ((gD g ta).take i) := (by rw [noteL_s _ _ _ hl9]; rw [hhs, hna, hx1, hasI_nI _ hx2, b2i_n0, decide_eq_true_eq] at c35; exact if_pos c35); rw [e]; exact hrow) (by have e : noteL ta (L, cb) ((gD g ta).take (i + 1)) = noteL ta (L, cb) ((gD g ta).take i) := (by rw [noteL_s _ _ _ hl9]; rw [hhs, hna, hx1, hasI_nI _ hx2, b2i_n0, decide_eq_true_eq] at c35; exact if_pos c35); rw [e]; exact hC1) (by omega) hP hD hS (lv_sub hl [2, 3, 4, 0] rfl)
          · have hx3 : (gD g ta)[i] ∉ (noteL ta (L, cb) ((gD g ta).take i)).1 := by rw [hhs, hna, hx1, hasI_nI _ hx2, b2i_0, decide_eq_false_iff_not] at c35; exact c35
            refine lv_aload_n hx hb dG_noteNeedsOf_38 rfl (lv_at hl 1 rfl) ?_
            refine va_get (D := D) (cl := xCl) (ci := 0) (v := .ref (ad (kg + 8))) (C := rnG) (T := tbG) (N := 9) hx hb hts inG hown hK hP kg hg0 rfl 7 (by decide) (hts _ tw_36) (fun _ h9 => h9) rfl dG_noteNeedsOf_39 ?_
            refine lv_iload hx hb dG_noteNeedsOf_42 (lv_at hl 0 rfl) ?_
            refine lv_iload_n hx hb dG_noteNeedsOf_44 rfl (lv_at hl 2 rfl) ?_
            refine va_iast hx hb hK hP hD hS (kg + 8) 0 hg8 hI (by rw [hna, hx1]; exact vp_in_nI (by omega) (by omega)) dG_noteNeedsOf_45 (fun H locs hP hD hS => ?_)
            obtain ⟨ws_5, hu_4, hP, hD⟩ := x_gen hg8 hP hD
            have h_6 : ws_5[kg + 8]? = some (ad (kg + 8), .inl (cI, 30, .inl (upd (FF 8) (rna).toNatClampNeg ((nI ta))))) := hu_4.1
            have h_7 := (hu_4.2 kg (by omega)).trans hg0
            have h_8 := (hu_4.2 (kg + 1) (by omega)).trans hg1
            have h_9 := (hu_4.2 (kg + 2) (by omega)).trans hg2
            have h_10 := (hu_4.2 (kg + 3) (by omega)).trans hg3
            have h_11 := (hu_4.2 (kg + 4) (by omega)).trans hg4
            have h_12 := (hu_4.2 (kg + 5) (by omega)).trans hg5
            have h_13 := (hu_4.2 (kg + 6) (by omega)).trans hg6
            have h_14 := (hu_4.2 (kg + 7) (by omega)).trans hg7
            have h_15 := (hu_4.2 k (by omega)).trans hRo
            refine lv_aload_n hx hb dG_noteNeedsOf_46 rfl (lv_at hl 3 rfl) ?_
            refine lv_iload hx hb dG_noteNeedsOf_47 (lv_at hl 0 rfl) ?_
            have hrow2 := hrow.keepF (hu_4.fr (a := kg + 8) (b := kg + 9) (by omega) (by omega)) (by omega)
            obtain ⟨f2, hR2⟩ := id hrow2
            have hC2 : GraphC cI ad ws_5 kg g (upd (FF 8) (rna).toNatClampNeg ((nI ta))) := ⟨setF FF 8 (upd (FF 8) (rna).toNatClampNeg ((nI ta))), ⟨h_7, h_8, h_9, h_10, h_11, h_12, h_13, h_14, h_6⟩, hRR.c8 _, rfl⟩
            refine x_callv (x_runV (n := 1) (As := [.int rna]) (rest := []) ⟨hx, hb, hml, hown, hts⟩ (cR_add l D tys A ws_5 cI hI ad k _ rna f2 hR2) tw_488 tw_451 tw_452 tw_7 tw_453 (by decide +kernel) rfl rfl ⟨by decide, by decide⟩ ⟨Nat.zero_le _, Nat.zero_le _⟩ (va_recv hK hP (ci := 2) (q0 := k) rfl h_15) hK hP hD hS hA hN rfl hl.1 rfl (lv_room (Nat.le_of_ble_eq_true rfl)) dG_noteNeedsOf_49) hS (fun ws_16 H locs hadd hP hD hS => ?_)
            obtain ⟨ht2, f9, hr2, -⟩ := hadd
            have hC3 := hC2.keep ht2.fr (by omega)
            refine lv_iinc (v := (nI (i + 1))) (lv' := [(3, .int (nI (i + 1))), (4, .int rna), (0, .ref (ad kg)), (1, .int (nI ta)), (2, .ref (ad k))]) hx hb dG_noteNeedsOf_52 hl (k := 4) rfl (nI_1 _) (by decide) rfl (fun ls hl => ?_)
            refine lv_goto (tgt := 2) hx hb dG_noteNeedsOf_55 (by decide) ?_
            exact ih (i + 1) (by omega) ws_16 _ _ _ (hT.tr (hu_4.nt.tr ht2.nt)) (by have e : noteL ta (L, cb) ((gD g ta).take (i + 1)) = ((noteL ta (L, cb) ((gD g ta).take i)).1 ++ [(gD g ta)[i]], upd (noteL ta (L, cb) ((gD g ta).take i)).2 (gD g ta)[i] (nI ta)) := (by rw [noteL_s _ _ _ hl9]; exact if_neg hx3); rw [e]; rw [hna, hx1, addI_nI _ hx2, if_neg hx3] at hr2; exact ⟨_, hr2⟩) (by have e : noteL ta (L, cb) ((gD g ta).take (i + 1)) = ((noteL ta (L, cb) ((gD g ta).take i)).1 ++ [(gD g ta)[i]], upd (noteL ta (L, cb) ((gD g ta).take i)).2 (gD g ta)[i] (nI ta)) := (by rw [noteL_s _ _ _ hl9]; exact if_neg hx3); rw [e]; rw [hna, hx1, nI_clamp (by omega), hc8] at hC3; exact hC3) (by omega) hP hD hS (lv_sub hl [2, 3, 4, 0] rfl)
  refine lv_iconst (v := 0) hx hb dG_noteNeedsOf_0 (by decide) ?_
  refine lv_istore_n (lv' := [(3, .int 0), (0, .ref (ad kg)), (1, .int (nI ta)), (2, .ref (ad k))]) hx hb dG_noteNeedsOf_1 rfl hl (by decide) rfl (fun ls hl => ?_)
  exact loop_2 _ 0 (Nat.zero_le _) ws _ _ _ x_nt.rf h hC (Nat.lt_succ_self _) hP hD hS (lv_sub hl [1, 2, 3, 0] rfl)
end
section
-- ===== way =====
def wayQ (g : Gr) (G : List Nat) : Nat → Nat → (List Nat × (Nat → Int32)) → Int32 × (Nat → Int32)
  | 0, _, x => (-1, x.2)
  | n + 1, i, x => if i < x.1.length then (if x.1.getD i 0 ∈ G then (nI (x.1.getD i 0), x.2) else wayQ g G n (i + 1) (noteL (x.1.getD i 0) x (gD g (x.1.getD i 0)))) else (-1, x.2)
def chain (cb : Nat → Int32) : Nat → Int32 → List Nat → List Nat
  | 0, _, M => M
  | n + 1, t, M => if blw t 30 = true then chain cb n (cb t.toInt.toNat) (addI M t) else M
def wayS (g : Gr) (L G : List Nat) (cb0 : Nat → Int32) : List Nat := (chain (wayQ g G 30 0 (L, cb0)).2 30 (wayQ g G 30 0 (L, cb0)).1 []).reverse
theorem wayQ_out {g : Gr} {G : List Nat} {n i : Nat} {x : List Nat × (Nat → Int32)} (h : x.1.length ≤ i) : wayQ g G n i x = (-1, x.2) := by
  cases n with
  | zero => rfl
  | succ n => exact if_neg (by omega)
theorem nI_nm1 {n : Nat} (h : n < 2 ^ 31) : ¬ nI n = -1 := by
  rw [i32_eq, nI_toInt h, show (-1 : Int32).toInt = -1 from rfl]; omega

set_option maxHeartbeats 4000000 in
set_option maxRecDepth 100000 in
/-- Graph.findWay(list, goals) -/
theorem cG_findWay (l : Launch) (D : va_G) (tys : List (ClassId × FieldType)) (A : Nat → Prop) (ws : va_W) (cI : ClassId) (hI : tys[0]? = some (cI, .int)) (ad : Nat → Nat) (kg k k2 : Nat) (hd : kg + 9 ≤ k) (hd2 : kg + 9 ≤ k2) (hd3 : k + 2 ≤ k2 ∨ k2 + 2 ≤ k) (g : Gr) (L G : List Nat) (hG : GraphAt cI ad ws kg g) (h : RowAt cI ad ws k L) (hGo : RowAt cI ad ws k2 G) : x_Mv l yG_findWay wG_findWay (xR 3) D xCl tys A [.ref (ad kg), .ref (ad k), .ref (ad k2)] ws (fun ws1 => x_nt kg k ws ws1 ∧ GraphAt cI ad ws1 kg g ∧ ∃ cb0 : Nat → Int32, (∀ x, x < 30 → cb0 x = -1) ∧ RowAt cI ad ws1 k (wayS g L G cb0)) := by
  obtain ⟨cb9, hC9⟩ := hG.c
  refine x_enter (by decide) rfl (Nat.le_of_ble_eq_true rfl) (fun p e s m args below meth c ls hx hb hr hlk hml hown hnm hts hK hP hD hS hA hN hl => ?_)
  have hl : lv_has ls 6 [(0, .ref (ad kg)), (1, .ref (ad k)), (2, .ref (ad k2))] := hl
  have loop_96 : ∀ (n : Nat) (cb0 cb : Nat → Int32) (e0 : Int32) (i : Nat) (tc : Int32) (M : List Nat) (hi : i ≤ 30) (ws1 : va_W) (H : Heap) (locs : List Loc) (ls : Array Slot), (∀ x, x < 30 → cb0 x = -1) → wayQ g G 30 0 (L, cb0) = (e0, cb) → chain cb (30 - i) tc M = chain cb 30 e0 [] → x_nt kg k ws ws1 → RowAt cI ad ws1 k M → GraphC cI ad ws1 kg g cb → 30 - i < n → va_P D xCl ws1 H → va_D A ws1 → va_S A s.heap H locs → lv_has ls 6 [(0, .ref (ad kg)), (1, .ref (ad k)), (4, .int tc), (5, .int (nI i))] → W p l e (xR 3) s m args below meth c H locs 0 0 (MQ below (va_Qv (fun ws1 => x_nt kg k ws ws1 ∧ GraphAt cI ad ws1 kg g ∧ ∃ cb0 : Nat → Int32, (∀ x, x < 30 → cb0 x = -1) ∧ RowAt cI ad ws1 k (wayS g L G cb0)) (x_B D xCl tys A) A) args s 0 0 A) (F0 m 96 ls []) := by
    intro n
    induction n with
    | zero => intro cb0 cb e0 i tc M hi ws1 H locs ls hcb0 hres hch hT hrow hC1 hme; exact absurd hme (Nat.not_lt_zero _)
    | succ n ih =>
      intro cb0 cb e0 i tc M hi ws1 H locs ls hcb0 hres hch hT hrow hC1 hme hP hD hS hl
      obtain ⟨fsR, hRo⟩ := hrow.obj
      obtain ⟨f2, hR2⟩ := id hrow
      obtain ⟨FF, ⟨hg0, hg1, hg2, hg3, hg4, hg5, hg6, hg7, hg8⟩, hRR, hc8⟩ := id hC1
      refine lv_iload hx hb dG_findWay_96 (lv_at hl 3 rfl) ?_
      refine lv_bipush (v := 30) hx hb dG_findWay_98 (by decide) ?_
      refine lv_icmp_ge (tgt := 137) hx hb dG_findWay_100 (by decide) (fun c100 => ?_) (fun c100 => ?_)
      · refine lv_aload_n hx hb dG_findWay_137 rfl (lv_at hl 1 rfl) ?_
        refine x_callv (x_runV (n := 0) (As := []) (rest := []) ⟨hx, hb, hml, hown, hts⟩ (cR_reverse l D tys A ws1 cI hI ad k _ hrow) tw_490 tw_491 tw_492 tw_7 tw_493 (by decide +kernel) rfl rfl ⟨by decide, by decide⟩ ⟨Nat.zero_le _, Nat.zero_le _⟩ (va_recv hK hP (ci := 2) (q0 := k) rfl hRo) hK hP hD hS hA hN rfl hl.1 rfl (lv_room (Nat.le_of_ble_eq_true rfl)) dG_findWay_138) hS (fun ws_1 H locs hrv hP hD hS => ?_)
        exact x_vret hx hb hr hlk hK hP hD hS dG_findWay_141 ⟨hT.tr hrv.1.nt, hC1.at.keep hrv.1.fr (by omega), cb0, hcb0, by have q2 := hrv.2; have e : 30 - i = 0 := (by have c100 : nI 30 ≤ nI i := c100; rw [nI_leI (by omega) (by omega)] at c100; omega); rw [e] at hch; unfold wayS; rw [hres, ← hch]; exact q2⟩
      · have hi2 : i < 30 := by have c100 : ¬ nI 30 ≤ nI i := c100; rw [nI_leI (by omega) (by omega)] at c100; omega
        refine lv_iload hx hb dG_findWay_103 (lv_at hl 2 rfl) ?_
        refine lv_aload_n hx hb dG_findWay_105 rfl (lv_at hl 0 rfl) ?_
        refine va_get (D := D) (cl := xCl) (ci := 0) (v := .ref (ad (kg + 8))) (C := rnG) (T := tbG) (N := 9) hx hb hts inG hown hK hP kg hg0 rfl 7 (by decide) (hts _ tw_36) (fun _ h9 => h9) rfl dG_findWay_106 ?_
        refine va_alen (v := 30) hx hb hK hP (kg + 8) 0 hg8 hI (by rfl) dG_findWay_109 ?_
        refine x_calli (x_runS (n := 2) (As := [.int tc, .int 30]) (rest := []) ⟨hx, hb, hml, hown, hts⟩ (cG_below l D tys A ws1 tc 30) tw_178 tw_179 tw_2 tw_180 (by decide +kernel) rfl rfl ⟨by decide, by decide⟩ ⟨Nat.zero_le _, Nat.zero_le _⟩ hK hP hD hS hA hN rfl hl.1 rfl (lv_room (Nat.le_of_ble_eq_true rfl)) dG_findWay_110) hS (fun rhb9 ws_2 H locs hb9 hP hD hS => ?_)
        obtain ⟨hb9, rfl⟩ := hb9
        refine lv_if_eq (tgt := 137) hx hb dG_findWay_113 (by decide) (fun c113 => ?_) (fun c113 => ?_)
        · refine lv_aload_n hx hb dG_findWay_137 rfl (lv_at hl 1 rfl) ?_
          refine x_callv (x_runV (n := 0) (As := []) (rest := []) ⟨hx, hb, hml, hown, hts⟩ (cR_reverse l D tys A ws1 cI hI ad k _ hrow) tw_490 tw_491 tw_492 tw_7 tw_493 (by decide +kernel) rfl rfl ⟨by decide, by decide⟩ ⟨Nat.zero_le _, Nat.zero_le _⟩ (va_recv hK hP (ci := 2) (q0 := k) rfl hRo) hK hP hD hS hA hN rfl hl.1 rfl (lv_room (Nat.le_of_ble_eq_true rfl)) dG_findWay_138) hS (fun ws_3 H locs hrv hP hD hS => ?_)
          exact x_vret hx hb hr hlk hK hP hD hS dG_findWay_141 ⟨hT.tr hrv.1.nt, hC1.at.keep hrv.1.fr (by omega), cb0, hcb0, by have q2 := hrv.2; rw [show 30 - i = (29 - i) + 1 by omega] at hch; have q : chain cb ((29 - i) + 1) tc M = M := if_neg (by rw [hb9, b2i_0] at c113; rw [c113]; decide); rw [q] at hch; unfold wayS; rw [hres, ← hch]; exact q2⟩
        · obtain ⟨tj, htj, etc⟩ := blw_of (n := 30) (by omega) hb9 c113
          refine lv_aload_n hx hb dG_findWay_116 rfl (lv_at hl 1 rfl) ?_
          refine lv_iload hx hb dG_findWay_117 (lv_at hl 2 rfl) ?_
          refine x_callv (x_runV (n := 1) (As := [.int tc]) (rest := []) ⟨hx, hb, hml, hown, hts⟩ (cR_add l D tys A ws1 cI hI ad k _ tc f2 hR2) tw_488 tw_451 tw_452 tw_7 tw_453 (by decide +kernel) rfl rfl ⟨by decide, by decide⟩ ⟨Nat.zero_le _, Nat.zero_le _⟩ (va_recv hK hP (ci := 2) (q0 := k) rfl hRo) hK hP hD hS hA hN rfl hl.1 rfl (lv_room (Nat.le_of_ble_eq_true rfl)) dG_findWay_119) hS (fun ws_4 H locs hadd hP hD hS => ?_)
          obtain ⟨ht2, f9, hr2, -⟩ := hadd
          have hC3 := hC1.keep ht2.fr (by omega)
          obtain ⟨FE, ⟨he0, he1, he2, he3, he4, he5, he6, he7, he8⟩, hRE, hce8⟩ := id hC3
          refine lv_aload_n hx hb dG_findWay_122 rfl (lv_at hl 0 rfl) ?_
          refine va_get (D := D) (cl := xCl) (ci := 0) (v := .ref (ad (kg + 8))) (C := rnG) (T := tbG) (N := 9) hx hb hts inG hown hK hP kg he0 rfl 7 (by decide) (hts _ tw_36) (fun _ h9 => h9) rfl dG_findWay_123 ?_
          refine lv_iload hx hb dG_findWay_126 (lv_at hl 2 rfl) ?_
          refine va_iald hx hb hK hP (kg + 8) 0 he8 hI (by rw [etc]; exact vp_in_nI (by omega) (by omega)) dG_findWay_128 ?_
          refine lv_topi (fun v_5 ev_5 => ?_)
          refine lv_istore (lv' := [(4, .int v_5), (0, .ref (ad kg)), (1, .ref (ad k)), (5, .int (nI i))]) hx hb dG_findWay_129 hl (by decide) rfl (fun ls hl => ?_)
          refine lv_iinc (v := (nI (i + 1))) (lv' := [(5, .int (nI (i + 1))), (4, .int v_5), (0, .ref (ad kg)), (1, .ref (ad k))]) hx hb dG_findWay_131 hl (k := 3) rfl (nI_1 _) (by decide) rfl (fun ls hl => ?_)
          refine lv_goto (tgt := 96) hx hb dG_findWay_134 (by decide) ?_
          exact ih cb0 cb e0 (i + 1) v_5 _ (by omega) ws_4 _ _ _ hcb0 hres (by rw [← hch, show 30 - i = (30 - (i + 1)) + 1 by omega]; have hbt : blw tc 30 = true := (by rw [hb9, b2i_n0] at c113; exact c113); show _ = if blw tc 30 = true then _ else _; rw [if_pos hbt, ev_5, hce8, etc, nI_clamp (by omega), nI_toInt (by omega)]; rfl) (hT.tr ht2.nt) ⟨_, hr2⟩ hC3 (by omega) hP hD hS (lv_sub hl [2, 3, 1, 0] rfl)
  have loop_29 : ∀ (n : Nat) (cb0 : Nat → Int32) (i : Nat) (e0 : Int32) (x : List Nat × (Nat → Int32)) (hi : i ≤ 30) (ws1 : va_W) (H : Heap) (locs : List Loc) (ls : Array Slot), (∀ x, x < 30 → cb0 x = -1) → (if e0 = -1 then wayQ g G (30 - i) i x else (e0, x.2)) = wayQ g G 30 0 (L, cb0) → x_nt kg k ws ws1 → RowAt cI ad ws1 k x.1 → GraphC cI ad ws1 kg g x.2 → RowAt cI ad ws1 k2 G → 30 - i < n → va_P D xCl ws1 H → va_D A ws1 → va_S A s.heap H locs → lv_has ls 6 [(0, .ref (ad kg)), (1, .ref (ad k)), (2, .ref (ad k2)), (3, .int e0), (4, .int (nI i))] → W p l e (xR 3) s m args below meth c H locs 0 0 (MQ below (va_Qv (fun ws1 => x_nt kg k ws ws1 ∧ GraphAt cI ad ws1 kg g ∧ ∃ cb0 : Nat → Int32, (∀ x, x < 30 → cb0 x = -1) ∧ RowAt cI ad ws1 k (wayS g L G cb0)) (x_B D xCl tys A) A) args s 0 0 A) (F0 m 29 ls []) := by
    intro n
    induction n with
    | zero => intro cb0 i e0 x hi ws1 H locs ls hcb0 hqu hT hrow hC1 hGo hme; exact absurd hme (Nat.not_lt_zero _)
    | succ n ih =>
      intro cb0 i e0 x hi ws1 H locs ls hcb0 hqu hT hrow hC1 hGo hme hP hD hS hl
      obtain ⟨fsR, hRo⟩ := hrow.obj
      obtain ⟨f2, hR2⟩ := id hrow
      obtain ⟨fsG, hGoo⟩ := hGo.obj
      obtain ⟨FF, ⟨hg0, hg1, hg2, hg3, hg4, hg5, hg6, hg7, hg8⟩, hRR, hc8⟩ := id hC1
      have hle9 := hrow.le
      refine lv_iload hx hb dG_findWay_29 (lv_at hl 4 rfl) ?_
      refine lv_bipush (v := 30) hx hb dG_findWay_31 (by decide) ?_
      refine lv_icmp_ge (tgt := 86) hx hb dG_findWay_33 (by decide) (fun c33 => ?_) (fun c33 => ?_)
      · have hRES : wayQ g G 30 0 (L, cb0) = (e0, x.2) := by have e : 30 - i = 0 := (by have c33 : nI 30 ≤ nI i := c33; rw [nI_leI (by omega) (by omega)] at c33; omega); rw [← hqu, e]; by_cases q : e0 = -1; (rw [if_pos q, q]; rfl); (rw [if_neg q])
        refine lv_aload_n hx hb dG_findWay_86 rfl (lv_at hl 1 rfl) ?_
        refine x_callv (x_runV (n := 0) (As := []) (rest := []) ⟨hx, hb, hml, hown, hts⟩ (cR_clear l D tys A ws1 cI hI ad k x.1 f2 hR2) tw_489 tw_435 tw_436 tw_7 tw_437 (by decide +kernel) rfl rfl ⟨by decide, by decide⟩ ⟨Nat.zero_le _, Nat.zero_le _⟩ (va_recv hK hP (ci := 2) (q0 := k) rfl hRo) hK hP hD hS hA hN rfl hl.1 rfl (lv_room (Nat.le_of_ble_eq_true rfl)) dG_findWay_87) hS (fun ws_6 H locs hcl hP hD hS => ?_)
        refine lv_iload_n hx hb dG_findWay_90 rfl (lv_at hl 3 rfl) ?_
        refine lv_istore (lv' := [(4, .int e0), (0, .ref (ad kg)), (1, .ref (ad k)), (2, .ref (ad k2)), (3, .int e0)]) hx hb dG_findWay_91 hl (by decide) rfl (fun ls hl => ?_)
        refine lv_iconst (v := 0) hx hb dG_findWay_93 (by decide) ?_
        refine lv_istore (lv' := [(5, .int 0), (4, .int e0), (0, .ref (ad kg)), (1, .ref (ad k)), (2, .ref (ad k2)), (3, .int e0)]) hx hb dG_findWay_94 hl (by decide) rfl (fun ls hl => ?_)
        exact loop_96 _ cb0 x.2 e0 0 e0 [] (Nat.zero_le _) ws_6 _ _ _ hcb0 hRES rfl (hT.tr hcl.1.nt) ⟨_, hcl.2⟩ (hC1.keep hcl.1.fr (by omega)) (Nat.lt_succ_self _) hP hD hS (lv_sub hl [2, 3, 1, 0] rfl)
      · refine lv_iload hx hb dG_findWay_36 (lv_at hl 4 rfl) ?_
        refine lv_aload_n hx hb dG_findWay_38 rfl (lv_at hl 1 rfl) ?_
        refine x_calli (x_runV (n := 0) (As := []) (rest := [.int (nI i)]) ⟨hx, hb, hml, hown, hts⟩ (cR_size l D tys A ws1 cI hI ad k _ hrow) tw_477 tw_443 tw_444 tw_7 tw_445 (by decide +kernel) rfl rfl ⟨by decide, by decide⟩ ⟨Nat.zero_le _, Nat.zero_le _⟩ (va_recv hK hP (ci := 2) (q0 := k) rfl hRo) hK hP hD hS hA hN rfl hl.1 rfl (lv_room (Nat.le_of_ble_eq_true rfl)) dG_findWay_39) hS (fun r_8 ws_7 H locs hz hP hD hS => ?_)
        obtain ⟨hz, rfl⟩ := hz
        refine lv_icmp_ge (tgt := 86) hx hb dG_findWay_42 (by decide) (fun c42 => ?_) (fun c42 => ?_)
        · have hRES : wayQ g G 30 0 (L, cb0) = (e0, x.2) := by rw [← hqu, wayQ_out (by rw [hz, nI_leI (by omega) (by omega)] at c42; exact c42)]; by_cases q : e0 = -1; (rw [if_pos q, q]); (rw [if_neg q])
          refine lv_aload_n hx hb dG_findWay_86 rfl (lv_at hl 1 rfl) ?_
          refine x_callv (x_runV (n := 0) (As := []) (rest := []) ⟨hx, hb, hml, hown, hts⟩ (cR_clear l D tys A ws1 cI hI ad k x.1 f2 hR2) tw_489 tw_435 tw_436 tw_7 tw_437 (by decide +kernel) rfl rfl ⟨by decide, by decide⟩ ⟨Nat.zero_le _, Nat.zero_le _⟩ (va_recv hK hP (ci := 2) (q0 := k) rfl hRo) hK hP hD hS hA hN rfl hl.1 rfl (lv_room (Nat.le_of_ble_eq_true rfl)) dG_findWay_87) hS (fun ws_9 H locs hcl hP hD hS => ?_)
          refine lv_iload_n hx hb dG_findWay_90 rfl (lv_at hl 3 rfl) ?_
          refine lv_istore (lv' := [(4, .int e0), (0, .ref (ad kg)), (1, .ref (ad k)), (2, .ref (ad k2)), (3, .int e0)]) hx hb dG_findWay_91 hl (by decide) rfl (fun ls hl => ?_)
          refine lv_iconst (v := 0) hx hb dG_findWay_93 (by decide) ?_
          refine lv_istore (lv' := [(5, .int 0), (4, .int e0), (0, .ref (ad kg)), (1, .ref (ad k)), (2, .ref (ad k2)), (3, .int e0)]) hx hb dG_findWay_94 hl (by decide) rfl (fun ls hl => ?_)
          exact loop_96 _ cb0 x.2 e0 0 e0 [] (Nat.zero_le _) ws_9 _ _ _ hcb0 hRES rfl (hT.tr hcl.1.nt) ⟨_, hcl.2⟩ (hC1.keep hcl.1.fr (by omega)) (Nat.lt_succ_self _) hP hD hS (lv_sub hl [2, 3, 1, 0] rfl)
        · refine lv_iload_n hx hb dG_findWay_45 rfl (lv_at hl 3 rfl) ?_
          refine lv_iconst (v := (-1)) hx hb dG_findWay_46 (by decide) ?_
          refine lv_icmp_ne (tgt := 86) hx hb dG_findWay_47 (by decide) (fun c47 => ?_) (fun c47 => ?_)
          · have hRES : wayQ g G 30 0 (L, cb0) = (e0, x.2) := by rw [← hqu, if_neg c47]
            refine lv_aload_n hx hb dG_findWay_86 rfl (lv_at hl 1 rfl) ?_
            refine x_callv (x_runV (n := 0) (As := []) (rest := []) ⟨hx, hb, hml, hown, hts⟩ (cR_clear l D tys A ws1 cI hI ad k x.1 f2 hR2) tw_489 tw_435 tw_436 tw_7 tw_437 (by decide +kernel) rfl rfl ⟨by decide, by decide⟩ ⟨Nat.zero_le _, Nat.zero_le _⟩ (va_recv hK hP (ci := 2) (q0 := k) rfl hRo) hK hP hD hS hA hN rfl hl.1 rfl (lv_room (Nat.le_of_ble_eq_true rfl)) dG_findWay_87) hS (fun ws_10 H locs hcl hP hD hS => ?_)
            refine lv_iload_n hx hb dG_findWay_90 rfl (lv_at hl 3 rfl) ?_
            refine lv_istore (lv' := [(4, .int e0), (0, .ref (ad kg)), (1, .ref (ad k)), (2, .ref (ad k2)), (3, .int e0)]) hx hb dG_findWay_91 hl (by decide) rfl (fun ls hl => ?_)
            refine lv_iconst (v := 0) hx hb dG_findWay_93 (by decide) ?_
            refine lv_istore (lv' := [(5, .int 0), (4, .int e0), (0, .ref (ad kg)), (1, .ref (ad k)), (2, .ref (ad k2)), (3, .int e0)]) hx hb dG_findWay_94 hl (by decide) rfl (fun ls hl => ?_)
            exact loop_96 _ cb0 x.2 e0 0 e0 [] (Nat.zero_le _) ws_10 _ _ _ hcb0 hRES rfl (hT.tr hcl.1.nt) ⟨_, hcl.2⟩ (hC1.keep hcl.1.fr (by omega)) (Nat.lt_succ_self _) hP hD hS (lv_sub hl [2, 3, 1, 0] rfl)
          · have hi2 : i < x.1.length := by rw [hz, nI_leI (by omega) (by omega)] at c42; omega
            have hi30 : i < 30 := by omega
            have hq3 : x.1[i] < 30 := hrow.lt _ (List.getElem_mem hi2)
            rw [if_pos c47, show 30 - i = (30 - (i + 1)) + 1 by omega] at hqu
            have hqe : x.1.getD i 0 = x.1[i] := by simp [hi2]
            refine lv_aload_n hx hb dG_findWay_50 rfl (lv_at hl 1 rfl) ?_
            refine lv_iload hx hb dG_findWay_51 (lv_at hl 4 rfl) ?_
            refine x_calli (x_runV (n := 1) (As := [.int (nI i)]) (rest := []) ⟨hx, hb, hml, hown, hts⟩ (cR_at l D tys A ws1 cI hI ad k _ ((nI i)) hrow) tw_478 tw_447 tw_448 tw_7 tw_449 (by decide +kernel) rfl rfl ⟨by decide, by decide⟩ ⟨Nat.zero_le _, Nat.zero_le _⟩ (va_recv hK hP (ci := 2) (q0 := k) rfl hRo) hK hP hD hS hA hN rfl hl.1 rfl (lv_room (Nat.le_of_ble_eq_true rfl)) dG_findWay_53) hS (fun rat ws_11 H locs hat hP hD hS => ?_)
            obtain ⟨hat, rfl⟩ := hat
            obtain rfl : rat = nI x.1[i] := by rw [hat, atI_nI hi2 (by omega)]
            refine lv_istore (lv' := [(5, .int (nI x.1[i])), (0, .ref (ad kg)), (1, .ref (ad k)), (2, .ref (ad k2)), (3, .int e0), (4, .int (nI i))]) hx hb dG_findWay_56 hl (by decide) rfl (fun ls hl => ?_)
            refine lv_aload_n hx hb dG_findWay_58 rfl (lv_at hl 3 rfl) ?_
            refine lv_iload hx hb dG_findWay_59 (lv_at hl 0 rfl) ?_
            refine x_calli (x_runV (n := 1) (As := [.int (nI x.1[i])]) (rest := []) ⟨hx, hb, hml, hown, hts⟩ (cR_has l D tys A ws1 cI hI ad k2 G ((nI x.1[i])) hGo) tw_479 tw_480 tw_481 tw_7 tw_482 (by decide +kernel) rfl rfl ⟨by decide, by decide⟩ ⟨Nat.zero_le _, Nat.zero_le _⟩ (va_recv hK hP (ci := 2) (q0 := k2) rfl hGoo) hK hP hD hS hA hN rfl hl.1 rfl (lv_room (Nat.le_of_ble_eq_true rfl)) dG_findWay_61) hS (fun rhs ws_12 H locs hhs hP hD hS => ?_)
            obtain ⟨hhs, rfl⟩ := hhs
            refine lv_if_eq (tgt := 73) hx hb dG_findWay_64 (by decide) (fun c64 => ?_) (fun c64 => ?_)
            · refine lv_aload_n hx hb dG_findWay_73 rfl (lv_at hl 1 rfl) ?_
              refine lv_iload hx hb dG_findWay_74 (lv_at hl 0 rfl) ?_
              refine lv_aload_n hx hb dG_findWay_76 rfl (lv_at hl 2 rfl) ?_
              refine x_callv (x_runV (n := 2) (As := [.int (nI x.1[i]), .ref (ad k)]) (rest := []) ⟨hx, hb, hml, hown, hts⟩ (cG_noteNeedsOf l D tys A ws1 cI hI ad kg k hd g x.1 x.1[i] hq3 x.2 hC1 hrow) tw_483 tw_485 ts_G_noteNeedsOf tw_2 tw_486 (by decide +kernel) rfl rfl ⟨by decide, by decide⟩ ⟨Nat.zero_le _, Nat.zero_le _⟩ (va_recv hK hP (ci := 0) (q0 := kg) rfl hg0) hK hP hD hS hA hN rfl hl.1 rfl (lv_room (Nat.le_of_ble_eq_true rfl)) dG_findWay_77) hS (fun ws_13 H locs hnt hP hD hS => ?_)
              refine lv_iinc (v := (nI (i + 1))) (lv' := [(4, .int (nI (i + 1))), (5, .int (nI x.1[i])), (0, .ref (ad kg)), (1, .ref (ad k)), (2, .ref (ad k2)), (3, .int e0)]) hx hb dG_findWay_80 hl (k := 5) rfl (nI_1 _) (by decide) rfl (fun ls hl => ?_)
              refine lv_goto (tgt := 29) hx hb dG_findWay_83 (by decide) ?_
              exact ih cb0 (i + 1) e0 (noteL x.1[i] x (gD g x.1[i])) (by omega) ws_13 _ _ _ hcb0 (by rw [hhs, hasI_nI _ hq3, b2i_0, decide_eq_false_iff_not] at c64; rw [if_pos c47, ← hqu]; show _ = if i < x.1.length then _ else _; rw [if_pos hi2, hqe, if_neg c64]) (hT.tr hnt.1) hnt.2.1 hnt.2.2 (hGo.keepN hnt.1 hd2 (by omega)) (by omega) hP hD hS (lv_sub hl [2, 3, 4, 5, 0] rfl)
            · refine lv_iload hx hb dG_findWay_67 (lv_at hl 0 rfl) ?_
              refine lv_istore_n (lv' := [(3, .int (nI x.1[i])), (5, .int (nI x.1[i])), (0, .ref (ad kg)), (1, .ref (ad k)), (2, .ref (ad k2)), (4, .int (nI i))]) hx hb dG_findWay_69 rfl hl (by decide) rfl (fun ls hl => ?_)
              refine lv_goto (tgt := 80) hx hb dG_findWay_70 (by decide) ?_
              refine lv_iinc (v := (nI (i + 1))) (lv' := [(4, .int (nI (i + 1))), (3, .int (nI x.1[i])), (5, .int (nI x.1[i])), (0, .ref (ad kg)), (1, .ref (ad k)), (2, .ref (ad k2))]) hx hb dG_findWay_80 hl (k := 5) rfl (nI_1 _) (by decide) rfl (fun ls hl => ?_)
              refine lv_goto (tgt := 29) hx hb dG_findWay_83 (by decide) ?_
              exact ih cb0 (i + 1) (nI x.1[i]) x (by omega) ws1 _ _ _ hcb0 (by rw [hhs, hasI_nI _ hq3, b2i_n0, decide_eq_true_eq] at c64; rw [if_neg (nI_nm1 (by omega)), ← hqu]; show _ = if i < x.1.length then _ else _; rw [if_pos hi2, hqe, if_pos c64]) hT hrow hC1 hGo (by omega) hP hD hS (lv_sub hl [3, 4, 5, 1, 0] rfl)
  have loop_2 : ∀ (n : Nat) (cb : Nat → Int32) (i : Nat) (hi : i ≤ 30) (ws1 : va_W) (H : Heap) (locs : List Loc) (ls : Array Slot), (∀ x, x < i → cb x = -1) → x_nt kg k ws ws1 → RowAt cI ad ws1 k L → GraphC cI ad ws1 kg g cb → RowAt cI ad ws1 k2 G → 30 - i < n → va_P D xCl ws1 H → va_D A ws1 → va_S A s.heap H locs → lv_has ls 6 [(0, .ref (ad kg)), (1, .ref (ad k)), (2, .ref (ad k2)), (3, .int (nI i))] → W p l e (xR 3) s m args below meth c H locs 0 0 (MQ below (va_Qv (fun ws1 => x_nt kg k ws ws1 ∧ GraphAt cI ad ws1 kg g ∧ ∃ cb0 : Nat → Int32, (∀ x, x < 30 → cb0 x = -1) ∧ RowAt cI ad ws1 k (wayS g L G cb0)) (x_B D xCl tys A) A) args s 0 0 A) (F0 m 2 ls []) := by
    intro n
    induction n with
    | zero => intro cb i hi ws1 H locs ls hcb hT hrow hC1 hGo hme; exact absurd hme (Nat.not_lt_zero _)
    | succ n ih =>
      intro cb i hi ws1 H locs ls hcb hT hrow hC1 hGo hme hP hD hS hl
      obtain ⟨FF, ⟨hg0, hg1, hg2, hg3, hg4, hg5, hg6, hg7, hg8⟩, hRR, hc8⟩ := id hC1
      refine lv_iload_n hx hb dG_findWay_2 rfl (lv_at hl 3 rfl) ?_
      refine lv_aload_n hx hb dG_findWay_3 rfl (lv_at hl 0 rfl) ?_
      refine va_get (D := D) (cl := xCl) (ci := 0) (v := .ref (ad (kg + 8))) (C := rnG) (T := tbG) (N := 9) hx hb hts inG hown hK hP kg hg0 rfl 7 (by decide) (hts _ tw_36) (fun _ h9 => h9) rfl dG_findWay_4 ?_
      refine va_alen (v := 30) hx hb hK hP (kg + 8) 0 hg8 hI (by rfl) dG_findWay_7 ?_
      refine lv_icmp_ge (tgt := 24) hx hb dG_findWay_8 (by decide) (fun c8 => ?_) (fun c8 => ?_)
      · refine lv_iconst (v := (-1)) hx hb dG_findWay_24 (by decide) ?_
        refine lv_istore_n (lv' := [(3, .int (-1)), (0, .ref (ad kg)), (1, .ref (ad k)), (2, .ref (ad k2))]) hx hb dG_findWay_25 rfl hl (by decide) rfl (fun ls hl => ?_)
        refine lv_iconst (v := 0) hx hb dG_findWay_26 (by decide) ?_
        refine lv_istore (lv' := [(4, .int 0), (3, .int (-1)), (0, .ref (ad kg)), (1, .ref (ad k)), (2, .ref (ad k2))]) hx hb dG_findWay_27 hl (by decide) rfl (fun ls hl => ?_)
        exact loop_29 _ cb 0 (-1) (L, cb) (Nat.zero_le _) ws1 _ _ _ (fun x hx => hcb x (by have c8 : nI 30 ≤ nI i := c8; rw [nI_leI (by omega) (by omega)] at c8; omega)) rfl hT hrow hC1 hGo (Nat.lt_succ_self _) hP hD hS (lv_sub hl [2, 3, 4, 1, 0] rfl)
      · have hi2 : i < 30 := by have c8 : ¬ nI 30 ≤ nI i := c8; rw [nI_leI (by omega) (by omega)] at c8; omega
        refine lv_aload_n hx hb dG_findWay_11 rfl (lv_at hl 0 rfl) ?_
        refine va_get (D := D) (cl := xCl) (ci := 0) (v := .ref (ad (kg + 8))) (C := rnG) (T := tbG) (N := 9) hx hb hts inG hown hK hP kg hg0 rfl 7 (by decide) (hts _ tw_36) (fun _ h9 => h9) rfl dG_findWay_12 ?_
        refine lv_iload_n hx hb dG_findWay_15 rfl (lv_at hl 3 rfl) ?_
        refine lv_iconst (v := (-1)) hx hb dG_findWay_16 (by decide) ?_
        refine va_iast hx hb hK hP hD hS (kg + 8) 0 hg8 hI (vp_in_nI (by omega) (by omega)) dG_findWay_17 (fun H locs hP hD hS => ?_)
        obtain ⟨ws_15, hu_14, hP, hD⟩ := x_gen hg8 hP hD
        have h_16 : ws_15[kg + 8]? = some (ad (kg + 8), .inl (cI, 30, .inl (upd (FF 8) ((nI i)).toNatClampNeg ((-1))))) := hu_14.1
        have h_17 := (hu_14.2 kg (by omega)).trans hg0
        have h_18 := (hu_14.2 (kg + 1) (by omega)).trans hg1
        have h_19 := (hu_14.2 (kg + 2) (by omega)).trans hg2
        have h_20 := (hu_14.2 (kg + 3) (by omega)).trans hg3
        have h_21 := (hu_14.2 (kg + 4) (by omega)).trans hg4
        have h_22 := (hu_14.2 (kg + 5) (by omega)).trans hg5
        have h_23 := (hu_14.2 (kg + 6) (by omega)).trans hg6
        have h_24 := (hu_14.2 (kg + 7) (by omega)).trans hg7
        refine lv_iinc (v := (nI (i + 1))) (lv' := [(3, .int (nI (i + 1))), (0, .ref (ad kg)), (1, .ref (ad k)), (2, .ref (ad k2))]) hx hb dG_findWay_18 hl (k := 3) rfl (nI_1 _) (by decide) rfl (fun ls hl => ?_)
        refine lv_goto (tgt := 2) hx hb dG_findWay_21 (by decide) ?_
        exact ih (upd (FF 8) ((nI i)).toNatClampNeg ((-1))) (i + 1) (by omega) ws_15 _ _ _ (fun x hx => by rw [nI_clamp (by omega)]; unfold upd; by_cases e : x = i; (rw [if_pos e]); (rw [if_neg e, hc8]; exact hcb x (by omega))) (hT.tr hu_14.nt) (hrow.keepF (hu_14.fr (a := kg + 8) (b := kg + 9) (by omega) (by omega)) (by omega)) ⟨setF FF 8 (upd (FF 8) ((nI i)).toNatClampNeg ((-1))), ⟨h_17, h_18, h_19, h_20, h_21, h_22, h_23, h_24, h_16⟩, hRR.c8 _, rfl⟩ (hGo.keepF (hu_14.fr (a := kg + 8) (b := kg + 9) (by omega) (by omega)) (by omega)) (by omega) hP hD hS (lv_sub hl [1, 2, 3, 0] rfl)
  refine lv_iconst (v := 0) hx hb dG_findWay_0 (by decide) ?_
  refine lv_istore_n (lv' := [(3, .int 0), (0, .ref (ad kg)), (1, .ref (ad k)), (2, .ref (ad k2))]) hx hb dG_findWay_1 rfl hl (by decide) rfl (fun ls hl => ?_)
  exact loop_2 _ cb9 0 (Nat.zero_le _) ws _ _ _ (fun x hx => absurd hx (Nat.not_lt_zero x)) x_nt.rf h hC9 hGo (Nat.lt_succ_self _) hP hD hS (lv_sub hl [1, 2, 3, 0] rfl)
end
section
-- ===== nearest =====
def dst (i w : Nat) : Nat := if w ≤ i then i - w else w - i
/-- among the names a + i * st, i below n: the one whose i is nearest to w (of like ones the lesser), and how near -/
def clo (g : Gr) (a st w pl : Nat) : Nat → Int32 × Nat
  | 0 => (-1, pl)
  | i + 1 => if gNo g (a + i * st) ≠ -1 ∧ dst i w < (clo g a st w pl i).2 then (gNo g (a + i * st), dst i w) else clo g a st w pl i
theorem clo_no {g : Gr} {a st w pl i : Nat} (h : ¬ (gNo g (a + i * st) ≠ -1 ∧ dst i w < (clo g a st w pl i).2)) : clo g a st w pl (i + 1) = clo g a st w pl i := if_neg h
theorem clo_yes {g : Gr} {a st w pl i : Nat} (h : gNo g (a + i * st) ≠ -1 ∧ dst i w < (clo g a st w pl i).2) : clo g a st w pl (i + 1) = (gNo g (a + i * st), dst i w) := if_pos h
theorem dst_abs {i w : Nat} (hi : i < 100) (hw : w < 100) : (if 0 ≤ nI i - nI w then nI i - nI w else 0 - (nI i - nI w)) = nI (dst i w) := by
  have e1 := pk_sub_toInt (a := i) (b := w) (by omega) (by omega)
  unfold dst
  by_cases h : w ≤ i
  · rw [if_pos h, if_pos (by rw [i32_le, e1, i32_0]; omega), pk_sub h]
  · rw [if_neg h, if_neg (by rw [i32_le, e1, i32_0]; omega), i32_eq, nI_toInt (by omega), Int32.toInt_sub, e1, i32_0, Int.bmod_eq_of_le (by omega) (by omega)]
    omega

set_option maxHeartbeats 4000000 in
set_option maxRecDepth 100000 in
/-- Graph.closest(first, stride, places, wanted) -/
theorem cG_closest (l : Launch) (D : va_G) (tys : List (ClassId × FieldType)) (A : Nat → Prop) (ws : va_W) (cI : ClassId) (hI : tys[0]? = some (cI, .int)) (ad : Nat → Nat) (kg : Nat) (g : Gr) (a st pl w : Nat) (hpl : pl ≤ 10) (hw : w < 60) (hall : ∀ i, i < pl → a + i * st < 60) (hG : GraphAt cI ad ws kg g) : x_Mi l yG_closest wG_closest (xR 2) D xCl tys A [.ref (ad kg), .int (nI a), .int (nI st), .int (nI pl), .int (nI w)] ws (fun r ws1 => r = (clo g a st w pl pl).1 ∧ ws = ws1) := by
  obtain ⟨fsG, hgo⟩ := hG.obj
  refine x_enter (by decide) rfl (Nat.le_of_ble_eq_true rfl) (fun p e s m args below meth c ls hx hb hr hlk hml hown hnm hts hK hP hD hS hA hN hl => ?_)
  have hl : lv_has ls 9 [(0, .ref (ad kg)), (1, .int (nI a)), (2, .int (nI st)), (3, .int (nI pl)), (4, .int (nI w))] := hl
  have loop_9 : ∀ (n : Nat) (i : Nat) (f0 : Int32) (g0 : Nat) (hi : i ≤ pl) (ws1 : va_W) (H : Heap) (locs : List Loc) (ls : Array Slot), f0 = (clo g a st w pl i).1 → g0 = (clo g a st w pl i).2 → g0 < 100 → ws = ws1 → pl - i < n → va_P D xCl ws1 H → va_D A ws1 → va_S A s.heap H locs → lv_has ls 9 [(0, .ref (ad kg)), (1, .int (nI a)), (2, .int (nI st)), (3, .int (nI pl)), (4, .int (nI w)), (5, .int f0), (6, .int (nI g0)), (7, .int (nI i))] → W p l e (xR 2) s m args below meth c H locs 0 0 (MQ below (va_Qi (fun r ws1 => r = (clo g a st w pl pl).1 ∧ ws = ws1) (x_B D xCl tys A) A) args s 0 0 A) (F0 m 9 ls []) := by
    intro n
    induction n with
    | zero => intro i f0 g0 hi ws1 H locs ls hst1 hst2 hg0 hws hme; exact absurd hme (Nat.not_lt_zero _)
    | succ n ih =>
      intro i f0 g0 hi ws1 H locs ls hst1 hst2 hg0 hws hme hP hD hS hl
      subst hws
      refine lv_iload hx hb dG_closest_9 (lv_at hl 7 rfl) ?_
      refine lv_iload_n hx hb dG_closest_11 rfl (lv_at hl 3 rfl) ?_
      refine lv_icmp_ge (tgt := 66) hx hb dG_closest_12 (by decide) (fun c12 => ?_) (fun c12 => ?_)
      · refine lv_iload hx hb dG_closest_66 (lv_at hl 5 rfl) ?_
        exact x_iret hx hb hr hlk hK hP hD hS dG_closest_68 ⟨by rw [hst1]; have e : i = pl := (by rw [nI_leI (by omega) (by omega)] at c12; omega); rw [e], rfl⟩
      · have hi2 : i < pl := by rw [nI_leI (by omega) (by omega)] at c12; omega
        refine lv_aload_n hx hb dG_closest_15 rfl (lv_at hl 0 rfl) ?_
        refine lv_iload_n hx hb dG_closest_16 rfl (lv_at hl 1 rfl) ?_
        refine lv_iload hx hb dG_closest_17 (lv_at hl 7 rfl) ?_
        refine lv_iload_n hx hb dG_closest_19 rfl (lv_at hl 2 rfl) ?_
        refine lv_imul hx hb dG_closest_20 ?_
        refine lv_topi (fun v_1 ev_1 => ?_)
        refine lv_iadd hx hb dG_closest_21 ?_
        refine lv_topi (fun v_2 ev_2 => ?_)
        obtain rfl : v_2 = nI (a + i * st) := by rw [ev_2, ev_1, pk_mul, nI_add]
        refine x_calli (x_runV (n := 1) (As := [.int (nI (a + i * st))]) (rest := []) ⟨hx, hb, hml, hown, hts⟩ (cG_numberOf l D tys A ws cI hI ad kg g ((nI (a + i * st))) hG) tw_577 tw_406 tw_407 tw_2 tw_408 (by decide +kernel) rfl rfl ⟨by decide, by decide⟩ ⟨Nat.zero_le _, Nat.zero_le _⟩ (va_recv hK hP (ci := 0) (q0 := kg) rfl hgo) hK hP hD hS hA hN rfl hl.1 rfl (lv_room (Nat.le_of_ble_eq_true rfl)) dG_closest_22) hS (fun rnu ws_3 H locs hnu hP hD hS => ?_)
        obtain ⟨hnu, rfl⟩ := hnu
        refine lv_istore (lv' := [(8, .int rnu), (0, .ref (ad kg)), (1, .int (nI a)), (2, .int (nI st)), (3, .int (nI pl)), (4, .int (nI w)), (5, .int f0), (6, .int (nI g0)), (7, .int (nI i))]) hx hb dG_closest_25 hl (by decide) rfl (fun ls hl => ?_)
        refine lv_iload hx hb dG_closest_27 (lv_at hl 0 rfl) ?_
        refine lv_iconst (v := (-1)) hx hb dG_closest_29 (by decide) ?_
        refine lv_icmp_eq (tgt := 60) hx hb dG_closest_30 (by decide) (fun c30 => ?_) (fun c30 => ?_)
        · refine lv_iinc (v := (nI (i + 1))) (lv' := [(7, .int (nI (i + 1))), (8, .int rnu), (0, .ref (ad kg)), (1, .int (nI a)), (2, .int (nI st)), (3, .int (nI pl)), (4, .int (nI w)), (5, .int f0), (6, .int (nI g0))]) hx hb dG_closest_60 hl (k := 8) rfl (nI_1 _) (by decide) rfl (fun ls hl => ?_)
          refine lv_goto (tgt := 9) hx hb dG_closest_63 (by decide) ?_
          exact ih (i + 1) f0 g0 (by omega) ws _ _ _ (by rw [hnu, gNoI_nI g (hall i hi2)] at c30; rw [clo_no (fun hc => hc.1 c30)]; exact hst1) (by rw [hnu, gNoI_nI g (hall i hi2)] at c30; rw [clo_no (fun hc => hc.1 c30)]; exact hst2) (by omega) rfl (by omega) hP hD hS (lv_sub hl [2, 3, 4, 5, 6, 7, 8, 0] rfl)
        · refine lv_iload hx hb dG_closest_33 (lv_at hl 8 rfl) ?_
          refine lv_iload hx hb dG_closest_35 (lv_at hl 5 rfl) ?_
          refine lv_isub hx hb dG_closest_37 ?_
          refine lv_topi (fun v_4 ev_4 => ?_)
          refine va_mabs hx hb (by rw [hml]; exact hl.1.symm) hown (hts _ tw_578) (hts _ tw_579) (hts _ tw_13) (hts _ tw_580) (by decide) (Nat.le_of_ble_eq_true rfl) (Nat.zero_le _) (Nat.zero_le _) dG_closest_38 ?_
          refine lv_topi (fun v_5 ev_5 => ?_)
          obtain rfl : v_5 = nI (dst i w) := by rw [ev_5, ev_4]; exact dst_abs (by omega) (by omega)
          refine lv_iload hx hb dG_closest_41 (lv_at hl 7 rfl) ?_
          refine lv_icmp_ge (tgt := 60) hx hb dG_closest_43 (by decide) (fun c43 => ?_) (fun c43 => ?_)
          · refine lv_iinc (v := (nI (i + 1))) (lv' := [(7, .int (nI (i + 1))), (8, .int rnu), (0, .ref (ad kg)), (1, .int (nI a)), (2, .int (nI st)), (3, .int (nI pl)), (4, .int (nI w)), (5, .int f0), (6, .int (nI g0))]) hx hb dG_closest_60 hl (k := 8) rfl (nI_1 _) (by decide) rfl (fun ls hl => ?_)
            refine lv_goto (tgt := 9) hx hb dG_closest_63 (by decide) ?_
            exact ih (i + 1) f0 g0 (by omega) ws _ _ _ (by rw [nI_leI (by omega) (by unfold dst; split <;> omega)] at c43; rw [clo_no (fun hc => by have := hc.2; omega)]; exact hst1) (by rw [nI_leI (by omega) (by unfold dst; split <;> omega)] at c43; rw [clo_no (fun hc => by have := hc.2; omega)]; exact hst2) (by omega) rfl (by omega) hP hD hS (lv_sub hl [2, 3, 4, 5, 6, 7, 8, 0] rfl)
          · refine lv_iload hx hb dG_closest_46 (lv_at hl 0 rfl) ?_
            refine lv_istore (lv' := [(5, .int rnu), (8, .int rnu), (0, .ref (ad kg)), (1, .int (nI a)), (2, .int (nI st)), (3, .int (nI pl)), (4, .int (nI w)), (6, .int (nI g0)), (7, .int (nI i))]) hx hb dG_closest_48 hl (by decide) rfl (fun ls hl => ?_)
            refine lv_iload hx hb dG_closest_50 (lv_at hl 8 rfl) ?_
            refine lv_iload hx hb dG_closest_52 (lv_at hl 6 rfl) ?_
            refine lv_isub hx hb dG_closest_54 ?_
            refine lv_topi (fun v_6 ev_6 => ?_)
            refine va_mabs hx hb (by rw [hml]; exact hl.1.symm) hown (hts _ tw_578) (hts _ tw_579) (hts _ tw_13) (hts _ tw_580) (by decide) (Nat.le_of_ble_eq_true rfl) (Nat.zero_le _) (Nat.zero_le _) dG_closest_55 ?_
            refine lv_topi (fun v_7 ev_7 => ?_)
            obtain rfl : v_7 = nI (dst i w) := by rw [ev_7, ev_6]; exact dst_abs (by omega) (by omega)
            refine lv_istore (lv' := [(6, .int (nI (dst i w))), (5, .int rnu), (8, .int rnu), (0, .ref (ad kg)), (1, .int (nI a)), (2, .int (nI st)), (3, .int (nI pl)), (4, .int (nI w)), (7, .int (nI i))]) hx hb dG_closest_58 hl (by decide) rfl (fun ls hl => ?_)
            refine lv_iinc (v := (nI (i + 1))) (lv' := [(7, .int (nI (i + 1))), (6, .int (nI (dst i w))), (5, .int rnu), (8, .int rnu), (0, .ref (ad kg)), (1, .int (nI a)), (2, .int (nI st)), (3, .int (nI pl)), (4, .int (nI w))]) hx hb dG_closest_60 hl (k := 8) rfl (nI_1 _) (by decide) rfl (fun ls hl => ?_)
            refine lv_goto (tgt := 9) hx hb dG_closest_63 (by decide) ?_
            exact ih (i + 1) rnu (dst i w) (by omega) ws _ _ _ (by rw [hnu, gNoI_nI g (hall i hi2)] at c30; rw [nI_leI (by omega) (by unfold dst; split <;> omega)] at c43; rw [clo_yes ⟨c30, by omega⟩]; rw [hnu, gNoI_nI g (hall i hi2)]) (by rw [hnu, gNoI_nI g (hall i hi2)] at c30; rw [nI_leI (by omega) (by unfold dst; split <;> omega)] at c43; rw [clo_yes ⟨c30, by omega⟩]) (by unfold dst; split <;> omega) rfl (by omega) hP hD hS (lv_sub hl [4, 5, 6, 7, 8, 2, 1, 0] rfl)
  refine lv_iconst (v := (-1)) hx hb dG_closest_0 (by decide) ?_
  refine lv_istore (lv' := [(5, .int (-1)), (0, .ref (ad kg)), (1, .int (nI a)), (2, .int (nI st)), (3, .int (nI pl)), (4, .int (nI w))]) hx hb dG_closest_1 hl (by decide) rfl (fun ls hl => ?_)
  refine lv_iload_n hx hb dG_closest_3 rfl (lv_at hl 4 rfl) ?_
  refine lv_istore (lv' := [(6, .int (nI pl)), (5, .int (-1)), (0, .ref (ad kg)), (1, .int (nI a)), (2, .int (nI st)), (3, .int (nI pl)), (4, .int (nI w))]) hx hb dG_closest_4 hl (by decide) rfl (fun ls hl => ?_)
  refine lv_iconst (v := 0) hx hb dG_closest_6 (by decide) ?_
  refine lv_istore (lv' := [(7, .int 0), (6, .int (nI pl)), (5, .int (-1)), (0, .ref (ad kg)), (1, .int (nI a)), (2, .int (nI st)), (3, .int (nI pl)), (4, .int (nI w))]) hx hb dG_closest_7 hl (by decide) rfl (fun ls hl => ?_)
  exact loop_9 _ 0 (-1) pl (Nat.zero_le _) ws _ _ _ rfl rfl (by omega) rfl (Nat.lt_succ_self _) hP hD hS (lv_sub hl [3, 4, 5, 6, 7, 2, 1, 0] rfl)

/-- promise 8: the target whose name is nearest to v -/
def nearN (g : Gr) (v : Nat) : Int32 := if (clo g (v / 10 * 10) 1 (v % 10) 10 10).1 = -1 then (clo g (v % 10) 10 (v / 10) 6 6).1 else (clo g (v / 10 * 10) 1 (v % 10) 10 10).1
def nearS (g : Gr) (v : Int32) : Int32 := if 0 ≤ v.toInt ∧ v.toInt < 60 then nearN g v.toInt.toNat else -1

set_option maxHeartbeats 4000000 in
set_option maxRecDepth 100000 in
/-- Graph.nearestTo(name) -/
theorem cG_nearestTo (l : Launch) (D : va_G) (tys : List (ClassId × FieldType)) (A : Nat → Prop) (ws : va_W) (cI : ClassId) (hI : tys[0]? = some (cI, .int)) (ad : Nat → Nat) (kg : Nat) (g : Gr) (v : Int32) (hG : GraphAt cI ad ws kg g) : x_Mi l yG_nearestTo wG_nearestTo (xR 3) D xCl tys A [.ref (ad kg), .int v] ws (fun r ws1 => r = nearS g v ∧ ws = ws1) := by
  obtain ⟨FF, ⟨hg0, hg1, hg2, hg3, -⟩, hRR⟩ := id hG
  refine x_enter (by decide) rfl (Nat.le_of_ble_eq_true rfl) (fun p e s m args below meth c ls hx hb hr hlk hml hown hnm hts hK hP hD hS hA hN hl => ?_)
  have hl : lv_has ls 5 [(0, .ref (ad kg)), (1, .int v)] := hl
  refine lv_iload_n hx hb dG_nearestTo_0 rfl (lv_at hl 1 rfl) ?_
  refine lv_aload_n hx hb dG_nearestTo_1 rfl (lv_at hl 0 rfl) ?_
  refine va_get (D := D) (cl := xCl) (ci := 0) (v := .ref (ad (kg + 3))) (C := rnG) (T := tbG) (N := 9) hx hb hts inG hown hK hP kg hg0 rfl 2 (by decide) (hts _ tw_31) (fun _ h9 => h9) rfl dG_nearestTo_2 ?_
  refine va_alen (v := 60) hx hb hK hP (kg + 3) 0 hg3 hI (by rfl) dG_nearestTo_5 ?_
  refine x_calli (x_runS (n := 2) (As := [.int v, .int 60]) (rest := []) ⟨hx, hb, hml, hown, hts⟩ (cG_below l D tys A ws v 60) tw_178 tw_179 tw_2 tw_180 (by decide +kernel) rfl rfl ⟨by decide, by decide⟩ ⟨Nat.zero_le _, Nat.zero_le _⟩ hK hP hD hS hA hN rfl hl.1 rfl (lv_room (Nat.le_of_ble_eq_true rfl)) dG_nearestTo_6) hS (fun rhb1 ws_1 H locs hb1 hP hD hS => ?_)
  obtain ⟨hb1, rfl⟩ := hb1
  refine lv_if_ne (tgt := 14) hx hb dG_nearestTo_9 (by decide) (fun c9 => ?_) (fun c9 => ?_)
  · obtain ⟨vn, hvn, rfl⟩ := blw_of (n := 60) (by omega) hb1 c9
    refine lv_iload_n hx hb dG_nearestTo_14 rfl (lv_at hl 1 rfl) ?_
    refine lv_bipush (v := 10) hx hb dG_nearestTo_15 (by decide) ?_
    refine lv_idiv hx hb dG_nearestTo_17 (by decide) ?_
    refine lv_topi (fun v_2 ev_2 => ?_)
    obtain rfl : v_2 = nI (vn / 10) := by rw [ev_2, show (10 : Int32) = nI 10 from rfl, pk_div (by omega) (by omega) (by omega)]
    refine lv_istore_n (lv' := [(2, .int (nI (vn / 10))), (0, .ref (ad kg)), (1, .int (nI vn))]) hx hb dG_nearestTo_18 rfl hl (by decide) rfl (fun ls hl => ?_)
    refine lv_iload_n hx hb dG_nearestTo_19 rfl (lv_at hl 2 rfl) ?_
    refine lv_bipush (v := 10) hx hb dG_nearestTo_20 (by decide) ?_
    refine lv_irem hx hb dG_nearestTo_22 (by decide) ?_
    refine lv_topi (fun v_3 ev_3 => ?_)
    obtain rfl : v_3 = nI (vn % 10) := by rw [ev_3, show (10 : Int32) = nI 10 from rfl, pk_rem (by omega) (by omega) (by omega)]
    refine lv_istore_n (lv' := [(3, .int (nI (vn % 10))), (2, .int (nI (vn / 10))), (0, .ref (ad kg)), (1, .int (nI vn))]) hx hb dG_nearestTo_23 rfl hl (by decide) rfl (fun ls hl => ?_)
    refine lv_aload_n hx hb dG_nearestTo_24 rfl (lv_at hl 2 rfl) ?_
    refine lv_iload_n hx hb dG_nearestTo_25 rfl (lv_at hl 1 rfl) ?_
    refine lv_bipush (v := 10) hx hb dG_nearestTo_26 (by decide) ?_
    refine lv_imul hx hb dG_nearestTo_28 ?_
    refine lv_topi (fun v_4 ev_4 => ?_)
    obtain rfl : v_4 = nI (vn / 10 * 10) := by rw [ev_4, show (10 : Int32) = nI 10 from rfl, pk_mul]
    refine lv_iconst (v := 1) hx hb dG_nearestTo_29 (by decide) ?_
    refine lv_bipush (v := 10) hx hb dG_nearestTo_30 (by decide) ?_
    refine lv_iload_n hx hb dG_nearestTo_32 rfl (lv_at hl 0 rfl) ?_
    refine x_calli (x_runV (n := 4) (As := [.int (nI (vn / 10 * 10)), .int 1, .int 10, .int (nI (vn % 10))]) (rest := []) ⟨hx, hb, hml, hown, hts⟩ (cG_closest l D tys A ws cI hI ad kg g (vn / 10 * 10) 1 10 (vn % 10) (by omega) (by omega) (fun i hi => by omega) hG) tw_573 tw_575 ts_G_closest tw_2 tw_576 (by decide +kernel) rfl rfl ⟨by decide, by decide⟩ ⟨Nat.zero_le _, Nat.zero_le _⟩ (va_recv hK hP (ci := 0) (q0 := kg) rfl hg0) hK hP hD hS hA hN rfl hl.1 rfl (lv_room (Nat.le_of_ble_eq_true rfl)) dG_nearestTo_33) hS (fun rhc1 ws_5 H locs hc1 hP hD hS => ?_)
    obtain ⟨hc1, rfl⟩ := hc1
    refine lv_istore (lv' := [(4, .int rhc1), (3, .int (nI (vn % 10))), (2, .int (nI (vn / 10))), (0, .ref (ad kg)), (1, .int (nI vn))]) hx hb dG_nearestTo_36 hl (by decide) rfl (fun ls hl => ?_)
    refine lv_iload hx hb dG_nearestTo_38 (lv_at hl 0 rfl) ?_
    refine lv_iconst (v := (-1)) hx hb dG_nearestTo_40 (by decide) ?_
    refine lv_icmp_eq (tgt := 49) hx hb dG_nearestTo_41 (by decide) (fun c41 => ?_) (fun c41 => ?_)
    · refine lv_aload_n hx hb dG_nearestTo_49 rfl (lv_at hl 3 rfl) ?_
      refine lv_iload_n hx hb dG_nearestTo_50 rfl (lv_at hl 1 rfl) ?_
      refine lv_bipush (v := 10) hx hb dG_nearestTo_51 (by decide) ?_
      refine lv_bipush (v := 6) hx hb dG_nearestTo_53 (by decide) ?_
      refine lv_iload_n hx hb dG_nearestTo_55 rfl (lv_at hl 2 rfl) ?_
      refine x_calli (x_runV (n := 4) (As := [.int (nI (vn % 10)), .int 10, .int 6, .int (nI (vn / 10))]) (rest := []) ⟨hx, hb, hml, hown, hts⟩ (cG_closest l D tys A ws cI hI ad kg g (vn % 10) 10 6 (vn / 10) (by omega) (by omega) (fun i hi => by omega) hG) tw_573 tw_575 ts_G_closest tw_2 tw_576 (by decide +kernel) rfl rfl ⟨by decide, by decide⟩ ⟨Nat.zero_le _, Nat.zero_le _⟩ (va_recv hK hP (ci := 0) (q0 := kg) rfl hg0) hK hP hD hS hA hN rfl hl.1 rfl (lv_room (Nat.le_of_ble_eq_true rfl)) dG_nearestTo_56) hS (fun rhc2 ws_6 H locs hc2 hP hD hS => ?_)
      obtain ⟨hc2, rfl⟩ := hc2
      exact x_iret hx hb hr hlk hK hP hD hS dG_nearestTo_59 ⟨by unfold nearS nearN; rw [nI_toInt (by omega), if_pos ⟨by omega, by omega⟩, Int.toNat_natCast]; rw [hc1] at c41; rw [if_pos c41]; exact hc2, rfl⟩
    · refine lv_iload hx hb dG_nearestTo_44 (lv_at hl 0 rfl) ?_
      refine lv_goto (tgt := 59) hx hb dG_nearestTo_46 (by decide) ?_
      exact x_iret hx hb hr hlk hK hP hD hS dG_nearestTo_59 ⟨by unfold nearS nearN; rw [nI_toInt (by omega), if_pos ⟨by omega, by omega⟩, Int.toNat_natCast]; rw [hc1] at c41; rw [if_neg c41]; exact hc1, rfl⟩
  · refine lv_iconst (v := (-1)) hx hb dG_nearestTo_12 (by decide) ?_
    exact x_iret hx hb hr hlk hK hP hD hS dG_nearestTo_13 ⟨by have q := blw_no (n := 60) (by omega) hb1 c9; exact (if_neg q).symm, rfl⟩
end
section
abbrev bS_length : ByteArray := prog_12_method_54_code
def yS_length : MethodName := ⟨"java/lang/String", "length", "()I"⟩
def wS_length : List Cond := Cond.code yS_length bS_length 1 (some .int) :: xT
abbrev bS_coder : ByteArray := prog_12_method_152_code
def yS_coder : MethodName := ⟨"java/lang/String", "coder", "()B"⟩
def wS_coder : List Cond := Cond.code yS_coder bS_coder 1 (some .byte) :: xT
abbrev bS_charAt : ByteArray := prog_12_method_56_code
def yS_charAt : MethodName := ⟨"java/lang/String", "charAt", "(I)C"⟩
def wS_charAt : List Cond := Cond.code yS_charAt bS_charAt 2 (some .char) :: xT
abbrev bS_isLatin1 : ByteArray := prog_12_method_154_code
def yS_isLatin1 : MethodName := ⟨"java/lang/String", "isLatin1", "()Z"⟩
def wS_isLatin1 : List Cond := Cond.code yS_isLatin1 bS_isLatin1 1 (some .boolean) :: xT
abbrev bJ_charAt : ByteArray := prog_13_method_2_code
def yJ_charAt : MethodName := ⟨"java/lang/StringLatin1", "charAt", "([BI)C"⟩
def wJ_charAt : List Cond := Cond.code yJ_charAt bJ_charAt 2 (some .char) :: xT
abbrev bS_checkIndex : ByteArray := prog_12_method_155_code
def yS_checkIndex : MethodName := ⟨"java/lang/String", "checkIndex", "(II)V"⟩
def wS_checkIndex : List Cond := Cond.code yS_checkIndex bS_checkIndex 2 none :: xT
abbrev bK_checkIndex : ByteArray := prog_15_method_11_code
def yK_checkIndex : MethodName := ⟨"jdk/internal/util/Preconditions", "checkIndex", "(IILjava/util/function/BiFunction;)I"⟩
def wK_checkIndex : List Cond := Cond.code yK_checkIndex bK_checkIndex 3 (some .int) :: xT
abbrev bU_charAt : ByteArray := prog_14_method_83_code
def yU_charAt : MethodName := ⟨"java/lang/StringUTF16", "charAt", "([BI)C"⟩
def wU_charAt : List Cond := Cond.code yU_charAt bU_charAt 2 (some .char) :: xT
abbrev bU_checkIndex : ByteArray := prog_14_method_91_code
def yU_checkIndex : MethodName := ⟨"java/lang/StringUTF16", "checkIndex", "(I[B)V"⟩
def wU_checkIndex : List Cond := Cond.code yU_checkIndex bU_checkIndex 2 none :: xT
abbrev bU_length : ByteArray := prog_14_method_6_code
def yU_length : MethodName := ⟨"java/lang/StringUTF16", "length", "([B)I"⟩
def wU_length : List Cond := Cond.code yU_length bU_length 1 (some .int) :: xT
abbrev bU_getChar : ByteArray := prog_14_method_5_code
def yU_getChar : MethodName := ⟨"java/lang/StringUTF16", "getChar", "([BI)C"⟩
def wU_getChar : List Cond := Cond.code yU_getChar bU_getChar 2 (some .char) :: xT
abbrev bI_bitCount : ByteArray := prog_10_method_49_code
def yI_bitCount : MethodName := ⟨"java/lang/Integer", "bitCount", "(I)I"⟩
def wI_bitCount : List Cond := Cond.code yI_bitCount bI_bitCount 1 (some .int) :: xT
theorem dI_bitCount_0 : decode bI_bitCount 0 = .ok (.iload_n 0, 1) := by decide +kernel
theorem dI_bitCount_1 : decode bI_bitCount 1 = .ok (.iload_n 0, 1) := by decide +kernel
theorem dI_bitCount_2 : decode bI_bitCount 2 = .ok (.iconst 1, 1) := by decide +kernel
theorem dI_bitCount_3 : decode bI_bitCount 3 = .ok (.iushr, 1) := by decide +kernel
theorem dI_bitCount_4 : decode bI_bitCount 4 = .ok (.ldc_w 265, 3) := by decide +kernel
theorem dI_bitCount_7 : decode bI_bitCount 7 = .ok (.iand, 1) := by decide +kernel
theorem dI_bitCount_8 : decode bI_bitCount 8 = .ok (.isub, 1) := by decide +kernel
theorem dI_bitCount_9 : decode bI_bitCount 9 = .ok (.istore_n 0, 1) := by decide +kernel
theorem dI_bitCount_10 : decode bI_bitCount 10 = .ok (.iload_n 0, 1) := by decide +kernel
theorem dI_bitCount_11 : decode bI_bitCount 11 = .ok (.ldc_w 266, 3) := by decide +kernel
theorem dI_bitCount_14 : decode bI_bitCount 14 = .ok (.iand, 1) := by decide +kernel
theorem dI_bitCount_15 : decode bI_bitCount 15 = .ok (.iload_n 0, 1) := by decide +kernel
theorem dI_bitCount_16 : decode bI_bitCount 16 = .ok (.iconst 2, 1) := by decide +kernel
theorem dI_bitCount_17 : decode bI_bitCount 17 = .ok (.iushr, 1) := by decide +kernel
theorem dI_bitCount_18 : decode bI_bitCount 18 = .ok (.ldc_w 266, 3) := by decide +kernel
theorem dI_bitCount_21 : decode bI_bitCount 21 = .ok (.iand, 1) := by decide +kernel
theorem dI_bitCount_22 : decode bI_bitCount 22 = .ok (.iadd, 1) := by decide +kernel
theorem dI_bitCount_23 : decode bI_bitCount 23 = .ok (.istore_n 0, 1) := by decide +kernel
theorem dI_bitCount_24 : decode bI_bitCount 24 = .ok (.iload_n 0, 1) := by decide +kernel
theorem dI_bitCount_25 : decode bI_bitCount 25 = .ok (.iload_n 0, 1) := by decide +kernel
theorem dI_bitCount_26 : decode bI_bitCount 26 = .ok (.iconst 4, 1) := by decide +kernel
theorem dI_bitCount_27 : decode bI_bitCount 27 = .ok (.iushr, 1) := by decide +kernel
theorem dI_bitCount_28 : decode bI_bitCount 28 = .ok (.iadd, 1) := by decide +kernel
theorem dI_bitCount_29 : decode bI_bitCount 29 = .ok (.ldc_w 267, 3) := by decide +kernel
theorem dI_bitCount_32 : decode bI_bitCount 32 = .ok (.iand, 1) := by decide +kernel
theorem dI_bitCount_33 : decode bI_bitCount 33 = .ok (.istore_n 0, 1) := by decide +kernel
theorem dI_bitCount_34 : decode bI_bitCount 34 = .ok (.iload_n 0, 1) := by decide +kernel
theorem dI_bitCount_35 : decode bI_bitCount 35 = .ok (.iload_n 0, 1) := by decide +kernel
theorem dI_bitCount_36 : decode bI_bitCount 36 = .ok (.bipush 8, 2) := by decide +kernel
theorem dI_bitCount_38 : decode bI_bitCount 38 = .ok (.iushr, 1) := by decide +kernel
theorem dI_bitCount_39 : decode bI_bitCount 39 = .ok (.iadd, 1) := by decide +kernel
theorem dI_bitCount_40 : decode bI_bitCount 40 = .ok (.istore_n 0, 1) := by decide +kernel
theorem dI_bitCount_41 : decode bI_bitCount 41 = .ok (.iload_n 0, 1) := by decide +kernel
theorem dI_bitCount_42 : decode bI_bitCount 42 = .ok (.iload_n 0, 1) := by decide +kernel
theorem dI_bitCount_43 : decode bI_bitCount 43 = .ok (.bipush 16, 2) := by decide +kernel
theorem dI_bitCount_45 : decode bI_bitCount 45 = .ok (.iushr, 1) := by decide +kernel
theorem dI_bitCount_46 : decode bI_bitCount 46 = .ok (.iadd, 1) := by decide +kernel
theorem dI_bitCount_47 : decode bI_bitCount 47 = .ok (.istore_n 0, 1) := by decide +kernel
theorem dI_bitCount_48 : decode bI_bitCount 48 = .ok (.iload_n 0, 1) := by decide +kernel
theorem dI_bitCount_49 : decode bI_bitCount 49 = .ok (.bipush 63, 2) := by decide +kernel
theorem dI_bitCount_51 : decode bI_bitCount 51 = .ok (.iand, 1) := by decide +kernel
theorem dI_bitCount_52 : decode bI_bitCount 52 = .ok (.ireturn, 1) := by decide +kernel
theorem dS_length_0 : decode bS_length 0 = .ok (.aload_n 0, 1) := by decide +kernel
theorem dS_length_1 : decode bS_length 1 = .ok (.getfield 9, 3) := by decide +kernel
theorem dS_length_4 : decode bS_length 4 = .ok (.arraylength, 1) := by decide +kernel
theorem dS_length_5 : decode bS_length 5 = .ok (.aload_n 0, 1) := by decide +kernel
theorem dS_length_6 : decode bS_length 6 = .ok (.invokevirtual 335, 3) := by decide +kernel
theorem dS_length_9 : decode bS_length 9 = .ok (.ishr, 1) := by decide +kernel
theorem dS_length_10 : decode bS_length 10 = .ok (.ireturn, 1) := by decide +kernel
theorem dS_coder_0 : decode bS_coder 0 = .ok (.getstatic 38, 3) := by decide +kernel
theorem dS_coder_3 : decode bS_coder 3 = .ok (.ifCond .eq 10, 3) := by decide +kernel
theorem dS_coder_6 : decode bS_coder 6 = .ok (.aload_n 0, 1) := by decide +kernel
theorem dS_coder_7 : decode bS_coder 7 = .ok (.getfield 15, 3) := by decide +kernel
theorem dS_coder_10 : decode bS_coder 10 = .ok (.goto 4, 3) := by decide +kernel
theorem dS_coder_13 : decode bS_coder 13 = .ok (.iconst 1, 1) := by decide +kernel
theorem dS_coder_14 : decode bS_coder 14 = .ok (.ireturn, 1) := by decide +kernel
theorem dS_charAt_0 : decode bS_charAt 0 = .ok (.aload_n 0, 1) := by decide +kernel
theorem dS_charAt_1 : decode bS_charAt 1 = .ok (.invokevirtual 492, 3) := by decide +kernel
theorem dS_charAt_4 : decode bS_charAt 4 = .ok (.ifCond .eq 12, 3) := by decide +kernel
theorem dS_charAt_7 : decode bS_charAt 7 = .ok (.aload_n 0, 1) := by decide +kernel
theorem dS_charAt_8 : decode bS_charAt 8 = .ok (.getfield 9, 3) := by decide +kernel
theorem dS_charAt_11 : decode bS_charAt 11 = .ok (.iload_n 1, 1) := by decide +kernel
theorem dS_charAt_12 : decode bS_charAt 12 = .ok (.invokestatic 495, 3) := by decide +kernel
theorem dS_charAt_15 : decode bS_charAt 15 = .ok (.ireturn, 1) := by decide +kernel
theorem dS_charAt_16 : decode bS_charAt 16 = .ok (.aload_n 0, 1) := by decide +kernel
theorem dS_charAt_17 : decode bS_charAt 17 = .ok (.getfield 9, 3) := by decide +kernel
theorem dS_charAt_20 : decode bS_charAt 20 = .ok (.iload_n 1, 1) := by decide +kernel
theorem dS_charAt_21 : decode bS_charAt 21 = .ok (.invokestatic 498, 3) := by decide +kernel
theorem dS_charAt_24 : decode bS_charAt 24 = .ok (.ireturn, 1) := by decide +kernel
theorem dS_isLatin1_0 : decode bS_isLatin1 0 = .ok (.getstatic 38, 3) := by decide +kernel
theorem dS_isLatin1_3 : decode bS_isLatin1 3 = .ok (.ifCond .eq 14, 3) := by decide +kernel
theorem dS_isLatin1_6 : decode bS_isLatin1 6 = .ok (.aload_n 0, 1) := by decide +kernel
theorem dS_isLatin1_7 : decode bS_isLatin1 7 = .ok (.getfield 15, 3) := by decide +kernel
theorem dS_isLatin1_10 : decode bS_isLatin1 10 = .ok (.ifCond .ne 7, 3) := by decide +kernel
theorem dS_isLatin1_13 : decode bS_isLatin1 13 = .ok (.iconst 1, 1) := by decide +kernel
theorem dS_isLatin1_14 : decode bS_isLatin1 14 = .ok (.goto 4, 3) := by decide +kernel
theorem dS_isLatin1_17 : decode bS_isLatin1 17 = .ok (.iconst 0, 1) := by decide +kernel
theorem dS_isLatin1_18 : decode bS_isLatin1 18 = .ok (.ireturn, 1) := by decide +kernel
theorem dS_checkIndex_0 : decode bS_checkIndex 0 = .ok (.iload_n 0, 1) := by decide +kernel
theorem dS_checkIndex_1 : decode bS_checkIndex 1 = .ok (.iload_n 1, 1) := by decide +kernel
theorem dS_checkIndex_2 : decode bS_checkIndex 2 = .ok (.getstatic 1053, 3) := by decide +kernel
theorem dS_checkIndex_5 : decode bS_checkIndex 5 = .ok (.invokestatic 1059, 3) := by decide +kernel
theorem dS_checkIndex_8 : decode bS_checkIndex 8 = .ok (.pop, 1) := by decide +kernel
theorem dS_checkIndex_9 : decode bS_checkIndex 9 = .ok (.return_, 1) := by decide +kernel
theorem dJ_charAt_0 : decode bJ_charAt 0 = .ok (.iload_n 1, 1) := by decide +kernel
theorem dJ_charAt_1 : decode bJ_charAt 1 = .ok (.aload_n 0, 1) := by decide +kernel
theorem dJ_charAt_2 : decode bJ_charAt 2 = .ok (.arraylength, 1) := by decide +kernel
theorem dJ_charAt_3 : decode bJ_charAt 3 = .ok (.invokestatic 9, 3) := by decide +kernel
theorem dJ_charAt_6 : decode bJ_charAt 6 = .ok (.aload_n 0, 1) := by decide +kernel
theorem dJ_charAt_7 : decode bJ_charAt 7 = .ok (.iload_n 1, 1) := by decide +kernel
theorem dJ_charAt_8 : decode bJ_charAt 8 = .ok (.baload, 1) := by decide +kernel
theorem dJ_charAt_9 : decode bJ_charAt 9 = .ok (.sipush 255, 3) := by decide +kernel
theorem dJ_charAt_12 : decode bJ_charAt 12 = .ok (.iand, 1) := by decide +kernel
theorem dJ_charAt_13 : decode bJ_charAt 13 = .ok (.i2c, 1) := by decide +kernel
theorem dJ_charAt_14 : decode bJ_charAt 14 = .ok (.ireturn, 1) := by decide +kernel
theorem dK_checkIndex_0 : decode bK_checkIndex 0 = .ok (.iload_n 0, 1) := by decide +kernel
theorem dK_checkIndex_1 : decode bK_checkIndex 1 = .ok (.ifCond .lt 8, 3) := by decide +kernel
theorem dK_checkIndex_4 : decode bK_checkIndex 4 = .ok (.iload_n 0, 1) := by decide +kernel
theorem dK_checkIndex_5 : decode bK_checkIndex 5 = .ok (.iload_n 1, 1) := by decide +kernel
theorem dK_checkIndex_6 : decode bK_checkIndex 6 = .ok (.if_icmp .lt 10, 3) := by decide +kernel
theorem dK_checkIndex_9 : decode bK_checkIndex 9 = .ok (.aload_n 2, 1) := by decide +kernel
theorem dK_checkIndex_10 : decode bK_checkIndex 10 = .ok (.iload_n 0, 1) := by decide +kernel
theorem dK_checkIndex_11 : decode bK_checkIndex 11 = .ok (.iload_n 1, 1) := by decide +kernel
theorem dK_checkIndex_12 : decode bK_checkIndex 12 = .ok (.invokestatic 95, 3) := by decide +kernel
theorem dK_checkIndex_15 : decode bK_checkIndex 15 = .ok (.athrow, 1) := by decide +kernel
theorem dK_checkIndex_16 : decode bK_checkIndex 16 = .ok (.iload_n 0, 1) := by decide +kernel
theorem dK_checkIndex_17 : decode bK_checkIndex 17 = .ok (.ireturn, 1) := by decide +kernel
theorem dU_charAt_0 : decode bU_charAt 0 = .ok (.iload_n 1, 1) := by decide +kernel
theorem dU_charAt_1 : decode bU_charAt 1 = .ok (.aload_n 0, 1) := by decide +kernel
theorem dU_charAt_2 : decode bU_charAt 2 = .ok (.invokestatic 67, 3) := by decide +kernel
theorem dU_charAt_5 : decode bU_charAt 5 = .ok (.aload_n 0, 1) := by decide +kernel
theorem dU_charAt_6 : decode bU_charAt 6 = .ok (.iload_n 1, 1) := by decide +kernel
theorem dU_charAt_7 : decode bU_charAt 7 = .ok (.invokestatic 71, 3) := by decide +kernel
theorem dU_charAt_10 : decode bU_charAt 10 = .ok (.ireturn, 1) := by decide +kernel
theorem dU_checkIndex_0 : decode bU_checkIndex 0 = .ok (.iload_n 0, 1) := by decide +kernel
theorem dU_checkIndex_1 : decode bU_checkIndex 1 = .ok (.aload_n 1, 1) := by decide +kernel
theorem dU_checkIndex_2 : decode bU_checkIndex 2 = .ok (.invokestatic 48, 3) := by decide +kernel
theorem dU_checkIndex_5 : decode bU_checkIndex 5 = .ok (.invokestatic 414, 3) := by decide +kernel
theorem dU_checkIndex_8 : decode bU_checkIndex 8 = .ok (.return_, 1) := by decide +kernel
theorem dU_length_0 : decode bU_length 0 = .ok (.aload_n 0, 1) := by decide +kernel
theorem dU_length_1 : decode bU_length 1 = .ok (.arraylength, 1) := by decide +kernel
theorem dU_length_2 : decode bU_length 2 = .ok (.iconst 1, 1) := by decide +kernel
theorem dU_length_3 : decode bU_length 3 = .ok (.ishr, 1) := by decide +kernel
theorem dU_length_4 : decode bU_length 4 = .ok (.ireturn, 1) := by decide +kernel
end
section
-- ===== Integer.bitCount =====
theorem and_split {k a b c d : Nat} (ha : a < 2 ^ k) (hc : c < 2 ^ k) : (a + 2 ^ k * b) &&& (c + 2 ^ k * d) = (a &&& c) + 2 ^ k * (b &&& d) := by
  apply Nat.eq_of_testBit_eq
  intro i
  have hac : a &&& c < 2 ^ k := Nat.and_lt_two_pow _ hc
  rw [Nat.testBit_and, Nat.add_comm a, Nat.add_comm c, Nat.add_comm (a &&& c), Nat.testBit_two_pow_mul_add _ ha, Nat.testBit_two_pow_mul_add _ hc, Nat.testBit_two_pow_mul_add _ hac]
  by_cases h : i < k
  · rw [if_pos h, if_pos h, if_pos h, Nat.testBit_and]
  · rw [if_neg h, if_neg h, if_neg h, Nat.testBit_and]
theorem and_256 {a b c d : Nat} (ha : a < 256) (hc : c < 256) : (a + 256 * b) &&& (c + 256 * d) = (a &&& c) + 256 * (b &&& d) := and_split (k := 8) ha hc
def pc1 (y : Nat) : Nat := y - ((y / 2) &&& 85)
def pc2 (y : Nat) : Nat := (pc1 y &&& 51) + ((pc1 y / 4) &&& 51)
def pc3 (y : Nat) : Nat := (pc2 y + pc2 y / 16) &&& 15
theorem pcA : ∀ y, y < 256 → ∀ e, e < 2 → (y / 2 + 128 * e) &&& 85 = (y / 2) &&& 85 := by decide +kernel
theorem pcB : ∀ y, y < 256 → ∀ e, e < 4 → (y / 4 + 64 * e) &&& 51 = (y / 4) &&& 51 := by decide +kernel
theorem pcC : ∀ y, y < 69 → ∀ e, e < 5 → (y + y / 16 + 16 * e) &&& 15 = (y + y / 16) &&& 15 := by decide +kernel
theorem pcD : ∀ y, y < 256 → pc1 y < 256 ∧ ((y / 2) &&& 85) ≤ y ∧ pc2 y < 69 ∧ pc2 y % 16 < 5 ∧ pc3 y ≤ 8 := by decide +kernel
theorem st1 {y Y m : Nat} (hy : y < 256) : (y + 256 * Y) - (((y + 256 * Y) / 2) &&& (85 + 256 * m)) = pc1 y + 256 * (Y - ((Y / 2) &&& m)) := by
  have e : (y + 256 * Y) / 2 = (y / 2 + 128 * (Y % 2)) + 256 * (Y / 2) := by omega
  rw [e, and_256 (by omega) (by omega), pcA y hy (Y % 2) (by omega)]
  have h1 := (pcD y hy).2.1
  have h2 : (Y / 2) &&& m ≤ Y := Nat.le_trans Nat.and_le_left (Nat.div_le_self _ _)
  unfold pc1
  omega
theorem st2 {s N m : Nat} (hs : s < 256) : ((s + 256 * N) &&& (51 + 256 * m)) + (((s + 256 * N) / 4) &&& (51 + 256 * m)) = ((s &&& 51) + ((s / 4) &&& 51)) + 256 * ((N &&& m) + ((N / 4) &&& m)) := by
  have e : (s + 256 * N) / 4 = (s / 4 + 64 * (N % 4)) + 256 * (N / 4) := by omega
  rw [e, and_256 hs (by omega), and_256 (by omega) (by omega), pcB s hs (N % 4) (by omega)]
  omega
theorem st3 {t N m : Nat} (ht : t < 69) (hN : N % 16 < 5) : ((t + 256 * N) + (t + 256 * N) / 16) &&& (15 + 256 * m) = ((t + t / 16) &&& 15) + 256 * ((N + N / 16) &&& m) := by
  have e : (t + 256 * N) + (t + 256 * N) / 16 = (t + t / 16 + 16 * (N % 16)) + 256 * (N + N / 16) := by omega
  rw [e, and_256 (by omega) (by omega), pcC t ht (N % 16) (by omega)]
theorem pop_end {a b c d N3 N4 N5 : Nat} (ha : a ≤ 8) (hb : b ≤ 8) (hc : c ≤ 8) (hd : d ≤ 8) (e3 : N3 = a + 256 * (b + 256 * (c + 256 * d))) (e4 : N4 = N3 + N3 / 256) (e5 : N5 = N4 + N4 / 65536) : N5 % 64 = a + b + c + d := by
  have f3 : N3 / 256 = b + 256 * (c + 256 * d) := by omega
  have f4 : N4 = (a + b + 256 * (b + c)) + 65536 * (c + d + 256 * d) := by rw [e4, f3, e3]; omega
  have f5 : N4 / 65536 = c + d + 256 * d := by rw [f4]; omega
  have f6 : N5 = (a + b + c + d) + 64 * (4 * (b + c) + 4 * d + 1024 * (c + d) + 262144 * d) := by rw [e5, f5, f4]; omega
  rw [f6]
  omega
/-- the whole of it, over four bytes -/
theorem pop4 {a b c d : Nat} (ha : a < 256) (hb : b < 256) (hc : c < 256) (hd : d < 256) {X N1 N2 N3 N4 N5 : Nat} (eX : X = a + 256 * (b + 256 * (c + 256 * d))) (e1 : N1 = X - ((X / 2) &&& 1431655765)) (e2 : N2 = (N1 &&& 858993459) + ((N1 / 4) &&& 858993459)) (e3 : N3 = (N2 + N2 / 16) &&& 252645135) (e4 : N4 = N3 + N3 / 256) (e5 : N5 = N4 + N4 / 65536) : N5 % 64 = pc3 a + pc3 b + pc3 c + pc3 d ∧ N1 ≤ X ∧ N1 = pc1 a + 256 * (pc1 b + 256 * (pc1 c + 256 * pc1 d)) ∧ N2 < 2 ^ 31 ∧ N3 < 2 ^ 30 ∧ (X / 2) &&& 1431655765 ≤ X := by
  have q1 : N1 = pc1 a + 256 * (pc1 b + 256 * (pc1 c + 256 * pc1 d)) := by
    rw [e1, eX, show 1431655765 = 85 + 256 * (85 + 256 * (85 + 256 * 85)) from rfl, st1 ha, st1 hb, st1 hc]
    rfl
  have q2 : N2 = pc2 a + 256 * (pc2 b + 256 * (pc2 c + 256 * pc2 d)) := by
    rw [e2, q1, show 858993459 = 51 + 256 * (51 + 256 * (51 + 256 * 51)) from rfl, st2 (pcD a ha).1, st2 (pcD b hb).1, st2 (pcD c hc).1]
    rfl
  obtain ⟨a1, a2, a3, a4, a5⟩ := pcD a ha
  obtain ⟨b1, b2, b3, b4, b5⟩ := pcD b hb
  obtain ⟨c1, c2, c3, c4, c5⟩ := pcD c hc
  obtain ⟨d1, d2, d3, d4, d5⟩ := pcD d hd
  have q3 : N3 = pc3 a + 256 * (pc3 b + 256 * (pc3 c + 256 * pc3 d)) := by
    rw [e3, q2, show 252645135 = 15 + 256 * (15 + 256 * (15 + 256 * 15)) from rfl, st3 a3 (by omega), st3 b3 (by omega), st3 c3 d4]
    rfl
  refine ⟨pop_end a5 b5 c5 d5 q3 e4 e5, by rw [e1]; exact Nat.sub_le _ _, q1, by omega, by omega, Nat.le_trans Nat.and_le_left (Nat.div_le_self _ _)⟩
/-- how many bits are set -/
def pcnt (x : Int32) : Nat := ((List.range 32).filter (fun i => bt x i)).length
def pcb (y : Nat) : Nat := ((List.range 8).filter (fun i => y.testBit i)).length
theorem pc3_b : ∀ y, y < 256 → pc3 y = pcb y := by decide +kernel
theorem nx_and' (a b : Nat) : nI a &&& nI b = nI (a &&& b) := by
  apply Int32.toBitVec_inj.1
  show BitVec.ofNat 32 a &&& BitVec.ofNat 32 b = BitVec.ofNat 32 (a &&& b)
  apply BitVec.eq_of_getLsbD_eq
  intro i hi
  simp [hi]
theorem nI_tn (x : Int32) : x = nI x.toBitVec.toNat := by
  apply Int32.toBitVec_inj.1
  show x.toBitVec = BitVec.ofNat 32 x.toBitVec.toNat
  simp
theorem pcnt_4 {a b c d : Nat} (ha : a < 256) (hb : b < 256) (hc : c < 256) (hd : d < 256) {x : Int32} (e : x.toBitVec.toNat = a + 256 * (b + 256 * (c + 256 * d))) : pcnt x = pcb a + pcb b + pcb c + pcb d := by
  have key : ∀ i, bt x i = (a + 256 * (b + 256 * (c + 256 * d))).testBit i := fun i => by
    unfold bt
    rw [BitVec.getLsbD, e]
  have t0 : ∀ i, i < 8 → bt x i = a.testBit i := fun i hi => by
    rw [key, Nat.add_comm, show 256 = 2 ^ 8 from rfl, Nat.testBit_two_pow_mul_add _ ha, if_pos hi]
  have t1 : ∀ i, i < 8 → bt x (8 + i) = b.testBit i := fun i hi => by
    rw [key, Nat.add_comm, show 256 = 2 ^ 8 from rfl, Nat.testBit_two_pow_mul_add _ ha, if_neg (by omega), Nat.add_comm b, Nat.testBit_two_pow_mul_add _ hb, if_pos (by omega)]
    congr 1; omega
  have t2 : ∀ i, i < 8 → bt x (16 + i) = c.testBit i := fun i hi => by
    rw [key, Nat.add_comm, show 256 = 2 ^ 8 from rfl, Nat.testBit_two_pow_mul_add _ ha, if_neg (by omega), Nat.add_comm b, Nat.testBit_two_pow_mul_add _ hb, if_neg (by omega), Nat.add_comm c, Nat.testBit_two_pow_mul_add _ hc, if_pos (by omega)]
    congr 1; omega
  have t3 : ∀ i, i < 8 → bt x (24 + i) = d.testBit i := fun i hi => by
    rw [key, Nat.add_comm, show 256 = 2 ^ 8 from rfl, Nat.testBit_two_pow_mul_add _ ha, if_neg (by omega), Nat.add_comm b, Nat.testBit_two_pow_mul_add _ hb, if_neg (by omega), Nat.add_comm c, Nat.testBit_two_pow_mul_add _ hc, if_neg (by omega)]
    congr 1; omega
  have sp : List.range 32 = List.range 8 ++ ((List.range 8).map (8 + ·) ++ ((List.range 8).map (16 + ·) ++ (List.range 8).map (24 + ·))) := by decide
  unfold pcnt pcb
  rw [sp]
  simp only [List.filter_append, List.length_append, List.filter_map, List.length_map]
  have f0 : (List.range 8).filter (fun i => bt x i) = (List.range 8).filter (fun i => a.testBit i) := List.filter_congr (fun i hi => t0 i (List.mem_range.mp hi))
  have f1 : (List.range 8).filter ((fun i => bt x i) ∘ (8 + ·)) = (List.range 8).filter (fun i => b.testBit i) := List.filter_congr (fun i hi => t1 i (List.mem_range.mp hi))
  have f2 : (List.range 8).filter ((fun i => bt x i) ∘ (16 + ·)) = (List.range 8).filter (fun i => c.testBit i) := List.filter_congr (fun i hi => t2 i (List.mem_range.mp hi))
  have f3 : (List.range 8).filter ((fun i => bt x i) ∘ (24 + ·)) = (List.range 8).filter (fun i => d.testBit i) := List.filter_congr (fun i hi => t3 i (List.mem_range.mp hi))
  rw [f0, f1, f2, f3]
  omega
theorem ush_nI {n : Nat} (hn : n < 2 ^ 32) (s k : Nat) (hs : k < 32) (e : s = k) : ((nI n).toUInt32 >>> ((nI s).toUInt32 &&& Int32.toUInt32 31)).toInt32 = nI (n / 2 ^ k) := by
  subst e
  exact pk_ushrN hn (nI s) s (s_u s hs)
theorem pcnt_val {x v1 v2 v3 v4 v5 : Int32} (e1 : v1 = x - ((x.toUInt32 >>> ((1 : Int32).toUInt32 &&& Int32.toUInt32 31)).toInt32 &&& 1431655765)) (e2 : v2 = (v1 &&& 858993459) + ((v1.toUInt32 >>> ((2 : Int32).toUInt32 &&& Int32.toUInt32 31)).toInt32 &&& 858993459)) (e3 : v3 = (v2 + (v2.toUInt32 >>> ((4 : Int32).toUInt32 &&& Int32.toUInt32 31)).toInt32) &&& 252645135) (e4 : v4 = v3 + (v3.toUInt32 >>> ((8 : Int32).toUInt32 &&& Int32.toUInt32 31)).toInt32) (e5 : v5 = v4 + (v4.toUInt32 >>> ((16 : Int32).toUInt32 &&& Int32.toUInt32 31)).toInt32) : v5 &&& 63 = nI (pcnt x) := by
  obtain ⟨X, hX⟩ : ∃ X, X = x.toBitVec.toNat := ⟨_, rfl⟩
  have hlt : X < 2 ^ 32 := by rw [hX]; exact x.toBitVec.isLt
  have ex : x = nI X := by rw [hX]; exact nI_tn x
  have ha : X % 256 < 256 := by omega
  have hb : X / 256 % 256 < 256 := by omega
  have hc : X / 65536 % 256 < 256 := by omega
  have hd : X / 16777216 < 256 := by omega
  have eX : X = X % 256 + 256 * (X / 256 % 256 + 256 * (X / 65536 % 256 + 256 * (X / 16777216))) := by omega
  obtain ⟨p1, p2, p3, p4, p5, p6⟩ := pop4 ha hb hc hd eX rfl rfl rfl rfl rfl
  have n1 : v1 = nI (X - ((X / 2) &&& 1431655765)) := by
    rw [e1, ex, show (1 : Int32) = nI 1 from rfl, ush_nI hlt 1 1 (by omega) rfl, show (1431655765 : Int32) = nI 1431655765 from rfl, nx_and', pk_sub p6]
  generalize hN1 : X - ((X / 2) &&& 1431655765) = N1 at *
  have n2 : v2 = nI ((N1 &&& 858993459) + ((N1 / 4) &&& 858993459)) := by
    rw [e2, n1, show (2 : Int32) = nI 2 from rfl, ush_nI (by omega) 2 2 (by omega) rfl, show (858993459 : Int32) = nI 858993459 from rfl, nx_and', nx_and', nI_add]
  generalize hN2 : (N1 &&& 858993459) + ((N1 / 4) &&& 858993459) = N2 at *
  have n3 : v3 = nI ((N2 + N2 / 16) &&& 252645135) := by
    rw [e3, n2, show (4 : Int32) = nI 4 from rfl, ush_nI (by omega) 4 4 (by omega) rfl, nI_add, show (252645135 : Int32) = nI 252645135 from rfl, nx_and']
  generalize hN3 : (N2 + N2 / 16) &&& 252645135 = N3 at *
  have n4 : v4 = nI (N3 + N3 / 256) := by
    rw [e4, n3, show (8 : Int32) = nI 8 from rfl, ush_nI (by omega) 8 8 (by omega) rfl, nI_add]
  have n5 : v5 = nI ((N3 + N3 / 256) + (N3 + N3 / 256) / 65536) := by
    rw [e5, n4, show (16 : Int32) = nI 16 from rfl, ush_nI (by omega) 16 16 (by omega) rfl, nI_add]
  rw [n5, pk_andN (by omega) (m := 63) 6 rfl, show (2 : Nat) ^ 6 = 64 from rfl, p1, pcnt_4 ha hb hc hd (by rw [← hX]; exact eX), pc3_b _ ha, pc3_b _ hb, pc3_b _ hc, pc3_b _ hd]
end
section
set_option maxHeartbeats 4000000 in
set_option maxRecDepth 100000 in
/-- Integer.bitCount(x) -/
theorem cI_bitCount (l : Launch) (D : va_G) (tys : List (ClassId × FieldType)) (A : Nat → Prop) (ws : va_W) (x : Int32) : x_Mi l yI_bitCount wI_bitCount (xR 0) D xCl tys A [.int x] ws (fun r ws1 => r = nI (pcnt x) ∧ ws = ws1) := by
  refine x_enter (by decide) rfl (Nat.le_of_ble_eq_true rfl) (fun p e s m args below meth c ls hx hb hr hlk hml hown hnm hts hK hP hD hS hA hN hl => ?_)
  have hl : lv_has ls 1 [(0, .int x)] := hl
  refine lv_iload_n hx hb dI_bitCount_0 rfl (lv_at hl 0 rfl) ?_
  refine lv_iload_n hx hb dI_bitCount_1 rfl (lv_at hl 0 rfl) ?_
  refine lv_iconst (v := 1) hx hb dI_bitCount_2 (by decide) ?_
  refine lv_iushr (v := ((x : Int32).toUInt32 >>> ((1 : Int32).toUInt32 &&& Int32.toUInt32 31)).toInt32) hx hb dI_bitCount_3 rfl ?_
  refine lv_ldcw hx hb hown (hts _ tw_604) dI_bitCount_4 ?_
  refine lv_iand hx hb dI_bitCount_7 ?_
  refine lv_isub hx hb dI_bitCount_8 ?_
  refine lv_topi (fun v1 ev1 => ?_)
  refine lv_istore_n (lv' := [(0, .int v1)]) hx hb dI_bitCount_9 rfl hl (by decide) rfl (fun ls hl => ?_)
  refine lv_iload_n hx hb dI_bitCount_10 rfl (lv_at hl 0 rfl) ?_
  refine lv_ldcw hx hb hown (hts _ tw_605) dI_bitCount_11 ?_
  refine lv_iand hx hb dI_bitCount_14 ?_
  refine lv_iload_n hx hb dI_bitCount_15 rfl (lv_at hl 0 rfl) ?_
  refine lv_iconst (v := 2) hx hb dI_bitCount_16 (by decide) ?_
  refine lv_iushr (v := ((v1 : Int32).toUInt32 >>> ((2 : Int32).toUInt32 &&& Int32.toUInt32 31)).toInt32) hx hb dI_bitCount_17 rfl ?_
  refine lv_ldcw hx hb hown (hts _ tw_605) dI_bitCount_18 ?_
  refine lv_iand hx hb dI_bitCount_21 ?_
  refine lv_iadd hx hb dI_bitCount_22 ?_
  refine lv_topi (fun v2 ev2 => ?_)
  refine lv_istore_n (lv' := [(0, .int v2)]) hx hb dI_bitCount_23 rfl hl (by decide) rfl (fun ls hl => ?_)
  refine lv_iload_n hx hb dI_bitCount_24 rfl (lv_at hl 0 rfl) ?_
  refine lv_iload_n hx hb dI_bitCount_25 rfl (lv_at hl 0 rfl) ?_
  refine lv_iconst (v := 4) hx hb dI_bitCount_26 (by decide) ?_
  refine lv_iushr (v := ((v2 : Int32).toUInt32 >>> ((4 : Int32).toUInt32 &&& Int32.toUInt32 31)).toInt32) hx hb dI_bitCount_27 rfl ?_
  refine lv_iadd hx hb dI_bitCount_28 ?_
  refine lv_ldcw hx hb hown (hts _ tw_606) dI_bitCount_29 ?_
  refine lv_iand hx hb dI_bitCount_32 ?_
  refine lv_topi (fun v3 ev3 => ?_)
  refine lv_istore_n (lv' := [(0, .int v3)]) hx hb dI_bitCount_33 rfl hl (by decide) rfl (fun ls hl => ?_)
  refine lv_iload_n hx hb dI_bitCount_34 rfl (lv_at hl 0 rfl) ?_
  refine lv_iload_n hx hb dI_bitCount_35 rfl (lv_at hl 0 rfl) ?_
  refine lv_bipush (v := 8) hx hb dI_bitCount_36 (by decide) ?_
  refine lv_iushr (v := ((v3 : Int32).toUInt32 >>> ((8 : Int32).toUInt32 &&& Int32.toUInt32 31)).toInt32) hx hb dI_bitCount_38 rfl ?_
  refine lv_iadd hx hb dI_bitCount_39 ?_
  refine lv_topi (fun v4 ev4 => ?_)
  refine lv_istore_n (lv' := [(0, .int v4)]) hx hb dI_bitCount_40 rfl hl (by decide) rfl (fun ls hl => ?_)
  refine lv_iload_n hx hb dI_bitCount_41 rfl (lv_at hl 0 rfl) ?_
  refine lv_iload_n hx hb dI_bitCount_42 rfl (lv_at hl 0 rfl) ?_
  refine lv_bipush (v := 16) hx hb dI_bitCount_43 (by decide) ?_
  refine lv_iushr (v := ((v4 : Int32).toUInt32 >>> ((16 : Int32).toUInt32 &&& Int32.toUInt32 31)).toInt32) hx hb dI_bitCount_45 rfl ?_
  refine lv_iadd hx hb dI_bitCount_46 ?_
  refine lv_topi (fun v5 ev5 => ?_)
  refine lv_istore_n (lv' := [(0, .int v5)]) hx hb dI_bitCount_47 rfl hl (by decide) rfl (fun ls hl => ?_)
  refine lv_iload_n hx hb dI_bitCount_48 rfl (lv_at hl 0 rfl) ?_
  refine lv_bipush (v := 63) hx hb dI_bitCount_49 (by decide) ?_
  refine lv_iand hx hb dI_bitCount_51 ?_
  exact x_iret hx hb hr hlk hK hP hD hS dI_bitCount_52 ⟨pcnt_val ev1 ev2 ev3 ev4 ev5, rfl⟩

theorem xR_ok {d d2 mL : Nat} (h : d + 1 ≤ d2) (hm : mL ≤ 21) : (xR d).frames + 1 ≤ (xR d2).frames ∧ 8 + (mL + 11) + (xR d).locals ≤ (xR d2).locals := by
  constructor
  · exact h
  · show 8 + (mL + 11) + 40 * d ≤ 40 * d2
    omega
-- ===== ways =====
theorem flt_or {α : Type} (p q : α → Bool) : ∀ (l : List α), (∀ a ∈ l, ¬ (p a = true ∧ q a = true)) → (l.filter (fun a => p a || q a)).length = (l.filter p).length + (l.filter q).length := by
  intro l
  induction l with
  | nil => intro _; rfl
  | cons a t ih =>
    intro h
    have h1 := ih (fun b hb => h b (List.mem_cons_of_mem _ hb))
    have h2 := h a List.mem_cons_self
    simp only [List.filter_cons]
    cases hp : p a <;> cases hq : q a <;> simp [hp, hq, h1] at * <;> omega
theorem flt_one (p : Nat → Bool) (a : Nat) : ∀ n, a < n → ((List.range n).filter (fun u => decide (u = a) && p u)).length = if p a = true then 1 else 0 := by
  intro n
  induction n with
  | zero => intro h; exact absurd h (Nat.not_lt_zero _)
  | succ n ih =>
    intro h
    rw [List.range_succ, List.filter_append, List.length_append]
    by_cases e : a = n
    · have z : (List.range n).filter (fun u => decide (u = a) && p u) = [] := by
        rw [List.filter_eq_nil_iff]
        intro u hu
        have := List.mem_range.mp hu
        rw [decide_eq_false (by omega)]; simp
      rw [z, e]
      by_cases hp : p n = true <;> simp [List.filter_cons, hp]
    · rw [ih (by omega)]
      have z : [n].filter (fun u => decide (u = a) && p u) = [] := by
        rw [List.filter_cons, decide_eq_false (fun h => e h.symm)]; simp
      rw [z]; rfl
theorem cnt_eq (p : Nat → Bool) : ∀ (L : List Nat), L.Nodup → (∀ t ∈ L, t < 32) → (L.map (fun u => if p u = true then 1 else 0)).sum = ((List.range 32).filter (fun u => decide (u ∈ L) && p u)).length := by
  intro L
  induction L with
  | nil =>
    intro _ _
    have z : (List.range 32).filter (fun u => decide (u ∈ ([] : List Nat)) && p u) = [] := by
      rw [List.filter_eq_nil_iff]
      intro u _
      simp
    rw [z]; rfl
  | cons a t ih =>
    intro hn hl
    have hn2 := List.nodup_cons.mp hn
    have h1 := ih hn2.2 (fun u hu => hl u (List.mem_cons_of_mem _ hu))
    rw [List.map_cons, List.sum_cons, h1, ← flt_one p a 32 (hl a List.mem_cons_self), ← flt_or (fun u => decide (u = a) && p u) (fun u => decide (u ∈ t) && p u) (List.range 32) (fun u _ hc => by
      simp only [Bool.and_eq_true, decide_eq_true_eq] at hc
      obtain ⟨⟨rfl, -⟩, h3, -⟩ := hc
      exact hn2.1 h3)]
    congr 1
    apply List.filter_congr
    intro u _
    by_cases e : u = a <;> by_cases e2 : u ∈ t <;> simp [e, e2]
/-- ways from t to gb of at most so many steps, that pass none of w -/
def wy (g : Gr) (gb : Nat) : Nat → Nat → Int32 → Nat
  | 0, _, _ => 0
  | s + 1, t, w => (if gb ∈ gD g t then 1 else 0) + (if s = 0 then 0 else ((gD g t).map (fun u => if bt w u = true then 0 else wy g gb s u (w ||| ((1 : Int32) <<< (nI u &&& 31))))).sum)
theorem wy_1 (g : Gr) (gb t : Nat) (w : Int32) : wy g gb 1 t w = if gb ∈ gD g t then 1 else 0 := rfl
theorem wy_ss {g : Gr} {gb s t : Nat} {w : Int32} (h : ¬ s = 0) : wy g gb (s + 1) t w = (if gb ∈ gD g t then 1 else 0) + ((gD g t).map (fun u => if bt w u = true then 0 else wy g gb s u (w ||| ((1 : Int32) <<< (nI u &&& 31))))).sum := by
  show _ + (if s = 0 then 0 else _) = _
  rw [if_neg h]
theorem sum_take {L : List Nat} {f : Nat → Nat} {i : Nat} (h : i < L.length) : ((L.take (i + 1)).map f).sum = ((L.take i).map f).sum + f L[i] := by
  rw [List.take_succ_eq_append_getElem h, List.map_append, List.sum_append]; simp
theorem wy2 {g : Gr} (hg : GrOK g) {gb ta : Nat} {w m F6 F7 : Int32} (h6 : ∀ i, i < 32 → bt F6 i = decide (i ∈ gD g ta)) (h7 : ∀ i, i < 32 → bt F7 i = decide (gb ∈ gD g i)) (em : m = (F6 &&& (w ^^^ (-1))) &&& F7) : wy g gb 2 ta w = (if gb ∈ gD g ta then 1 else 0) + pcnt m := by
  rw [wy_ss (s := 1) (by omega)]
  congr 1
  have hn := hg.2.2.2 ta
  have e1 : (gD g ta).map (fun u => if bt w u = true then 0 else wy g gb 1 u (w ||| ((1 : Int32) <<< (nI u &&& 31)))) = (gD g ta).map (fun u => if (!(bt w u) && decide (gb ∈ gD g u)) = true then 1 else 0) := by
    apply List.map_congr_left
    intro u hu
    rw [wy_1]
    by_cases a : bt w u = true <;> by_cases b : gb ∈ gD g u <;> simp [a, b]
  rw [e1, cnt_eq (fun u => !(bt w u) && decide (gb ∈ gD g u)) (gD g ta) hn.1 (fun t ht => by have := hn.2.2 t ht; have := hg.1; omega)]
  unfold pcnt
  congr 1
  apply List.filter_congr
  intro u hu
  have hu := List.mem_range.mp hu
  rw [em, b_and, b_and, h6 u hu, h7 u hu, b_not w hu]
  cases decide (u ∈ gD g ta) <;> cases bt w u <;> cases decide (gb ∈ gD g u) <;> rfl

set_option maxHeartbeats 4000000 in
set_option maxRecDepth 100000 in
theorem cG_waysOn_0 (l : Launch) (D : va_G) (tys : List (ClassId × FieldType)) (A : Nat → Prop) (cI : ClassId) (hI : tys[0]? = some (cI, .int)) (ad : Nat → Nat) (kg : Nat) (g : Gr) (gb : Nat) (hgb : gb < g.length) (ws : va_W) (ta : Nat) (w : Int32) (hG : GraphAt cI ad ws kg g) : x_Mi l yG_waysOn wG_waysOn (xR (2 + 0)) D xCl tys A [.ref (ad kg), .int (nI ta), .int (nI gb), .int (nI 0), .int w] ws (fun r ws1 => r = nI (wy g gb 0 ta w) ∧ ws = ws1) := by
  refine x_enter (by decide) rfl (Nat.le_of_ble_eq_true rfl) (fun p e s m args below meth c ls hx hb hr hlk hml hown hnm hts hK hP hD hS hA hN hl => ?_)
  have hl : lv_has ls 8 [(0, .ref (ad kg)), (1, .int (nI ta)), (2, .int (nI gb)), (3, .int (nI 0)), (4, .int w)] := hl
  refine lv_iload_n hx hb dG_waysOn_0 rfl (lv_at hl 3 rfl) ?_
  refine lv_if_le (tgt := 26) hx hb dG_waysOn_1 (by decide) (fun c1 => ?_) (fun c1 => ?_)
  · refine lv_iconst (v := 0) hx hb dG_waysOn_26 (by decide) ?_
    exact x_iret hx hb hr hlk hK hP hD hS dG_waysOn_27 ⟨rfl, rfl⟩
  · exact absurd (by decide) c1

set_option maxHeartbeats 4000000 in
set_option maxRecDepth 100000 in
theorem cG_waysOn_s (l : Launch) (D : va_G) (tys : List (ClassId × FieldType)) (A : Nat → Prop) (cI : ClassId) (hI : tys[0]? = some (cI, .int)) (ad : Nat → Nat) (kg : Nat) (g : Gr) (gb : Nat) (hgb : gb < g.length) (sp : Nat) (hsp : sp < 6) (IH : ∀ (ws : va_W) (ta : Nat) (w : Int32), ta < g.length → GraphAt cI ad ws kg g → x_Mi l yG_waysOn wG_waysOn (xR (2 + sp)) D xCl tys A [.ref (ad kg), .int (nI ta), .int (nI gb), .int (nI sp), .int w] ws (fun r ws1 => r = nI (wy g gb sp ta w) ∧ ws = ws1)) (ws : va_W) (ta : Nat) (w : Int32) (hta : ta < g.length) (hG : GraphAt cI ad ws kg g) : x_Mi l yG_waysOn wG_waysOn (xR (2 + (sp + 1))) D xCl tys A [.ref (ad kg), .int (nI ta), .int (nI gb), .int (nI (sp + 1)), .int w] ws (fun r ws1 => r = nI (wy g gb (sp + 1) ta w) ∧ ws = ws1) := by
  obtain ⟨FF, ⟨hg0, hg1, hg2, hg3, hg4, hg5, hg6, hg7, hg8⟩, hRR⟩ := id hG
  obtain ⟨hokk, hrr1, hrr2, hrr3, hrr4, hrr5, hrr6, hrr7⟩ := id hRR
  have hle := hG.ok.1
  refine x_enter (by decide) rfl (Nat.le_of_ble_eq_true rfl) (fun p e s m args below meth c ls hx hb hr hlk hml hown hnm hts hK hP hD hS hA hN hl => ?_)
  have hl : lv_has ls 8 [(0, .ref (ad kg)), (1, .int (nI ta)), (2, .int (nI gb)), (3, .int (nI (sp + 1))), (4, .int w)] := hl
  have loop_89 : ∀ (n : Nat) (i : Nat) (sm : Int32) (hi : i ≤ 8) (ws1 : va_W) (H : Heap) (locs : List Loc) (ls : Array Slot), sm = nI ((if gb ∈ gD g ta then 1 else 0) + ((gD g ta).take i |>.map (fun u => if bt w u = true then 0 else wy g gb sp u (w ||| ((1 : Int32) <<< (nI u &&& 31))))).sum) → 1 < sp → ws = ws1 → 8 - i < n → va_P D xCl ws1 H → va_D A ws1 → va_S A s.heap H locs → lv_has ls 8 [(0, .ref (ad kg)), (1, .int (nI ta)), (2, .int (nI gb)), (3, .int (nI (sp + 1))), (4, .int w), (5, .int sm), (6, .int (nI i))] → W p l e (xR (2 + (sp + 1))) s m args below meth c H locs 0 0 (MQ below (va_Qi (fun r ws1 => r = nI (wy g gb (sp + 1) ta w) ∧ ws = ws1) (x_B D xCl tys A) A) args s 0 0 A) (F0 m 89 ls []) := by
    intro n
    induction n with
    | zero => intro i sm hi ws1 H locs ls hsm hsp2 hws hme; exact absurd hme (Nat.not_lt_zero _)
    | succ n ih =>
      intro i sm hi ws1 H locs ls hsm hsp2 hws hme hP hD hS hl
      subst hws
      refine lv_iload hx hb dG_waysOn_89 (lv_at hl 6 rfl) ?_
      refine lv_aload_n hx hb dG_waysOn_91 rfl (lv_at hl 0 rfl) ?_
      refine va_get (D := D) (cl := xCl) (ci := 0) (v := .ref (ad (kg + 5))) (C := rnG) (T := tbG) (N := 9) hx hb hts inG hown hK hP kg hg0 rfl 4 (by decide) (hts _ tw_33) (fun _ h9 => h9) rfl dG_waysOn_92 ?_
      refine lv_iload_n hx hb dG_waysOn_95 rfl (lv_at hl 1 rfl) ?_
      refine va_iald hx hb hK hP (kg + 5) 0 hg5 hI (vp_in_nI (by omega) (by omega)) dG_waysOn_96 ?_
      refine lv_topi (fun v_1 ev_1 => ?_)
      refine lv_icmp_ge (tgt := 154) hx hb dG_waysOn_97 (by decide) (fun c97 => ?_) (fun c97 => ?_)
      · refine lv_iload hx hb dG_waysOn_154 (lv_at hl 5 rfl) ?_
        exact x_iret hx hb hr hlk hK hP hD hS dG_waysOn_156 ⟨by have e : (gD g ta).take i = gD g ta := List.take_of_length_le (by rw [ev_1, nI_clamp (by omega), hrr5 ta (by omega), nI_leI (by have := (hG.ok.2.2.2 ta).2.1; omega) (by omega)] at c97; exact c97); rw [hsm, e, wy_ss (by omega)], rfl⟩
      · refine lv_iload hx hb dG_waysOn_100 (lv_at hl 6 rfl) ?_
        refine lv_bipush (v := 8) hx hb dG_waysOn_102 (by decide) ?_
        refine lv_icmp_ge (tgt := 154) hx hb dG_waysOn_104 (by decide) (fun c104 => ?_) (fun c104 => ?_)
        · refine lv_iload hx hb dG_waysOn_154 (lv_at hl 5 rfl) ?_
          exact x_iret hx hb hr hlk hK hP hD hS dG_waysOn_156 ⟨by have e : (gD g ta).take i = gD g ta := List.take_of_length_le (by have := (hG.ok.2.2.2 ta).2.1; have c104 : nI 8 ≤ nI i := c104; rw [nI_leI (by omega) (by omega)] at c104; omega); rw [hsm, e, wy_ss (by omega)], rfl⟩
        · have hl9 : i < (gD g ta).length := by rw [ev_1, nI_clamp (by omega), hrr5 ta (by omega), nI_leI (by have := (hG.ok.2.2.2 ta).2.1; omega) (by omega)] at c97; omega
          have hi8 : i < 8 := by have := (hG.ok.2.2.2 ta).2.1; omega
          have hx2 : (gD g ta)[i] < g.length := (hG.ok.2.2.2 ta).2.2 _ (List.getElem_mem hl9)
          refine lv_aload_n hx hb dG_waysOn_107 rfl (lv_at hl 0 rfl) ?_
          refine lv_iload_n hx hb dG_waysOn_108 rfl (lv_at hl 1 rfl) ?_
          refine lv_iload hx hb dG_waysOn_109 (lv_at hl 6 rfl) ?_
          refine x_calli (x_runV (n := 2) (As := [.int (nI ta), .int (nI i)]) (rest := []) ⟨hx, hb, hml, hown, hts⟩ (cG_needAt l D tys A ws cI hI ad kg g ((nI ta)) ((nI i)) hG) tw_487 tw_197 tw_198 tw_2 tw_199 (by decide +kernel) rfl rfl (xR_ok (by omega) (by omega)) ⟨Nat.zero_le _, Nat.zero_le _⟩ (va_recv hK hP (ci := 0) (q0 := kg) rfl hg0) hK hP hD hS hA hN rfl hl.1 rfl (lv_room (Nat.le_of_ble_eq_true rfl)) dG_waysOn_111) hS (fun rna ws_2 H locs hna hP hD hS => ?_)
          obtain ⟨hna, rfl⟩ := hna
          obtain rfl : rna = nI (gD g ta)[i] := by rw [hna, gAt_nI g (by omega) hl9 (by have := (hG.ok.2.2.2 ta).2.1; omega)]; simp [hl9]
          refine lv_istore (lv' := [(7, .int (nI (gD g ta)[i])), (0, .ref (ad kg)), (1, .int (nI ta)), (2, .int (nI gb)), (3, .int (nI (sp + 1))), (4, .int w), (5, .int sm), (6, .int (nI i))]) hx hb dG_waysOn_114 hl (by decide) rfl (fun ls hl => ?_)
          refine lv_iload hx hb dG_waysOn_116 (lv_at hl 5 rfl) ?_
          refine lv_iload hx hb dG_waysOn_118 (lv_at hl 0 rfl) ?_
          refine x_calli (x_runSN (n := 2) (As := [.int w, .int (nI (gD g ta)[i])]) (rest := []) ⟨hx, hb, hml, hown, hts⟩ (cQ_isIn l D tys A ws w ((nI (gD g ta)[i]))) (xN_189 hN) tw_190 tw_1 tw_191 (by decide +kernel) rfl rfl (xR_ok (by omega) (by omega)) ⟨Nat.zero_le _, Nat.zero_le _⟩ hK hP hD hS hA hN rfl hl.1 rfl (lv_room (Nat.le_of_ble_eq_true rfl)) dG_waysOn_120) hS (fun rhb4 ws_3 H locs hb4 hP hD hS => ?_)
          obtain ⟨hb4, rfl⟩ := hb4
          refine lv_if_ne (tgt := 148) hx hb dG_waysOn_123 (by decide) (fun c123 => ?_) (fun c123 => ?_)
          · refine lv_iinc (v := (nI (i + 1))) (lv' := [(6, .int (nI (i + 1))), (7, .int (nI (gD g ta)[i])), (0, .ref (ad kg)), (1, .int (nI ta)), (2, .int (nI gb)), (3, .int (nI (sp + 1))), (4, .int w), (5, .int sm)]) hx hb dG_waysOn_148 hl (k := 7) rfl (nI_1 _) (by decide) rfl (fun ls hl => ?_)
            refine lv_goto (tgt := 89) hx hb dG_waysOn_151 (by decide) ?_
            exact ih (i + 1) sm (by omega) ws _ _ _ (by rw [hb4, isIn_nI w (by omega), b2i_n0] at c123; rw [hsm, sum_take hl9, if_pos c123]; rfl) hsp2 rfl (by omega) hP hD hS (lv_sub hl [2, 3, 4, 5, 6, 7, 0] rfl)
          · refine lv_iload hx hb dG_waysOn_126 (lv_at hl 6 rfl) ?_
            refine lv_aload_n hx hb dG_waysOn_128 rfl (lv_at hl 1 rfl) ?_
            refine lv_iload hx hb dG_waysOn_129 (lv_at hl 0 rfl) ?_
            refine lv_iload_n hx hb dG_waysOn_131 rfl (lv_at hl 3 rfl) ?_
            refine lv_iload_n hx hb dG_waysOn_132 rfl (lv_at hl 4 rfl) ?_
            refine lv_iconst (v := 1) hx hb dG_waysOn_133 (by decide) ?_
            refine lv_isub hx hb dG_waysOn_134 ?_
            refine lv_topi (fun v_4 ev_4 => ?_)
            refine lv_iload hx hb dG_waysOn_135 (lv_at hl 5 rfl) ?_
            refine lv_iconst (v := 1) hx hb dG_waysOn_137 (by decide) ?_
            refine lv_iload hx hb dG_waysOn_138 (lv_at hl 0 rfl) ?_
            refine lv_ishl hx hb dG_waysOn_140 ?_
            refine lv_topi (fun v_5 ev_5 => ?_)
            refine lv_ior hx hb dG_waysOn_141 ?_
            refine lv_topi (fun v_6 ev_6 => ?_)
            obtain rfl : v_4 = nI sp := by rw [ev_4]; exact nI_pred sp
            refine x_calli (x_runV (n := 4) (As := [.int (nI (gD g ta)[i]), .int (nI gb), .int (nI sp), .int v_6]) (rest := [.int sm]) ⟨hx, hb, hml, hown, hts⟩ (IH ws (gD g ta)[i] v_6 hx2 hG) tw_597 tw_599 ts_G_waysOn tw_2 tw_600 (by decide +kernel) rfl rfl (xR_ok (by omega) (by omega)) ⟨Nat.zero_le _, Nat.zero_le _⟩ (va_recv hK hP (ci := 0) (q0 := kg) rfl hg0) hK hP hD hS hA hN rfl hl.1 rfl (lv_room (Nat.le_of_ble_eq_true rfl)) dG_waysOn_142) hS (fun rrec ws_7 H locs hrec hP hD hS => ?_)
            obtain ⟨hrec, rfl⟩ := hrec
            refine lv_iadd hx hb dG_waysOn_145 ?_
            refine lv_topi (fun v_8 ev_8 => ?_)
            refine lv_istore (lv' := [(5, .int v_8), (7, .int (nI (gD g ta)[i])), (0, .ref (ad kg)), (1, .int (nI ta)), (2, .int (nI gb)), (3, .int (nI (sp + 1))), (4, .int w), (6, .int (nI i))]) hx hb dG_waysOn_146 hl (by decide) rfl (fun ls hl => ?_)
            refine lv_iinc (v := (nI (i + 1))) (lv' := [(6, .int (nI (i + 1))), (5, .int v_8), (7, .int (nI (gD g ta)[i])), (0, .ref (ad kg)), (1, .int (nI ta)), (2, .int (nI gb)), (3, .int (nI (sp + 1))), (4, .int w)]) hx hb dG_waysOn_148 hl (k := 7) rfl (nI_1 _) (by decide) rfl (fun ls hl => ?_)
            refine lv_goto (tgt := 89) hx hb dG_waysOn_151 (by decide) ?_
            exact ih (i + 1) v_8 (by omega) ws _ _ _ (by rw [hb4, isIn_nI w (by omega), b2i_0] at c123; have hcc : ¬ bt w (gD g ta)[i] = true := (by rw [c123]; decide); rw [ev_8, hsm, hrec, nI_add, ev_6, ev_5, sum_take hl9, if_neg hcc, Nat.add_assoc]) hsp2 rfl (by omega) hP hD hS (lv_sub hl [3, 4, 5, 6, 7, 1, 0] rfl)
  refine lv_iload_n hx hb dG_waysOn_0 rfl (lv_at hl 3 rfl) ?_
  refine lv_if_le (tgt := 26) hx hb dG_waysOn_1 (by decide) (fun c1 => ?_) (fun c1 => ?_)
  · exact absurd ((nI_leI (a := sp + 1) (b := 0) (by omega) (by omega)).mp c1) (by omega)
  · refine lv_iload_n hx hb dG_waysOn_4 rfl (lv_at hl 1 rfl) ?_
    refine lv_aload_n hx hb dG_waysOn_5 rfl (lv_at hl 0 rfl) ?_
    refine va_get (D := D) (cl := xCl) (ci := 0) (v := .int (nI g.length)) (C := rnG) (T := tbG) (N := 9) hx hb hts inG hown hK hP kg hg0 rfl 8 (by decide) (hts _ tw_37) (fun _ h9 => h9) rfl dG_waysOn_6 ?_
    refine x_calli (x_runS (n := 2) (As := [.int (nI ta), .int (nI g.length)]) (rest := []) ⟨hx, hb, hml, hown, hts⟩ (cG_below l D tys A ws ((nI ta)) ((nI g.length))) tw_178 tw_179 tw_2 tw_180 (by decide +kernel) rfl rfl (xR_ok (by omega) (by omega)) ⟨Nat.zero_le _, Nat.zero_le _⟩ hK hP hD hS hA hN rfl hl.1 rfl (lv_room (Nat.le_of_ble_eq_true rfl)) dG_waysOn_9) hS (fun rhb1 ws_9 H locs hb1 hP hD hS => ?_)
    obtain ⟨hb1, rfl⟩ := hb1
    refine lv_if_eq (tgt := 26) hx hb dG_waysOn_12 (by decide) (fun c12 => ?_) (fun c12 => ?_)
    · exact absurd (blw_no (by omega) hb1 c12) (fun h => h ⟨by rw [nI_toInt (by omega)]; omega, by rw [nI_toInt (by omega)]; omega⟩)
    · refine lv_iload_n hx hb dG_waysOn_15 rfl (lv_at hl 2 rfl) ?_
      refine lv_aload_n hx hb dG_waysOn_16 rfl (lv_at hl 0 rfl) ?_
      refine va_get (D := D) (cl := xCl) (ci := 0) (v := .int (nI g.length)) (C := rnG) (T := tbG) (N := 9) hx hb hts inG hown hK hP kg hg0 rfl 8 (by decide) (hts _ tw_37) (fun _ h9 => h9) rfl dG_waysOn_17 ?_
      refine x_calli (x_runS (n := 2) (As := [.int (nI gb), .int (nI g.length)]) (rest := []) ⟨hx, hb, hml, hown, hts⟩ (cG_below l D tys A ws ((nI gb)) ((nI g.length))) tw_178 tw_179 tw_2 tw_180 (by decide +kernel) rfl rfl (xR_ok (by omega) (by omega)) ⟨Nat.zero_le _, Nat.zero_le _⟩ hK hP hD hS hA hN rfl hl.1 rfl (lv_room (Nat.le_of_ble_eq_true rfl)) dG_waysOn_20) hS (fun rhb2 ws_10 H locs hb2 hP hD hS => ?_)
      obtain ⟨hb2, rfl⟩ := hb2
      refine lv_if_ne (tgt := 28) hx hb dG_waysOn_23 (by decide) (fun c23 => ?_) (fun c23 => ?_)
      · refine lv_aload_n hx hb dG_waysOn_28 rfl (lv_at hl 0 rfl) ?_
        refine va_get (D := D) (cl := xCl) (ci := 0) (v := .ref (ad (kg + 6))) (C := rnG) (T := tbG) (N := 9) hx hb hts inG hown hK hP kg hg0 rfl 5 (by decide) (hts _ tw_34) (fun _ h9 => h9) rfl dG_waysOn_29 ?_
        refine lv_iload_n hx hb dG_waysOn_32 rfl (lv_at hl 1 rfl) ?_
        refine va_iald hx hb hK hP (kg + 6) 0 hg6 hI (vp_in_nI (by omega) (by omega)) dG_waysOn_33 ?_
        refine lv_topi (fun v_11 ev_11 => ?_)
        refine lv_iload_n hx hb dG_waysOn_34 rfl (lv_at hl 2 rfl) ?_
        refine x_calli (x_runSN (n := 2) (As := [.int v_11, .int (nI gb)]) (rest := []) ⟨hx, hb, hml, hown, hts⟩ (cQ_isIn l D tys A ws v_11 ((nI gb))) (xN_189 hN) tw_190 tw_1 tw_191 (by decide +kernel) rfl rfl (xR_ok (by omega) (by omega)) ⟨Nat.zero_le _, Nat.zero_le _⟩ hK hP hD hS hA hN rfl hl.1 rfl (lv_room (Nat.le_of_ble_eq_true rfl)) dG_waysOn_35) hS (fun rhb3 ws_12 H locs hb3 hP hD hS => ?_)
        obtain ⟨hb3, rfl⟩ := hb3
        refine lv_if_eq (tgt := 45) hx hb dG_waysOn_38 (by decide) (fun c38 => ?_) (fun c38 => ?_)
        · refine lv_iconst (v := 0) hx hb dG_waysOn_45 (by decide) ?_
          have hsm : (0 : Int32) = nI (if gb ∈ gD g ta then 1 else 0) := by rw [hb3, isIn_nI _ (by omega), b2i_0, ev_11, nI_clamp (by omega), hrr6 ta (by omega) gb (by omega), decide_eq_false_iff_not] at c38; rw [if_neg c38]; rfl
          rw [hsm]
          refine lv_istore (lv' := [(5, .int (nI (if gb ∈ gD g ta then 1 else 0))), (0, .ref (ad kg)), (1, .int (nI ta)), (2, .int (nI gb)), (3, .int (nI (sp + 1))), (4, .int w)]) hx hb dG_waysOn_46 hl (by decide) rfl (fun ls hl => ?_)
          refine lv_iload_n hx hb dG_waysOn_48 rfl (lv_at hl 4 rfl) ?_
          refine lv_iconst (v := 1) hx hb dG_waysOn_49 (by decide) ?_
          refine lv_icmp_ne (tgt := 56) hx hb dG_waysOn_50 (by decide) (fun c50 => ?_) (fun c50 => ?_)
          · refine lv_iload_n hx hb dG_waysOn_56 rfl (lv_at hl 4 rfl) ?_
            refine lv_iconst (v := 2) hx hb dG_waysOn_57 (by decide) ?_
            refine lv_icmp_ne (tgt := 86) hx hb dG_waysOn_58 (by decide) (fun c58 => ?_) (fun c58 => ?_)
            · refine lv_iconst (v := 0) hx hb dG_waysOn_86 (by decide) ?_
              refine lv_istore (lv' := [(6, .int 0), (5, .int (nI (if gb ∈ gD g ta then 1 else 0))), (0, .ref (ad kg)), (1, .int (nI ta)), (2, .int (nI gb)), (3, .int (nI (sp + 1))), (4, .int w)]) hx hb dG_waysOn_87 hl (by decide) rfl (fun ls hl => ?_)
              exact loop_89 _ 0 (nI (if gb ∈ gD g ta then 1 else 0)) (Nat.zero_le _) ws _ _ _ (by rw [List.take_zero]; rfl) (by have c50 : ¬ nI (sp + 1) = nI 1 := c50; have c58 : ¬ nI (sp + 1) = nI 2 := c58; rw [nI_eq (by omega) (by omega)] at c50 c58; omega) rfl (Nat.lt_succ_self _) hP hD hS (lv_sub hl [2, 3, 4, 5, 6, 1, 0] rfl)
            · refine lv_iload hx hb dG_waysOn_61 (lv_at hl 0 rfl) ?_
              refine lv_aload_n hx hb dG_waysOn_63 rfl (lv_at hl 1 rfl) ?_
              refine va_get (D := D) (cl := xCl) (ci := 0) (v := .ref (ad (kg + 6))) (C := rnG) (T := tbG) (N := 9) hx hb hts inG hown hK hP kg hg0 rfl 5 (by decide) (hts _ tw_34) (fun _ h9 => h9) rfl dG_waysOn_64 ?_
              refine lv_iload_n hx hb dG_waysOn_67 rfl (lv_at hl 2 rfl) ?_
              refine va_iald hx hb hK hP (kg + 6) 0 hg6 hI (vp_in_nI (by omega) (by omega)) dG_waysOn_68 ?_
              refine lv_topi (fun v_13 ev_13 => ?_)
              refine lv_iload hx hb dG_waysOn_69 (lv_at hl 5 rfl) ?_
              refine lv_iconst (v := (-1)) hx hb dG_waysOn_71 (by decide) ?_
              refine lv_ixor hx hb dG_waysOn_72 ?_
              refine lv_topi (fun v_14 ev_14 => ?_)
              refine lv_iand hx hb dG_waysOn_73 ?_
              refine lv_topi (fun v_15 ev_15 => ?_)
              refine lv_aload_n hx hb dG_waysOn_74 rfl (lv_at hl 1 rfl) ?_
              refine va_get (D := D) (cl := xCl) (ci := 0) (v := .ref (ad (kg + 7))) (C := rnG) (T := tbG) (N := 9) hx hb hts inG hown hK hP kg hg0 rfl 6 (by decide) (hts _ tw_35) (fun _ h9 => h9) rfl dG_waysOn_75 ?_
              refine lv_iload_n hx hb dG_waysOn_78 rfl (lv_at hl 3 rfl) ?_
              refine va_iald hx hb hK hP (kg + 7) 0 hg7 hI (vp_in_nI (by omega) (by omega)) dG_waysOn_79 ?_
              refine lv_topi (fun v_16 ev_16 => ?_)
              refine lv_iand hx hb dG_waysOn_80 ?_
              refine lv_topi (fun v_17 ev_17 => ?_)
              have hmm : v_17 = (FF 6 ta &&& (w ^^^ (-1))) &&& FF 7 gb := by rw [ev_17, ev_15, ev_16, ev_13, ev_14, nI_clamp (by omega), nI_clamp (by omega)]
              refine x_calli (x_runS (n := 1) (As := [.int v_17]) (rest := [.int (nI (if gb ∈ gD g ta then 1 else 0))]) ⟨hx, hb, hml, hown, hts⟩ (cI_bitCount l D tys A ws v_17) tw_601 tw_602 tw_14 tw_603 (by decide +kernel) rfl rfl (xR_ok (by omega) (by omega)) ⟨Nat.zero_le _, Nat.zero_le _⟩ hK hP hD hS hA hN rfl hl.1 rfl (lv_room (Nat.le_of_ble_eq_true rfl)) dG_waysOn_81) hS (fun rbc ws_18 H locs hbc hP hD hS => ?_)
              obtain ⟨hbc, rfl⟩ := hbc
              refine lv_iadd hx hb dG_waysOn_84 ?_
              refine lv_topi (fun v_19 ev_19 => ?_)
              exact x_iret hx hb hr hlk hK hP hD hS dG_waysOn_85 ⟨by have e : sp = 1 := (by have c58 : nI (sp + 1) = nI 2 := c58; rw [nI_eq (by omega) (by omega)] at c58; omega); subst e; rw [ev_19, hbc, nI_add, wy2 hG.ok (F6 := FF 6 ta) (F7 := FF 7 gb) (fun i hi => hrr6 ta (by omega) i hi) (fun i hi => hrr7 gb (by omega) i hi) hmm], rfl⟩
          · refine lv_iload hx hb dG_waysOn_53 (lv_at hl 0 rfl) ?_
            exact x_iret hx hb hr hlk hK hP hD hS dG_waysOn_55 ⟨by have e : sp = 0 := (by have c50 : nI (sp + 1) = nI 1 := c50; rw [nI_eq (by omega) (by omega)] at c50; omega); subst e; rw [wy_1], rfl⟩
        · refine lv_iconst (v := 1) hx hb dG_waysOn_41 (by decide) ?_
          refine lv_goto (tgt := 46) hx hb dG_waysOn_42 (by decide) ?_
          have hsm : (1 : Int32) = nI (if gb ∈ gD g ta then 1 else 0) := by rw [hb3, isIn_nI _ (by omega), b2i_n0, ev_11, nI_clamp (by omega), hrr6 ta (by omega) gb (by omega), decide_eq_true_eq] at c38; rw [if_pos c38]; rfl
          rw [hsm]
          refine lv_istore (lv' := [(5, .int (nI (if gb ∈ gD g ta then 1 else 0))), (0, .ref (ad kg)), (1, .int (nI ta)), (2, .int (nI gb)), (3, .int (nI (sp + 1))), (4, .int w)]) hx hb dG_waysOn_46 hl (by decide) rfl (fun ls hl => ?_)
          refine lv_iload_n hx hb dG_waysOn_48 rfl (lv_at hl 4 rfl) ?_
          refine lv_iconst (v := 1) hx hb dG_waysOn_49 (by decide) ?_
          refine lv_icmp_ne (tgt := 56) hx hb dG_waysOn_50 (by decide) (fun c50 => ?_) (fun c50 => ?_)
          · refine lv_iload_n hx hb dG_waysOn_56 rfl (lv_at hl 4 rfl) ?_
            refine lv_iconst (v := 2) hx hb dG_waysOn_57 (by decide) ?_
            refine lv_icmp_ne (tgt := 86) hx hb dG_waysOn_58 (by decide) (fun c58 => ?_) (fun c58 => ?_)
            · refine lv_iconst (v := 0) hx hb dG_waysOn_86 (by decide) ?_
              refine lv_istore (lv' := [(6, .int 0), (5, .int (nI (if gb ∈ gD g ta then 1 else 0))), (0, .ref (ad kg)), (1, .int (nI ta)), (2, .int (nI gb)), (3, .int (nI (sp + 1))), (4, .int w)]) hx hb dG_waysOn_87 hl (by decide) rfl (fun ls hl => ?_)
              exact loop_89 _ 0 (nI (if gb ∈ gD g ta then 1 else 0)) (Nat.zero_le _) ws _ _ _ (by rw [List.take_zero]; rfl) (by have c50 : ¬ nI (sp + 1) = nI 1 := c50; have c58 : ¬ nI (sp + 1) = nI 2 := c58; rw [nI_eq (by omega) (by omega)] at c50 c58; omega) rfl (Nat.lt_succ_self _) hP hD hS (lv_sub hl [2, 3, 4, 5, 6, 1, 0] rfl)
            · refine lv_iload hx hb dG_waysOn_61 (lv_at hl 0 rfl) ?_
              refine lv_aload_n hx hb dG_waysOn_63 rfl (lv_at hl 1 rfl) ?_
              refine va_get (D := D) (cl := xCl) (ci := 0) (v := .ref (ad (kg + 6))) (C := rnG) (T := tbG) (N := 9) hx hb hts inG hown hK hP kg hg0 rfl 5 (by decide) (hts _ tw_34) (fun _ h9 => h9) rfl dG_waysOn_64 ?_
              refine lv_iload_n hx hb dG_waysOn_67 rfl (lv_at hl 2 rfl) ?_
              refine va_iald hx hb hK hP (kg + 6) 0 hg6 hI (vp_in_nI (by omega) (by omega)) dG_waysOn_68 ?_
              refine lv_topi (fun v_20 ev_20 => ?_)
              refine lv_iload hx hb dG_waysOn_69 (lv_at hl 5 rfl) ?_
              refine lv_iconst (v := (-1)) hx hb dG_waysOn_71 (by decide) ?_
              refine lv_ixor hx hb dG_waysOn_72 ?_
              refine lv_topi (fun v_21 ev_21 => ?_)
              refine lv_iand hx hb dG_waysOn_73 ?_
              refine lv_topi (fun v_22 ev_22 => ?_)
              refine lv_aload_n hx hb dG_waysOn_74 rfl (lv_at hl 1 rfl) ?_
              refine va_get (D := D) (cl := xCl) (ci := 0) (v := .ref (ad (kg + 7))) (C := rnG) (T := tbG) (N := 9) hx hb hts inG hown hK hP kg hg0 rfl 6 (by decide) (hts _ tw_35) (fun _ h9 => h9) rfl dG_waysOn_75 ?_
              refine lv_iload_n hx hb dG_waysOn_78 rfl (lv_at hl 3 rfl) ?_
              refine va_iald hx hb hK hP (kg + 7) 0 hg7 hI (vp_in_nI (by omega) (by omega)) dG_waysOn_79 ?_
              refine lv_topi (fun v_23 ev_23 => ?_)
              refine lv_iand hx hb dG_waysOn_80 ?_
              refine lv_topi (fun v_24 ev_24 => ?_)
              have hmm : v_24 = (FF 6 ta &&& (w ^^^ (-1))) &&& FF 7 gb := by rw [ev_24, ev_22, ev_23, ev_20, ev_21, nI_clamp (by omega), nI_clamp (by omega)]
              refine x_calli (x_runS (n := 1) (As := [.int v_24]) (rest := [.int (nI (if gb ∈ gD g ta then 1 else 0))]) ⟨hx, hb, hml, hown, hts⟩ (cI_bitCount l D tys A ws v_24) tw_601 tw_602 tw_14 tw_603 (by decide +kernel) rfl rfl (xR_ok (by omega) (by omega)) ⟨Nat.zero_le _, Nat.zero_le _⟩ hK hP hD hS hA hN rfl hl.1 rfl (lv_room (Nat.le_of_ble_eq_true rfl)) dG_waysOn_81) hS (fun rbc ws_25 H locs hbc hP hD hS => ?_)
              obtain ⟨hbc, rfl⟩ := hbc
              refine lv_iadd hx hb dG_waysOn_84 ?_
              refine lv_topi (fun v_26 ev_26 => ?_)
              exact x_iret hx hb hr hlk hK hP hD hS dG_waysOn_85 ⟨by have e : sp = 1 := (by have c58 : nI (sp + 1) = nI 2 := c58; rw [nI_eq (by omega) (by omega)] at c58; omega); subst e; rw [ev_26, hbc, nI_add, wy2 hG.ok (F6 := FF 6 ta) (F7 := FF 7 gb) (fun i hi => hrr6 ta (by omega) i hi) (fun i hi => hrr7 gb (by omega) i hi) hmm], rfl⟩
          · refine lv_iload hx hb dG_waysOn_53 (lv_at hl 0 rfl) ?_
            exact x_iret hx hb hr hlk hK hP hD hS dG_waysOn_55 ⟨by have e : sp = 0 := (by have c50 : nI (sp + 1) = nI 1 := c50; rw [nI_eq (by omega) (by omega)] at c50; omega); subst e; rw [wy_1], rfl⟩
      · exact absurd (blw_no (by omega) hb2 c23) (fun h => h ⟨by rw [nI_toInt (by omega)]; omega, by rw [nI_toInt (by omega)]; omega⟩)

/-- Graph.waysOn(t, goal, steps, passed) -/
theorem cG_waysOn (l : Launch) (D : va_G) (tys : List (ClassId × FieldType)) (A : Nat → Prop) (cI : ClassId) (hI : tys[0]? = some (cI, .int)) (ad : Nat → Nat) (kg : Nat) (g : Gr) (gb : Nat) (hgb : gb < g.length) : ∀ (st : Nat), st ≤ 6 → ∀ (ws : va_W) (ta : Nat) (w : Int32), ta < g.length → GraphAt cI ad ws kg g → x_Mi l yG_waysOn wG_waysOn (xR (2 + st)) D xCl tys A [.ref (ad kg), .int (nI ta), .int (nI gb), .int (nI st), .int w] ws (fun r ws1 => r = nI (wy g gb st ta w) ∧ ws = ws1) := by
  intro st
  induction st with
  | zero => intro _ ws ta w _ hG; exact cG_waysOn_0 l D tys A cI hI ad kg g gb hgb ws ta w hG
  | succ sp IH => intro hs ws ta w hta hG; exact cG_waysOn_s l D tys A cI hI ad kg g gb hgb sp (by omega) (IH (by omega)) ws ta w hta hG
end
section
theorem dX_init_0 : decode bX_init 0 = .ok (.aload_n 0, 1) := by decide +kernel
theorem dX_init_1 : decode bX_init 1 = .ok (.invokespecial 3, 3) := by decide +kernel
theorem dX_init_4 : decode bX_init 4 = .ok (.aload_n 0, 1) := by decide +kernel
theorem dX_init_5 : decode bX_init 5 = .ok (.bipush 80, 2) := by decide +kernel
theorem dX_init_7 : decode bX_init 7 = .ok (.newarray .char, 2) := by decide +kernel
theorem dX_init_9 : decode bX_init 9 = .ok (.putfield 9, 3) := by decide +kernel
theorem dX_init_12 : decode bX_init 12 = .ok (.aload_n 0, 1) := by decide +kernel
theorem dX_init_13 : decode bX_init 13 = .ok (.iconst 0, 1) := by decide +kernel
theorem dX_init_14 : decode bX_init 14 = .ok (.putfield 15, 3) := by decide +kernel
theorem dX_init_17 : decode bX_init 17 = .ok (.return_, 1) := by decide +kernel
theorem dX_append_0 : decode bX_append 0 = .ok (.iload_n 1, 1) := by decide +kernel
theorem dX_append_1 : decode bX_append 1 = .ok (.bipush 32, 2) := by decide +kernel
theorem dX_append_3 : decode bX_append 3 = .ok (.if_icmp .lt 21, 3) := by decide +kernel
theorem dX_append_6 : decode bX_append 6 = .ok (.iload_n 1, 1) := by decide +kernel
theorem dX_append_7 : decode bX_append 7 = .ok (.bipush 126, 2) := by decide +kernel
theorem dX_append_9 : decode bX_append 9 = .ok (.if_icmp .gt 15, 3) := by decide +kernel
theorem dX_append_12 : decode bX_append 12 = .ok (.aload_n 0, 1) := by decide +kernel
theorem dX_append_13 : decode bX_append 13 = .ok (.getfield 15, 3) := by decide +kernel
theorem dX_append_16 : decode bX_append 16 = .ok (.aload_n 0, 1) := by decide +kernel
theorem dX_append_17 : decode bX_append 17 = .ok (.getfield 9, 3) := by decide +kernel
theorem dX_append_20 : decode bX_append 20 = .ok (.arraylength, 1) := by decide +kernel
theorem dX_append_21 : decode bX_append 21 = .ok (.if_icmp .lt 5, 3) := by decide +kernel
theorem dX_append_24 : decode bX_append 24 = .ok (.iconst 0, 1) := by decide +kernel
theorem dX_append_25 : decode bX_append 25 = .ok (.ireturn, 1) := by decide +kernel
theorem dX_append_26 : decode bX_append 26 = .ok (.aload_n 0, 1) := by decide +kernel
theorem dX_append_27 : decode bX_append 27 = .ok (.getfield 9, 3) := by decide +kernel
theorem dX_append_30 : decode bX_append 30 = .ok (.aload_n 0, 1) := by decide +kernel
theorem dX_append_31 : decode bX_append 31 = .ok (.getfield 15, 3) := by decide +kernel
theorem dX_append_34 : decode bX_append 34 = .ok (.iload_n 1, 1) := by decide +kernel
theorem dX_append_35 : decode bX_append 35 = .ok (.castore, 1) := by decide +kernel
theorem dX_append_36 : decode bX_append 36 = .ok (.aload_n 0, 1) := by decide +kernel
theorem dX_append_37 : decode bX_append 37 = .ok (.dup, 1) := by decide +kernel
theorem dX_append_38 : decode bX_append 38 = .ok (.getfield 15, 3) := by decide +kernel
theorem dX_append_41 : decode bX_append 41 = .ok (.iconst 1, 1) := by decide +kernel
theorem dX_append_42 : decode bX_append 42 = .ok (.iadd, 1) := by decide +kernel
theorem dX_append_43 : decode bX_append 43 = .ok (.putfield 15, 3) := by decide +kernel
theorem dX_append_46 : decode bX_append 46 = .ok (.iconst 1, 1) := by decide +kernel
theorem dX_append_47 : decode bX_append 47 = .ok (.ireturn, 1) := by decide +kernel
theorem dX_clear_0 : decode bX_clear 0 = .ok (.aload_n 0, 1) := by decide +kernel
theorem dX_clear_1 : decode bX_clear 1 = .ok (.iconst 0, 1) := by decide +kernel
theorem dX_clear_2 : decode bX_clear 2 = .ok (.putfield 15, 3) := by decide +kernel
theorem dX_clear_5 : decode bX_clear 5 = .ok (.return_, 1) := by decide +kernel
theorem dX_split_0 : decode bX_split 0 = .ok (.aload_n 1, 1) := by decide +kernel
theorem dX_split_1 : decode bX_split 1 = .ok (.invokevirtual 19, 3) := by decide +kernel
theorem dX_split_4 : decode bX_split 4 = .ok (.iconst 0, 1) := by decide +kernel
theorem dX_split_5 : decode bX_split 5 = .ok (.istore_n 2, 1) := by decide +kernel
theorem dX_split_6 : decode bX_split 6 = .ok (.iload_n 2, 1) := by decide +kernel
theorem dX_split_7 : decode bX_split 7 = .ok (.aload_n 0, 1) := by decide +kernel
theorem dX_split_8 : decode bX_split 8 = .ok (.getfield 15, 3) := by decide +kernel
theorem dX_split_11 : decode bX_split 11 = .ok (.if_icmp .ge 107, 3) := by decide +kernel
theorem dX_split_14 : decode bX_split 14 = .ok (.aload_n 0, 1) := by decide +kernel
theorem dX_split_15 : decode bX_split 15 = .ok (.iload_n 2, 1) := by decide +kernel
theorem dX_split_16 : decode bX_split 16 = .ok (.invokevirtual 24, 3) := by decide +kernel
theorem dX_split_19 : decode bX_split 19 = .ok (.istore_n 3, 1) := by decide +kernel
theorem dX_split_20 : decode bX_split 20 = .ok (.iload_n 3, 1) := by decide +kernel
theorem dX_split_21 : decode bX_split 21 = .ok (.invokestatic 28, 3) := by decide +kernel
theorem dX_split_24 : decode bX_split 24 = .ok (.ifCond .eq 64, 3) := by decide +kernel
theorem dX_split_27 : decode bX_split 27 = .ok (.iload_n 2, 1) := by decide +kernel
theorem dX_split_28 : decode bX_split 28 = .ok (.istore 4, 2) := by decide +kernel
theorem dX_split_30 : decode bX_split 30 = .ok (.iload_n 2, 1) := by decide +kernel
theorem dX_split_31 : decode bX_split 31 = .ok (.iconst 1, 1) := by decide +kernel
theorem dX_split_32 : decode bX_split 32 = .ok (.iadd, 1) := by decide +kernel
theorem dX_split_33 : decode bX_split 33 = .ok (.aload_n 0, 1) := by decide +kernel
theorem dX_split_34 : decode bX_split 34 = .ok (.getfield 15, 3) := by decide +kernel
theorem dX_split_37 : decode bX_split 37 = .ok (.if_icmp .ge 22, 3) := by decide +kernel
theorem dX_split_40 : decode bX_split 40 = .ok (.aload_n 0, 1) := by decide +kernel
theorem dX_split_41 : decode bX_split 41 = .ok (.iload_n 2, 1) := by decide +kernel
theorem dX_split_42 : decode bX_split 42 = .ok (.iconst 1, 1) := by decide +kernel
theorem dX_split_43 : decode bX_split 43 = .ok (.iadd, 1) := by decide +kernel
theorem dX_split_44 : decode bX_split 44 = .ok (.invokevirtual 24, 3) := by decide +kernel
theorem dX_split_47 : decode bX_split 47 = .ok (.invokestatic 28, 3) := by decide +kernel
theorem dX_split_50 : decode bX_split 50 = .ok (.ifCond .eq 9, 3) := by decide +kernel
theorem dX_split_53 : decode bX_split 53 = .ok (.iinc 2 1, 3) := by decide +kernel
theorem dX_split_56 : decode bX_split 56 = .ok (.goto (-26), 3) := by decide +kernel
theorem dX_split_59 : decode bX_split 59 = .ok (.aload_n 0, 1) := by decide +kernel
theorem dX_split_60 : decode bX_split 60 = .ok (.iload 4, 2) := by decide +kernel
theorem dX_split_62 : decode bX_split 62 = .ok (.iload_n 2, 1) := by decide +kernel
theorem dX_split_63 : decode bX_split 63 = .ok (.invokevirtual 32, 3) := by decide +kernel
theorem dX_split_66 : decode bX_split 66 = .ok (.istore 5, 2) := by decide +kernel
theorem dX_split_68 : decode bX_split 68 = .ok (.aload_n 1, 1) := by decide +kernel
theorem dX_split_69 : decode bX_split 69 = .ok (.iload 5, 2) := by decide +kernel
theorem dX_split_71 : decode bX_split 71 = .ok (.aload_n 0, 1) := by decide +kernel
theorem dX_split_72 : decode bX_split 72 = .ok (.iload 5, 2) := by decide +kernel
theorem dX_split_74 : decode bX_split 74 = .ok (.iload 4, 2) := by decide +kernel
theorem dX_split_76 : decode bX_split 76 = .ok (.iload_n 2, 1) := by decide +kernel
theorem dX_split_77 : decode bX_split 77 = .ok (.invokevirtual 36, 3) := by decide +kernel
theorem dX_split_80 : decode bX_split 80 = .ok (.iload 4, 2) := by decide +kernel
theorem dX_split_82 : decode bX_split 82 = .ok (.invokevirtual 40, 3) := by decide +kernel
theorem dX_split_85 : decode bX_split 85 = .ok (.goto 27, 3) := by decide +kernel
theorem dX_split_88 : decode bX_split 88 = .ok (.iload_n 3, 1) := by decide +kernel
theorem dX_split_89 : decode bX_split 89 = .ok (.bipush 32, 2) := by decide +kernel
theorem dX_split_91 : decode bX_split 91 = .ok (.if_icmp .eq 21, 3) := by decide +kernel
theorem dX_split_94 : decode bX_split 94 = .ok (.aload_n 1, 1) := by decide +kernel
theorem dX_split_95 : decode bX_split 95 = .ok (.iload_n 3, 1) := by decide +kernel
theorem dX_split_96 : decode bX_split 96 = .ok (.invokestatic 44, 3) := by decide +kernel
theorem dX_split_99 : decode bX_split 99 = .ok (.ifCond .eq 7, 3) := by decide +kernel
theorem dX_split_102 : decode bX_split 102 = .ok (.iload_n 3, 1) := by decide +kernel
theorem dX_split_103 : decode bX_split 103 = .ok (.goto 4, 3) := by decide +kernel
theorem dX_split_106 : decode bX_split 106 = .ok (.iconst 1, 1) := by decide +kernel
theorem dX_split_107 : decode bX_split 107 = .ok (.iconst 0, 1) := by decide +kernel
theorem dX_split_108 : decode bX_split 108 = .ok (.iload_n 2, 1) := by decide +kernel
theorem dX_split_109 : decode bX_split 109 = .ok (.invokevirtual 40, 3) := by decide +kernel
theorem dX_split_112 : decode bX_split 112 = .ok (.iinc 2 1, 3) := by decide +kernel
theorem dX_split_115 : decode bX_split 115 = .ok (.goto (-109), 3) := by decide +kernel
theorem dX_split_118 : decode bX_split 118 = .ok (.aload_n 1, 1) := by decide +kernel
theorem dX_split_119 : decode bX_split 119 = .ok (.iconst 0, 1) := by decide +kernel
theorem dX_split_120 : decode bX_split 120 = .ok (.iconst 0, 1) := by decide +kernel
theorem dX_split_121 : decode bX_split 121 = .ok (.aload_n 0, 1) := by decide +kernel
theorem dX_split_122 : decode bX_split 122 = .ok (.getfield 15, 3) := by decide +kernel
theorem dX_split_125 : decode bX_split 125 = .ok (.invokevirtual 40, 3) := by decide +kernel
theorem dX_split_128 : decode bX_split 128 = .ok (.return_, 1) := by decide +kernel
theorem dX_charAt_0 : decode bX_charAt 0 = .ok (.iload_n 1, 1) := by decide +kernel
theorem dX_charAt_1 : decode bX_charAt 1 = .ok (.ifCond .lt 20, 3) := by decide +kernel
theorem dX_charAt_4 : decode bX_charAt 4 = .ok (.iload_n 1, 1) := by decide +kernel
theorem dX_charAt_5 : decode bX_charAt 5 = .ok (.aload_n 0, 1) := by decide +kernel
theorem dX_charAt_6 : decode bX_charAt 6 = .ok (.getfield 15, 3) := by decide +kernel
theorem dX_charAt_9 : decode bX_charAt 9 = .ok (.if_icmp .ge 12, 3) := by decide +kernel
theorem dX_charAt_12 : decode bX_charAt 12 = .ok (.aload_n 0, 1) := by decide +kernel
theorem dX_charAt_13 : decode bX_charAt 13 = .ok (.getfield 9, 3) := by decide +kernel
theorem dX_charAt_16 : decode bX_charAt 16 = .ok (.iload_n 1, 1) := by decide +kernel
theorem dX_charAt_17 : decode bX_charAt 17 = .ok (.caload, 1) := by decide +kernel
theorem dX_charAt_18 : decode bX_charAt 18 = .ok (.goto 5, 3) := by decide +kernel
theorem dX_charAt_21 : decode bX_charAt 21 = .ok (.bipush 32, 2) := by decide +kernel
theorem dX_charAt_23 : decode bX_charAt 23 = .ok (.ireturn, 1) := by decide +kernel
theorem dX_rowKind_0 : decode bX_rowKind 0 = .ok (.iload_n 2, 1) := by decide +kernel
theorem dX_rowKind_1 : decode bX_rowKind 1 = .ok (.iload_n 1, 1) := by decide +kernel
theorem dX_rowKind_2 : decode bX_rowKind 2 = .ok (.isub, 1) := by decide +kernel
theorem dX_rowKind_3 : decode bX_rowKind 3 = .ok (.iconst 1, 1) := by decide +kernel
theorem dX_rowKind_4 : decode bX_rowKind 4 = .ok (.iadd, 1) := by decide +kernel
theorem dX_rowKind_5 : decode bX_rowKind 5 = .ok (.istore_n 3, 1) := by decide +kernel
theorem dX_rowKind_6 : decode bX_rowKind 6 = .ok (.aload_n 0, 1) := by decide +kernel
theorem dX_rowKind_7 : decode bX_rowKind 7 = .ok (.iload_n 1, 1) := by decide +kernel
theorem dX_rowKind_8 : decode bX_rowKind 8 = .ok (.invokevirtual 24, 3) := by decide +kernel
theorem dX_rowKind_11 : decode bX_rowKind 11 = .ok (.istore 4, 2) := by decide +kernel
theorem dX_rowKind_13 : decode bX_rowKind 13 = .ok (.iload_n 3, 1) := by decide +kernel
theorem dX_rowKind_14 : decode bX_rowKind 14 = .ok (.iconst 1, 1) := by decide +kernel
theorem dX_rowKind_15 : decode bX_rowKind 15 = .ok (.if_icmp .ne 13, 3) := by decide +kernel
theorem dX_rowKind_18 : decode bX_rowKind 18 = .ok (.iload 4, 2) := by decide +kernel
theorem dX_rowKind_20 : decode bX_rowKind 20 = .ok (.invokestatic 47, 3) := by decide +kernel
theorem dX_rowKind_23 : decode bX_rowKind 23 = .ok (.ifCond .eq 5, 3) := by decide +kernel
theorem dX_rowKind_26 : decode bX_rowKind 26 = .ok (.iconst 3, 1) := by decide +kernel
theorem dX_rowKind_27 : decode bX_rowKind 27 = .ok (.ireturn, 1) := by decide +kernel
theorem dX_rowKind_28 : decode bX_rowKind 28 = .ok (.iload_n 3, 1) := by decide +kernel
theorem dX_rowKind_29 : decode bX_rowKind 29 = .ok (.iconst 2, 1) := by decide +kernel
theorem dX_rowKind_30 : decode bX_rowKind 30 = .ok (.if_icmp .gt 24, 3) := by decide +kernel
theorem dX_rowKind_33 : decode bX_rowKind 33 = .ok (.iload 4, 2) := by decide +kernel
theorem dX_rowKind_35 : decode bX_rowKind 35 = .ok (.invokestatic 50, 3) := by decide +kernel
theorem dX_rowKind_38 : decode bX_rowKind 38 = .ok (.ifCond .eq 16, 3) := by decide +kernel
theorem dX_rowKind_41 : decode bX_rowKind 41 = .ok (.aload_n 0, 1) := by decide +kernel
theorem dX_rowKind_42 : decode bX_rowKind 42 = .ok (.iload_n 2, 1) := by decide +kernel
theorem dX_rowKind_43 : decode bX_rowKind 43 = .ok (.invokevirtual 24, 3) := by decide +kernel
theorem dX_rowKind_46 : decode bX_rowKind 46 = .ok (.invokestatic 50, 3) := by decide +kernel
theorem dX_rowKind_49 : decode bX_rowKind 49 = .ok (.ifCond .eq 5, 3) := by decide +kernel
theorem dX_rowKind_52 : decode bX_rowKind 52 = .ok (.iconst 4, 1) := by decide +kernel
theorem dX_rowKind_53 : decode bX_rowKind 53 = .ok (.ireturn, 1) := by decide +kernel
theorem dX_rowKind_54 : decode bX_rowKind 54 = .ok (.iload_n 3, 1) := by decide +kernel
theorem dX_rowKind_55 : decode bX_rowKind 55 = .ok (.iconst 2, 1) := by decide +kernel
theorem dX_rowKind_56 : decode bX_rowKind 56 = .ok (.if_icmp .ne 30, 3) := by decide +kernel
theorem dX_rowKind_59 : decode bX_rowKind 59 = .ok (.iload 4, 2) := by decide +kernel
theorem dX_rowKind_61 : decode bX_rowKind 61 = .ok (.bipush 97, 2) := by decide +kernel
theorem dX_rowKind_63 : decode bX_rowKind 63 = .ok (.if_icmp .lt 23, 3) := by decide +kernel
theorem dX_rowKind_66 : decode bX_rowKind 66 = .ok (.iload 4, 2) := by decide +kernel
theorem dX_rowKind_68 : decode bX_rowKind 68 = .ok (.bipush 103, 2) := by decide +kernel
theorem dX_rowKind_70 : decode bX_rowKind 70 = .ok (.if_icmp .ge 16, 3) := by decide +kernel
theorem dX_rowKind_73 : decode bX_rowKind 73 = .ok (.aload_n 0, 1) := by decide +kernel
theorem dX_rowKind_74 : decode bX_rowKind 74 = .ok (.iload_n 2, 1) := by decide +kernel
theorem dX_rowKind_75 : decode bX_rowKind 75 = .ok (.invokevirtual 24, 3) := by decide +kernel
theorem dX_rowKind_78 : decode bX_rowKind 78 = .ok (.invokestatic 50, 3) := by decide +kernel
theorem dX_rowKind_81 : decode bX_rowKind 81 = .ok (.ifCond .eq 5, 3) := by decide +kernel
theorem dX_rowKind_84 : decode bX_rowKind 84 = .ok (.iconst 2, 1) := by decide +kernel
theorem dX_rowKind_85 : decode bX_rowKind 85 = .ok (.ireturn, 1) := by decide +kernel
theorem dX_rowKind_86 : decode bX_rowKind 86 = .ok (.aload_n 0, 1) := by decide +kernel
theorem dX_rowKind_87 : decode bX_rowKind 87 = .ok (.iload_n 1, 1) := by decide +kernel
theorem dX_rowKind_88 : decode bX_rowKind 88 = .ok (.iload_n 3, 1) := by decide +kernel
theorem dX_rowKind_89 : decode bX_rowKind 89 = .ok (.invokevirtual 53, 3) := by decide +kernel
theorem dX_rowKind_92 : decode bX_rowKind 92 = .ok (.ireturn, 1) := by decide +kernel
theorem dX_rowValue_0 : decode bX_rowValue 0 = .ok (.aload_n 0, 1) := by decide +kernel
theorem dX_rowValue_1 : decode bX_rowValue 1 = .ok (.iload_n 2, 1) := by decide +kernel
theorem dX_rowValue_2 : decode bX_rowValue 2 = .ok (.invokevirtual 24, 3) := by decide +kernel
theorem dX_rowValue_5 : decode bX_rowValue 5 = .ok (.istore 4, 2) := by decide +kernel
theorem dX_rowValue_7 : decode bX_rowValue 7 = .ok (.aload_n 0, 1) := by decide +kernel
theorem dX_rowValue_8 : decode bX_rowValue 8 = .ok (.iload_n 3, 1) := by decide +kernel
theorem dX_rowValue_9 : decode bX_rowValue 9 = .ok (.invokevirtual 24, 3) := by decide +kernel
theorem dX_rowValue_12 : decode bX_rowValue 12 = .ok (.istore 5, 2) := by decide +kernel
theorem dX_rowValue_14 : decode bX_rowValue 14 = .ok (.iload_n 1, 1) := by decide +kernel
theorem dX_rowValue_15 : decode bX_rowValue 15 = .ok (.tableswitch 74 2 4 #[31, 25, 46], 25) := by decide +kernel
theorem dX_rowValue_40 : decode bX_rowValue 40 = .ok (.iload 4, 2) := by decide +kernel
theorem dX_rowValue_42 : decode bX_rowValue 42 = .ok (.bipush 65, 2) := by decide +kernel
theorem dX_rowValue_44 : decode bX_rowValue 44 = .ok (.isub, 1) := by decide +kernel
theorem dX_rowValue_45 : decode bX_rowValue 45 = .ok (.ireturn, 1) := by decide +kernel
theorem dX_rowValue_46 : decode bX_rowValue 46 = .ok (.iload 4, 2) := by decide +kernel
theorem dX_rowValue_48 : decode bX_rowValue 48 = .ok (.bipush 97, 2) := by decide +kernel
theorem dX_rowValue_50 : decode bX_rowValue 50 = .ok (.isub, 1) := by decide +kernel
theorem dX_rowValue_51 : decode bX_rowValue 51 = .ok (.bipush 10, 2) := by decide +kernel
theorem dX_rowValue_53 : decode bX_rowValue 53 = .ok (.imul, 1) := by decide +kernel
theorem dX_rowValue_54 : decode bX_rowValue 54 = .ok (.iload 5, 2) := by decide +kernel
theorem dX_rowValue_56 : decode bX_rowValue 56 = .ok (.iadd, 1) := by decide +kernel
theorem dX_rowValue_57 : decode bX_rowValue 57 = .ok (.bipush 48, 2) := by decide +kernel
theorem dX_rowValue_59 : decode bX_rowValue 59 = .ok (.isub, 1) := by decide +kernel
theorem dX_rowValue_60 : decode bX_rowValue 60 = .ok (.ireturn, 1) := by decide +kernel
theorem dX_rowValue_61 : decode bX_rowValue 61 = .ok (.iload_n 2, 1) := by decide +kernel
theorem dX_rowValue_62 : decode bX_rowValue 62 = .ok (.iload_n 3, 1) := by decide +kernel
theorem dX_rowValue_63 : decode bX_rowValue 63 = .ok (.if_icmp .ne 11, 3) := by decide +kernel
theorem dX_rowValue_66 : decode bX_rowValue 66 = .ok (.iload 5, 2) := by decide +kernel
theorem dX_rowValue_68 : decode bX_rowValue 68 = .ok (.bipush 48, 2) := by decide +kernel
theorem dX_rowValue_70 : decode bX_rowValue 70 = .ok (.isub, 1) := by decide +kernel
theorem dX_rowValue_71 : decode bX_rowValue 71 = .ok (.goto 17, 3) := by decide +kernel
theorem dX_rowValue_74 : decode bX_rowValue 74 = .ok (.iload 4, 2) := by decide +kernel
theorem dX_rowValue_76 : decode bX_rowValue 76 = .ok (.bipush 48, 2) := by decide +kernel
theorem dX_rowValue_78 : decode bX_rowValue 78 = .ok (.isub, 1) := by decide +kernel
theorem dX_rowValue_79 : decode bX_rowValue 79 = .ok (.bipush 10, 2) := by decide +kernel
theorem dX_rowValue_81 : decode bX_rowValue 81 = .ok (.imul, 1) := by decide +kernel
theorem dX_rowValue_82 : decode bX_rowValue 82 = .ok (.iload 5, 2) := by decide +kernel
theorem dX_rowValue_84 : decode bX_rowValue 84 = .ok (.iadd, 1) := by decide +kernel
theorem dX_rowValue_85 : decode bX_rowValue 85 = .ok (.bipush 48, 2) := by decide +kernel
theorem dX_rowValue_87 : decode bX_rowValue 87 = .ok (.isub, 1) := by decide +kernel
theorem dX_rowValue_88 : decode bX_rowValue 88 = .ok (.ireturn, 1) := by decide +kernel
theorem dX_rowValue_89 : decode bX_rowValue 89 = .ok (.iconst 0, 1) := by decide +kernel
theorem dX_rowValue_90 : decode bX_rowValue 90 = .ok (.ireturn, 1) := by decide +kernel
theorem dX_wordKind_0 : decode bX_wordKind 0 = .ok (.aload_n 0, 1) := by decide +kernel
theorem dX_wordKind_1 : decode bX_wordKind 1 = .ok (.ldc 56, 2) := by decide +kernel
theorem dX_wordKind_3 : decode bX_wordKind 3 = .ok (.iload_n 1, 1) := by decide +kernel
theorem dX_wordKind_4 : decode bX_wordKind 4 = .ok (.iload_n 2, 1) := by decide +kernel
theorem dX_wordKind_5 : decode bX_wordKind 5 = .ok (.invokevirtual 58, 3) := by decide +kernel
theorem dX_wordKind_8 : decode bX_wordKind 8 = .ok (.ifCond .eq 5, 3) := by decide +kernel
theorem dX_wordKind_11 : decode bX_wordKind 11 = .ok (.iconst 5, 1) := by decide +kernel
theorem dX_wordKind_12 : decode bX_wordKind 12 = .ok (.ireturn, 1) := by decide +kernel
theorem dX_wordKind_13 : decode bX_wordKind 13 = .ok (.aload_n 0, 1) := by decide +kernel
theorem dX_wordKind_14 : decode bX_wordKind 14 = .ok (.ldc 62, 2) := by decide +kernel
theorem dX_wordKind_16 : decode bX_wordKind 16 = .ok (.iload_n 1, 1) := by decide +kernel
theorem dX_wordKind_17 : decode bX_wordKind 17 = .ok (.iload_n 2, 1) := by decide +kernel
theorem dX_wordKind_18 : decode bX_wordKind 18 = .ok (.invokevirtual 58, 3) := by decide +kernel
theorem dX_wordKind_21 : decode bX_wordKind 21 = .ok (.ifCond .eq 6, 3) := by decide +kernel
theorem dX_wordKind_24 : decode bX_wordKind 24 = .ok (.bipush 6, 2) := by decide +kernel
theorem dX_wordKind_26 : decode bX_wordKind 26 = .ok (.ireturn, 1) := by decide +kernel
theorem dX_wordKind_27 : decode bX_wordKind 27 = .ok (.aload_n 0, 1) := by decide +kernel
theorem dX_wordKind_28 : decode bX_wordKind 28 = .ok (.ldc 64, 2) := by decide +kernel
theorem dX_wordKind_30 : decode bX_wordKind 30 = .ok (.iload_n 1, 1) := by decide +kernel
theorem dX_wordKind_31 : decode bX_wordKind 31 = .ok (.iload_n 2, 1) := by decide +kernel
theorem dX_wordKind_32 : decode bX_wordKind 32 = .ok (.invokevirtual 58, 3) := by decide +kernel
theorem dX_wordKind_35 : decode bX_wordKind 35 = .ok (.ifCond .eq 6, 3) := by decide +kernel
theorem dX_wordKind_38 : decode bX_wordKind 38 = .ok (.bipush 7, 2) := by decide +kernel
theorem dX_wordKind_40 : decode bX_wordKind 40 = .ok (.ireturn, 1) := by decide +kernel
theorem dX_wordKind_41 : decode bX_wordKind 41 = .ok (.aload_n 0, 1) := by decide +kernel
theorem dX_wordKind_42 : decode bX_wordKind 42 = .ok (.ldc 66, 2) := by decide +kernel
theorem dX_wordKind_44 : decode bX_wordKind 44 = .ok (.iload_n 1, 1) := by decide +kernel
theorem dX_wordKind_45 : decode bX_wordKind 45 = .ok (.iload_n 2, 1) := by decide +kernel
theorem dX_wordKind_46 : decode bX_wordKind 46 = .ok (.invokevirtual 58, 3) := by decide +kernel
theorem dX_wordKind_49 : decode bX_wordKind 49 = .ok (.ifCond .eq 6, 3) := by decide +kernel
theorem dX_wordKind_52 : decode bX_wordKind 52 = .ok (.bipush 8, 2) := by decide +kernel
theorem dX_wordKind_54 : decode bX_wordKind 54 = .ok (.ireturn, 1) := by decide +kernel
theorem dX_wordKind_55 : decode bX_wordKind 55 = .ok (.aload_n 0, 1) := by decide +kernel
theorem dX_wordKind_56 : decode bX_wordKind 56 = .ok (.ldc 68, 2) := by decide +kernel
theorem dX_wordKind_58 : decode bX_wordKind 58 = .ok (.iload_n 1, 1) := by decide +kernel
theorem dX_wordKind_59 : decode bX_wordKind 59 = .ok (.iload_n 2, 1) := by decide +kernel
theorem dX_wordKind_60 : decode bX_wordKind 60 = .ok (.invokevirtual 58, 3) := by decide +kernel
theorem dX_wordKind_63 : decode bX_wordKind 63 = .ok (.ifCond .eq 6, 3) := by decide +kernel
theorem dX_wordKind_66 : decode bX_wordKind 66 = .ok (.bipush 9, 2) := by decide +kernel
theorem dX_wordKind_68 : decode bX_wordKind 68 = .ok (.ireturn, 1) := by decide +kernel
theorem dX_wordKind_69 : decode bX_wordKind 69 = .ok (.aload_n 0, 1) := by decide +kernel
theorem dX_wordKind_70 : decode bX_wordKind 70 = .ok (.ldc 70, 2) := by decide +kernel
theorem dX_wordKind_72 : decode bX_wordKind 72 = .ok (.iload_n 1, 1) := by decide +kernel
theorem dX_wordKind_73 : decode bX_wordKind 73 = .ok (.iload_n 2, 1) := by decide +kernel
theorem dX_wordKind_74 : decode bX_wordKind 74 = .ok (.invokevirtual 58, 3) := by decide +kernel
theorem dX_wordKind_77 : decode bX_wordKind 77 = .ok (.ifCond .eq 6, 3) := by decide +kernel
theorem dX_wordKind_80 : decode bX_wordKind 80 = .ok (.bipush 10, 2) := by decide +kernel
theorem dX_wordKind_82 : decode bX_wordKind 82 = .ok (.ireturn, 1) := by decide +kernel
theorem dX_wordKind_83 : decode bX_wordKind 83 = .ok (.aload_n 0, 1) := by decide +kernel
theorem dX_wordKind_84 : decode bX_wordKind 84 = .ok (.ldc 72, 2) := by decide +kernel
theorem dX_wordKind_86 : decode bX_wordKind 86 = .ok (.iload_n 1, 1) := by decide +kernel
theorem dX_wordKind_87 : decode bX_wordKind 87 = .ok (.iload_n 2, 1) := by decide +kernel
theorem dX_wordKind_88 : decode bX_wordKind 88 = .ok (.invokevirtual 58, 3) := by decide +kernel
theorem dX_wordKind_91 : decode bX_wordKind 91 = .ok (.ifCond .eq 6, 3) := by decide +kernel
theorem dX_wordKind_94 : decode bX_wordKind 94 = .ok (.bipush 11, 2) := by decide +kernel
theorem dX_wordKind_96 : decode bX_wordKind 96 = .ok (.ireturn, 1) := by decide +kernel
theorem dX_wordKind_97 : decode bX_wordKind 97 = .ok (.aload_n 0, 1) := by decide +kernel
theorem dX_wordKind_98 : decode bX_wordKind 98 = .ok (.ldc 74, 2) := by decide +kernel
theorem dX_wordKind_100 : decode bX_wordKind 100 = .ok (.iload_n 1, 1) := by decide +kernel
theorem dX_wordKind_101 : decode bX_wordKind 101 = .ok (.iload_n 2, 1) := by decide +kernel
theorem dX_wordKind_102 : decode bX_wordKind 102 = .ok (.invokevirtual 58, 3) := by decide +kernel
theorem dX_wordKind_105 : decode bX_wordKind 105 = .ok (.ifCond .eq 6, 3) := by decide +kernel
theorem dX_wordKind_108 : decode bX_wordKind 108 = .ok (.bipush 12, 2) := by decide +kernel
theorem dX_wordKind_110 : decode bX_wordKind 110 = .ok (.ireturn, 1) := by decide +kernel
theorem dX_wordKind_111 : decode bX_wordKind 111 = .ok (.aload_n 0, 1) := by decide +kernel
theorem dX_wordKind_112 : decode bX_wordKind 112 = .ok (.ldc 76, 2) := by decide +kernel
theorem dX_wordKind_114 : decode bX_wordKind 114 = .ok (.iload_n 1, 1) := by decide +kernel
theorem dX_wordKind_115 : decode bX_wordKind 115 = .ok (.iload_n 2, 1) := by decide +kernel
theorem dX_wordKind_116 : decode bX_wordKind 116 = .ok (.invokevirtual 58, 3) := by decide +kernel
theorem dX_wordKind_119 : decode bX_wordKind 119 = .ok (.ifCond .eq 8, 3) := by decide +kernel
theorem dX_wordKind_122 : decode bX_wordKind 122 = .ok (.bipush 13, 2) := by decide +kernel
theorem dX_wordKind_124 : decode bX_wordKind 124 = .ok (.goto 4, 3) := by decide +kernel
theorem dX_wordKind_127 : decode bX_wordKind 127 = .ok (.iconst 1, 1) := by decide +kernel
theorem dX_wordKind_128 : decode bX_wordKind 128 = .ok (.ireturn, 1) := by decide +kernel
theorem dX_spells_0 : decode bX_spells 0 = .ok (.aload_n 1, 1) := by decide +kernel
theorem dX_spells_1 : decode bX_spells 1 = .ok (.invokevirtual 78, 3) := by decide +kernel
theorem dX_spells_4 : decode bX_spells 4 = .ok (.iload_n 3, 1) := by decide +kernel
theorem dX_spells_5 : decode bX_spells 5 = .ok (.if_icmp .eq 5, 3) := by decide +kernel
theorem dX_spells_8 : decode bX_spells 8 = .ok (.iconst 0, 1) := by decide +kernel
theorem dX_spells_9 : decode bX_spells 9 = .ok (.ireturn, 1) := by decide +kernel
theorem dX_spells_10 : decode bX_spells 10 = .ok (.iconst 0, 1) := by decide +kernel
theorem dX_spells_11 : decode bX_spells 11 = .ok (.istore 4, 2) := by decide +kernel
theorem dX_spells_13 : decode bX_spells 13 = .ok (.iload 4, 2) := by decide +kernel
theorem dX_spells_15 : decode bX_spells 15 = .ok (.aload_n 1, 1) := by decide +kernel
theorem dX_spells_16 : decode bX_spells 16 = .ok (.invokevirtual 78, 3) := by decide +kernel
theorem dX_spells_19 : decode bX_spells 19 = .ok (.if_icmp .ge 28, 3) := by decide +kernel
theorem dX_spells_22 : decode bX_spells 22 = .ok (.aload_n 0, 1) := by decide +kernel
theorem dX_spells_23 : decode bX_spells 23 = .ok (.iload_n 2, 1) := by decide +kernel
theorem dX_spells_24 : decode bX_spells 24 = .ok (.iload 4, 2) := by decide +kernel
theorem dX_spells_26 : decode bX_spells 26 = .ok (.iadd, 1) := by decide +kernel
theorem dX_spells_27 : decode bX_spells 27 = .ok (.invokevirtual 24, 3) := by decide +kernel
theorem dX_spells_30 : decode bX_spells 30 = .ok (.aload_n 1, 1) := by decide +kernel
theorem dX_spells_31 : decode bX_spells 31 = .ok (.iload 4, 2) := by decide +kernel
theorem dX_spells_33 : decode bX_spells 33 = .ok (.invokevirtual 83, 3) := by decide +kernel
theorem dX_spells_36 : decode bX_spells 36 = .ok (.if_icmp .eq 5, 3) := by decide +kernel
theorem dX_spells_39 : decode bX_spells 39 = .ok (.iconst 0, 1) := by decide +kernel
theorem dX_spells_40 : decode bX_spells 40 = .ok (.ireturn, 1) := by decide +kernel
theorem dX_spells_41 : decode bX_spells 41 = .ok (.iinc 4 1, 3) := by decide +kernel
theorem dX_spells_44 : decode bX_spells 44 = .ok (.goto (-31), 3) := by decide +kernel
theorem dX_spells_47 : decode bX_spells 47 = .ok (.iconst 1, 1) := by decide +kernel
theorem dX_spells_48 : decode bX_spells 48 = .ok (.ireturn, 1) := by decide +kernel
theorem dX_isRowChar_0 : decode bX_isRowChar 0 = .ok (.iload_n 0, 1) := by decide +kernel
theorem dX_isRowChar_1 : decode bX_isRowChar 1 = .ok (.invokestatic 50, 3) := by decide +kernel
theorem dX_isRowChar_4 : decode bX_isRowChar 4 = .ok (.ifCond .ne 22, 3) := by decide +kernel
theorem dX_isRowChar_7 : decode bX_isRowChar 7 = .ok (.iload_n 0, 1) := by decide +kernel
theorem dX_isRowChar_8 : decode bX_isRowChar 8 = .ok (.invokestatic 47, 3) := by decide +kernel
theorem dX_isRowChar_11 : decode bX_isRowChar 11 = .ok (.ifCond .ne 15, 3) := by decide +kernel
theorem dX_isRowChar_14 : decode bX_isRowChar 14 = .ok (.iload_n 0, 1) := by decide +kernel
theorem dX_isRowChar_15 : decode bX_isRowChar 15 = .ok (.bipush 97, 2) := by decide +kernel
theorem dX_isRowChar_17 : decode bX_isRowChar 17 = .ok (.if_icmp .lt 13, 3) := by decide +kernel
theorem dX_isRowChar_20 : decode bX_isRowChar 20 = .ok (.iload_n 0, 1) := by decide +kernel
theorem dX_isRowChar_21 : decode bX_isRowChar 21 = .ok (.bipush 122, 2) := by decide +kernel
theorem dX_isRowChar_23 : decode bX_isRowChar 23 = .ok (.if_icmp .gt 7, 3) := by decide +kernel
theorem dX_isRowChar_26 : decode bX_isRowChar 26 = .ok (.iconst 1, 1) := by decide +kernel
theorem dX_isRowChar_27 : decode bX_isRowChar 27 = .ok (.goto 4, 3) := by decide +kernel
theorem dX_isRowChar_30 : decode bX_isRowChar 30 = .ok (.iconst 0, 1) := by decide +kernel
theorem dX_isRowChar_31 : decode bX_isRowChar 31 = .ok (.ireturn, 1) := by decide +kernel
theorem dX_isDigit_0 : decode bX_isDigit 0 = .ok (.iload_n 0, 1) := by decide +kernel
theorem dX_isDigit_1 : decode bX_isDigit 1 = .ok (.bipush 48, 2) := by decide +kernel
theorem dX_isDigit_3 : decode bX_isDigit 3 = .ok (.if_icmp .lt 13, 3) := by decide +kernel
theorem dX_isDigit_6 : decode bX_isDigit 6 = .ok (.iload_n 0, 1) := by decide +kernel
theorem dX_isDigit_7 : decode bX_isDigit 7 = .ok (.bipush 57, 2) := by decide +kernel
theorem dX_isDigit_9 : decode bX_isDigit 9 = .ok (.if_icmp .gt 7, 3) := by decide +kernel
theorem dX_isDigit_12 : decode bX_isDigit 12 = .ok (.iconst 1, 1) := by decide +kernel
theorem dX_isDigit_13 : decode bX_isDigit 13 = .ok (.goto 4, 3) := by decide +kernel
theorem dX_isDigit_16 : decode bX_isDigit 16 = .ok (.iconst 0, 1) := by decide +kernel
theorem dX_isDigit_17 : decode bX_isDigit 17 = .ok (.ireturn, 1) := by decide +kernel
theorem dX_isCapital_0 : decode bX_isCapital 0 = .ok (.iload_n 0, 1) := by decide +kernel
theorem dX_isCapital_1 : decode bX_isCapital 1 = .ok (.bipush 65, 2) := by decide +kernel
theorem dX_isCapital_3 : decode bX_isCapital 3 = .ok (.if_icmp .lt 13, 3) := by decide +kernel
theorem dX_isCapital_6 : decode bX_isCapital 6 = .ok (.iload_n 0, 1) := by decide +kernel
theorem dX_isCapital_7 : decode bX_isCapital 7 = .ok (.bipush 90, 2) := by decide +kernel
theorem dX_isCapital_9 : decode bX_isCapital 9 = .ok (.if_icmp .gt 7, 3) := by decide +kernel
theorem dX_isCapital_12 : decode bX_isCapital 12 = .ok (.iconst 1, 1) := by decide +kernel
theorem dX_isCapital_13 : decode bX_isCapital 13 = .ok (.goto 4, 3) := by decide +kernel
theorem dX_isCapital_16 : decode bX_isCapital 16 = .ok (.iconst 0, 1) := by decide +kernel
theorem dX_isCapital_17 : decode bX_isCapital 17 = .ok (.ireturn, 1) := by decide +kernel
theorem dX_isSign_0 : decode bX_isSign 0 = .ok (.iload_n 0, 1) := by decide +kernel
theorem dX_isSign_1 : decode bX_isSign 1 = .ok (.bipush 40, 2) := by decide +kernel
theorem dX_isSign_3 : decode bX_isSign 3 = .ok (.if_icmp .eq 28, 3) := by decide +kernel
theorem dX_isSign_6 : decode bX_isSign 6 = .ok (.iload_n 0, 1) := by decide +kernel
theorem dX_isSign_7 : decode bX_isSign 7 = .ok (.bipush 41, 2) := by decide +kernel
theorem dX_isSign_9 : decode bX_isSign 9 = .ok (.if_icmp .eq 22, 3) := by decide +kernel
theorem dX_isSign_12 : decode bX_isSign 12 = .ok (.iload_n 0, 1) := by decide +kernel
theorem dX_isSign_13 : decode bX_isSign 13 = .ok (.bipush 44, 2) := by decide +kernel
theorem dX_isSign_15 : decode bX_isSign 15 = .ok (.if_icmp .eq 16, 3) := by decide +kernel
theorem dX_isSign_18 : decode bX_isSign 18 = .ok (.iload_n 0, 1) := by decide +kernel
theorem dX_isSign_19 : decode bX_isSign 19 = .ok (.bipush 61, 2) := by decide +kernel
theorem dX_isSign_21 : decode bX_isSign 21 = .ok (.if_icmp .eq 10, 3) := by decide +kernel
theorem dX_isSign_24 : decode bX_isSign 24 = .ok (.iload_n 0, 1) := by decide +kernel
theorem dX_isSign_25 : decode bX_isSign 25 = .ok (.invokestatic 84, 3) := by decide +kernel
theorem dX_isSign_28 : decode bX_isSign 28 = .ok (.ifCond .eq 7, 3) := by decide +kernel
theorem dX_isSign_31 : decode bX_isSign 31 = .ok (.iconst 1, 1) := by decide +kernel
theorem dX_isSign_32 : decode bX_isSign 32 = .ok (.goto 4, 3) := by decide +kernel
theorem dX_isSign_35 : decode bX_isSign 35 = .ok (.iconst 0, 1) := by decide +kernel
theorem dX_isSign_36 : decode bX_isSign 36 = .ok (.ireturn, 1) := by decide +kernel
end
section
/-- promise 10: how many ways -/
def waysS (g : Gr) (t o st : Int32) : Int32 := if (0 ≤ t.toInt ∧ t.toInt < g.length) ∧ (0 ≤ o.toInt ∧ o.toInt < g.length) ∧ 0 ≤ st.toInt ∧ st.toInt ≤ 6 then (if t = o then 1 else nI (wy g o.toInt.toNat st.toInt.toNat t.toInt.toNat (((1 : Int32) <<< (t &&& 31)) ||| ((1 : Int32) <<< (o &&& 31))))) else -1
theorem waysS_in {g : Gr} {t o st : Nat} (hg : g.length ≤ 30) (h1 : t < g.length) (h2 : o < g.length) (h3 : st ≤ 6) : waysS g (nI t) (nI o) (nI st) = if t = o then 1 else nI (wy g o st t (((1 : Int32) <<< (nI t &&& 31)) ||| ((1 : Int32) <<< (nI o &&& 31)))) := by
  unfold waysS
  rw [nI_toInt (by omega), nI_toInt (by omega), nI_toInt (by omega), if_pos ⟨by omega, by omega, by omega, by omega⟩]
  by_cases e : t = o
  · rw [if_pos e, if_pos (by rw [e])]
  · rw [if_neg e, if_neg (fun h => e ((nI_eq (by omega) (by omega)).mp h))]; simp

set_option maxHeartbeats 4000000 in
set_option maxRecDepth 100000 in
/-- Graph.waysBetween(t, other, steps) -/
theorem cG_waysBetween (l : Launch) (D : va_G) (tys : List (ClassId × FieldType)) (A : Nat → Prop) (ws : va_W) (cI : ClassId) (hI : tys[0]? = some (cI, .int)) (ad : Nat → Nat) (kg : Nat) (g : Gr) (tt oo st : Int32) (hG : GraphAt cI ad ws kg g) : x_Mi l yG_waysBetween wG_waysBetween (xR 9) D xCl tys A [.ref (ad kg), .int tt, .int oo, .int st] ws (fun r ws1 => r = waysS g tt oo st ∧ ws = ws1) := by
  obtain ⟨FF, ⟨hg0, -⟩, -⟩ := id hG
  have hle := hG.ok.1
  refine x_enter (by decide) rfl (Nat.le_of_ble_eq_true rfl) (fun p e s m args below meth c ls hx hb hr hlk hml hown hnm hts hK hP hD hS hA hN hl => ?_)
  have hl : lv_has ls 4 [(0, .ref (ad kg)), (1, .int tt), (2, .int oo), (3, .int st)] := hl
  refine lv_iload_n hx hb dG_waysBetween_0 rfl (lv_at hl 1 rfl) ?_
  refine lv_aload_n hx hb dG_waysBetween_1 rfl (lv_at hl 0 rfl) ?_
  refine va_get (D := D) (cl := xCl) (ci := 0) (v := .int (nI g.length)) (C := rnG) (T := tbG) (N := 9) hx hb hts inG hown hK hP kg hg0 rfl 8 (by decide) (hts _ tw_37) (fun _ h9 => h9) rfl dG_waysBetween_2 ?_
  refine x_calli (x_runS (n := 2) (As := [.int tt, .int (nI g.length)]) (rest := []) ⟨hx, hb, hml, hown, hts⟩ (cG_below l D tys A ws tt ((nI g.length))) tw_178 tw_179 tw_2 tw_180 (by decide +kernel) rfl rfl ⟨by decide, by decide⟩ ⟨Nat.zero_le _, Nat.zero_le _⟩ hK hP hD hS hA hN rfl hl.1 rfl (lv_room (Nat.le_of_ble_eq_true rfl)) dG_waysBetween_5) hS (fun rhb1 ws_1 H locs hb1 hP hD hS => ?_)
  obtain ⟨hb1, rfl⟩ := hb1
  refine lv_if_eq (tgt := 32) hx hb dG_waysBetween_8 (by decide) (fun c8 => ?_) (fun c8 => ?_)
  · refine lv_iconst (v := (-1)) hx hb dG_waysBetween_32 (by decide) ?_
    exact x_iret hx hb hr hlk hK hP hD hS dG_waysBetween_33 ⟨(if_neg (fun hc => blw_no (by omega) hb1 c8 hc.1)).symm, rfl⟩
  · obtain ⟨ta, hta, rfl⟩ := blw_of (by omega) hb1 c8
    refine lv_iload_n hx hb dG_waysBetween_11 rfl (lv_at hl 2 rfl) ?_
    refine lv_aload_n hx hb dG_waysBetween_12 rfl (lv_at hl 0 rfl) ?_
    refine va_get (D := D) (cl := xCl) (ci := 0) (v := .int (nI g.length)) (C := rnG) (T := tbG) (N := 9) hx hb hts inG hown hK hP kg hg0 rfl 8 (by decide) (hts _ tw_37) (fun _ h9 => h9) rfl dG_waysBetween_13 ?_
    refine x_calli (x_runS (n := 2) (As := [.int oo, .int (nI g.length)]) (rest := []) ⟨hx, hb, hml, hown, hts⟩ (cG_below l D tys A ws oo ((nI g.length))) tw_178 tw_179 tw_2 tw_180 (by decide +kernel) rfl rfl ⟨by decide, by decide⟩ ⟨Nat.zero_le _, Nat.zero_le _⟩ hK hP hD hS hA hN rfl hl.1 rfl (lv_room (Nat.le_of_ble_eq_true rfl)) dG_waysBetween_16) hS (fun rhb2 ws_2 H locs hb2 hP hD hS => ?_)
    obtain ⟨hb2, rfl⟩ := hb2
    refine lv_if_eq (tgt := 32) hx hb dG_waysBetween_19 (by decide) (fun c19 => ?_) (fun c19 => ?_)
    · refine lv_iconst (v := (-1)) hx hb dG_waysBetween_32 (by decide) ?_
      exact x_iret hx hb hr hlk hK hP hD hS dG_waysBetween_33 ⟨(if_neg (fun hc => blw_no (by omega) hb2 c19 hc.2.1)).symm, rfl⟩
    · obtain ⟨ob, hob, rfl⟩ := blw_of (by omega) hb2 c19
      refine lv_iload_n hx hb dG_waysBetween_22 rfl (lv_at hl 3 rfl) ?_
      refine lv_if_lt (tgt := 32) hx hb dG_waysBetween_23 (by decide) (fun c23 => ?_) (fun c23 => ?_)
      · refine lv_iconst (v := (-1)) hx hb dG_waysBetween_32 (by decide) ?_
        exact x_iret hx hb hr hlk hK hP hD hS dG_waysBetween_33 ⟨(if_neg (fun hc => by rw [i32_lt, i32_0] at c23; have := hc.2.2.1; omega)).symm, rfl⟩
      · refine lv_iload_n hx hb dG_waysBetween_26 rfl (lv_at hl 3 rfl) ?_
        refine lv_bipush (v := 6) hx hb dG_waysBetween_27 (by decide) ?_
        refine lv_icmp_le (tgt := 34) hx hb dG_waysBetween_29 (by decide) (fun c29 => ?_) (fun c29 => ?_)
        · obtain ⟨sn, hsn, rfl⟩ : ∃ j : Nat, j ≤ 6 ∧ st = nI j := nI_of2 (M := 6) rfl c23 c29
          refine lv_iload_n hx hb dG_waysBetween_34 rfl (lv_at hl 1 rfl) ?_
          refine lv_iload_n hx hb dG_waysBetween_35 rfl (lv_at hl 2 rfl) ?_
          refine lv_icmp_ne (tgt := 43) hx hb dG_waysBetween_36 (by decide) (fun c36 => ?_) (fun c36 => ?_)
          · refine lv_aload_n hx hb dG_waysBetween_43 rfl (lv_at hl 0 rfl) ?_
            refine lv_iload_n hx hb dG_waysBetween_44 rfl (lv_at hl 1 rfl) ?_
            refine lv_iload_n hx hb dG_waysBetween_45 rfl (lv_at hl 2 rfl) ?_
            refine lv_iload_n hx hb dG_waysBetween_46 rfl (lv_at hl 3 rfl) ?_
            refine lv_iconst (v := 1) hx hb dG_waysBetween_47 (by decide) ?_
            refine lv_iload_n hx hb dG_waysBetween_48 rfl (lv_at hl 1 rfl) ?_
            refine lv_ishl hx hb dG_waysBetween_49 ?_
            refine lv_topi (fun v_3 ev_3 => ?_)
            refine lv_iconst (v := 1) hx hb dG_waysBetween_50 (by decide) ?_
            refine lv_iload_n hx hb dG_waysBetween_51 rfl (lv_at hl 2 rfl) ?_
            refine lv_ishl hx hb dG_waysBetween_52 ?_
            refine lv_topi (fun v_4 ev_4 => ?_)
            refine lv_ior hx hb dG_waysBetween_53 ?_
            refine lv_topi (fun v_5 ev_5 => ?_)
            refine x_calli (x_runV (n := 4) (As := [.int (nI ta), .int (nI ob), .int (nI sn), .int v_5]) (rest := []) ⟨hx, hb, hml, hown, hts⟩ (cG_waysOn l D tys A cI hI ad kg g ob hob sn hsn ws ta v_5 hta hG) tw_597 tw_599 ts_G_waysOn tw_2 tw_600 (by decide +kernel) rfl rfl (xR_ok (by omega) (by omega)) ⟨Nat.zero_le _, Nat.zero_le _⟩ (va_recv hK hP (ci := 0) (q0 := kg) rfl hg0) hK hP hD hS hA hN rfl hl.1 rfl (lv_room (Nat.le_of_ble_eq_true rfl)) dG_waysBetween_54) hS (fun rwo ws_6 H locs hwo hP hD hS => ?_)
            obtain ⟨hwo, rfl⟩ := hwo
            exact x_iret hx hb hr hlk hK hP hD hS dG_waysBetween_57 ⟨by rw [waysS_in hle hta hob hsn, if_neg (fun h => c36 (by rw [h])), hwo, ev_5, ev_4, ev_3], rfl⟩
          · refine lv_iconst (v := 1) hx hb dG_waysBetween_39 (by decide) ?_
            refine lv_goto (tgt := 57) hx hb dG_waysBetween_40 (by decide) ?_
            exact x_iret hx hb hr hlk hK hP hD hS dG_waysBetween_57 ⟨by rw [waysS_in hle hta hob hsn, if_pos ((nI_eq (by omega) (by omega)).mp c36)], rfl⟩
        · refine lv_iconst (v := (-1)) hx hb dG_waysBetween_32 (by decide) ?_
          exact x_iret hx hb hr hlk hK hP hD hS dG_waysBetween_33 ⟨(if_neg (fun hc => by rw [i32_le, show (6 : Int32).toInt = 6 from rfl] at c29; have := hc.2.2.2; omega)).symm, rfl⟩

-- ===== characters =====
def isDg (w : Nat) : Bool := decide (48 ≤ w ∧ w ≤ 57)
def isCp (w : Nat) : Bool := decide (65 ≤ w ∧ w ≤ 90)
def isRw (w : Nat) : Bool := decide ((48 ≤ w ∧ w ≤ 57) ∨ (65 ≤ w ∧ w ≤ 90) ∨ (97 ≤ w ∧ w ≤ 122))
def isJn (w : Nat) : Bool := decide (w = 43 ∨ w = 45 ∨ w = 38)
def isSg (w : Nat) : Bool := decide (w = 40 ∨ w = 41 ∨ w = 44 ∨ w = 61 ∨ w = 43 ∨ w = 45 ∨ w = 38)

set_option maxHeartbeats 4000000 in
set_option maxRecDepth 100000 in
theorem cX_isDigit (l : Launch) (D : va_G) (tys : List (ClassId × FieldType)) (A : Nat → Prop) (ws : va_W) (w : Nat) (hw : w < 65536) : x_Mi l yX_isDigit wX_isDigit (xR 0) D xCl tys A [.int (nI w)] ws (fun r ws1 => r = b2i (isDg w) ∧ ws = ws1) := by
  refine x_enter (by decide) rfl (Nat.le_of_ble_eq_true rfl) (fun p e s m args below meth c ls hx hb hr hlk hml hown hnm hts hK hP hD hS hA hN hl => ?_)
  have hl : lv_has ls 1 [(0, .int (nI w))] := hl
  refine lv_iload_n hx hb dX_isDigit_0 rfl (lv_at hl 0 rfl) ?_
  refine lv_bipush (v := 48) hx hb dX_isDigit_1 (by decide) ?_
  refine lv_icmp_lt (tgt := 16) hx hb dX_isDigit_3 (by decide) (fun c3 => ?_) (fun c3 => ?_)
  · refine lv_iconst (v := 0) hx hb dX_isDigit_16 (by decide) ?_
    exact x_zret hx hb hr rfl hlk hK hP hD hS dX_isDigit_17 ⟨by have nc3 : w < 48 := (by have q : nI w < nI 48 := c3; rw [nI_ltI (by omega) (by omega)] at q; exact q); rw [show isDg w = false from (by unfold isDg; exact decide_eq_false (by omega))]; rfl, rfl⟩
  · refine lv_iload_n hx hb dX_isDigit_6 rfl (lv_at hl 0 rfl) ?_
    refine lv_bipush (v := 57) hx hb dX_isDigit_7 (by decide) ?_
    refine lv_icmp_gt (tgt := 16) hx hb dX_isDigit_9 (by decide) (fun c9 => ?_) (fun c9 => ?_)
    · refine lv_iconst (v := 0) hx hb dX_isDigit_16 (by decide) ?_
      exact x_zret hx hb hr rfl hlk hK hP hD hS dX_isDigit_17 ⟨by have nc3 : ¬ w < 48 := (by have q : ¬ nI w < nI 48 := c3; rw [nI_ltI (by omega) (by omega)] at q; exact q); have nc9 : 57 < w := (by have q : nI 57 < nI w := c9; rw [nI_ltI (by omega) (by omega)] at q; exact q); rw [show isDg w = false from (by unfold isDg; exact decide_eq_false (by omega))]; rfl, rfl⟩
    · refine lv_iconst (v := 1) hx hb dX_isDigit_12 (by decide) ?_
      refine lv_goto (tgt := 17) hx hb dX_isDigit_13 (by decide) ?_
      exact x_zret hx hb hr rfl hlk hK hP hD hS dX_isDigit_17 ⟨by have nc3 : ¬ w < 48 := (by have q : ¬ nI w < nI 48 := c3; rw [nI_ltI (by omega) (by omega)] at q; exact q); have nc9 : ¬ 57 < w := (by have q : ¬ nI 57 < nI w := c9; rw [nI_ltI (by omega) (by omega)] at q; exact q); rw [show isDg w = true from (by unfold isDg; exact decide_eq_true (by omega))]; rfl, rfl⟩

set_option maxHeartbeats 4000000 in
set_option maxRecDepth 100000 in
theorem cX_isCapital (l : Launch) (D : va_G) (tys : List (ClassId × FieldType)) (A : Nat → Prop) (ws : va_W) (w : Nat) (hw : w < 65536) : x_Mi l yX_isCapital wX_isCapital (xR 0) D xCl tys A [.int (nI w)] ws (fun r ws1 => r = b2i (isCp w) ∧ ws = ws1) := by
  refine x_enter (by decide) rfl (Nat.le_of_ble_eq_true rfl) (fun p e s m args below meth c ls hx hb hr hlk hml hown hnm hts hK hP hD hS hA hN hl => ?_)
  have hl : lv_has ls 1 [(0, .int (nI w))] := hl
  refine lv_iload_n hx hb dX_isCapital_0 rfl (lv_at hl 0 rfl) ?_
  refine lv_bipush (v := 65) hx hb dX_isCapital_1 (by decide) ?_
  refine lv_icmp_lt (tgt := 16) hx hb dX_isCapital_3 (by decide) (fun c3 => ?_) (fun c3 => ?_)
  · refine lv_iconst (v := 0) hx hb dX_isCapital_16 (by decide) ?_
    exact x_zret hx hb hr rfl hlk hK hP hD hS dX_isCapital_17 ⟨by have nc3 : w < 65 := (by have q : nI w < nI 65 := c3; rw [nI_ltI (by omega) (by omega)] at q; exact q); rw [show isCp w = false from (by unfold isCp; exact decide_eq_false (by omega))]; rfl, rfl⟩
  · refine lv_iload_n hx hb dX_isCapital_6 rfl (lv_at hl 0 rfl) ?_
    refine lv_bipush (v := 90) hx hb dX_isCapital_7 (by decide) ?_
    refine lv_icmp_gt (tgt := 16) hx hb dX_isCapital_9 (by decide) (fun c9 => ?_) (fun c9 => ?_)
    · refine lv_iconst (v := 0) hx hb dX_isCapital_16 (by decide) ?_
      exact x_zret hx hb hr rfl hlk hK hP hD hS dX_isCapital_17 ⟨by have nc3 : ¬ w < 65 := (by have q : ¬ nI w < nI 65 := c3; rw [nI_ltI (by omega) (by omega)] at q; exact q); have nc9 : 90 < w := (by have q : nI 90 < nI w := c9; rw [nI_ltI (by omega) (by omega)] at q; exact q); rw [show isCp w = false from (by unfold isCp; exact decide_eq_false (by omega))]; rfl, rfl⟩
    · refine lv_iconst (v := 1) hx hb dX_isCapital_12 (by decide) ?_
      refine lv_goto (tgt := 17) hx hb dX_isCapital_13 (by decide) ?_
      exact x_zret hx hb hr rfl hlk hK hP hD hS dX_isCapital_17 ⟨by have nc3 : ¬ w < 65 := (by have q : ¬ nI w < nI 65 := c3; rw [nI_ltI (by omega) (by omega)] at q; exact q); have nc9 : ¬ 90 < w := (by have q : ¬ nI 90 < nI w := c9; rw [nI_ltI (by omega) (by omega)] at q; exact q); rw [show isCp w = true from (by unfold isCp; exact decide_eq_true (by omega))]; rfl, rfl⟩

set_option maxHeartbeats 4000000 in
set_option maxRecDepth 100000 in
theorem cQ_isJoin (l : Launch) (D : va_G) (tys : List (ClassId × FieldType)) (A : Nat → Prop) (ws : va_W) (w : Nat) (hw : w < 65536) : x_Mi l yQ_isJoin wQ_isJoin (xR 0) D xCl tys A [.int (nI w)] ws (fun r ws1 => r = b2i (isJn w) ∧ ws = ws1) := by
  refine x_enter (by decide) rfl (Nat.le_of_ble_eq_true rfl) (fun p e s m args below meth c ls hx hb hr hlk hml hown hnm hts hK hP hD hS hA hN hl => ?_)
  have hl : lv_has ls 1 [(0, .int (nI w))] := hl
  refine lv_iload_n hx hb dQ_isJoin_0 rfl (lv_at hl 0 rfl) ?_
  refine lv_bipush (v := 43) hx hb dQ_isJoin_1 (by decide) ?_
  refine lv_icmp_eq (tgt := 18) hx hb dQ_isJoin_3 (by decide) (fun c3 => ?_) (fun c3 => ?_)
  · refine lv_iconst (v := 1) hx hb dQ_isJoin_18 (by decide) ?_
    refine lv_goto (tgt := 23) hx hb dQ_isJoin_19 (by decide) ?_
    exact x_zret hx hb hr rfl hlk hK hP hD hS dQ_isJoin_23 ⟨by have nc3 : w = 43 := (by have q : nI w = nI 43 := c3; rw [nI_eq (by omega) (by omega)] at q; exact q); rw [show isJn w = true from (by unfold isJn; exact decide_eq_true (by omega))]; rfl, rfl⟩
  · refine lv_iload_n hx hb dQ_isJoin_6 rfl (lv_at hl 0 rfl) ?_
    refine lv_bipush (v := 45) hx hb dQ_isJoin_7 (by decide) ?_
    refine lv_icmp_eq (tgt := 18) hx hb dQ_isJoin_9 (by decide) (fun c9 => ?_) (fun c9 => ?_)
    · refine lv_iconst (v := 1) hx hb dQ_isJoin_18 (by decide) ?_
      refine lv_goto (tgt := 23) hx hb dQ_isJoin_19 (by decide) ?_
      exact x_zret hx hb hr rfl hlk hK hP hD hS dQ_isJoin_23 ⟨by have nc3 : ¬ w = 43 := (by have q : ¬ nI w = nI 43 := c3; rw [nI_eq (by omega) (by omega)] at q; exact q); have nc9 : w = 45 := (by have q : nI w = nI 45 := c9; rw [nI_eq (by omega) (by omega)] at q; exact q); rw [show isJn w = true from (by unfold isJn; exact decide_eq_true (by omega))]; rfl, rfl⟩
    · refine lv_iload_n hx hb dQ_isJoin_12 rfl (lv_at hl 0 rfl) ?_
      refine lv_bipush (v := 38) hx hb dQ_isJoin_13 (by decide) ?_
      refine lv_icmp_ne (tgt := 22) hx hb dQ_isJoin_15 (by decide) (fun c15 => ?_) (fun c15 => ?_)
      · refine lv_iconst (v := 0) hx hb dQ_isJoin_22 (by decide) ?_
        exact x_zret hx hb hr rfl hlk hK hP hD hS dQ_isJoin_23 ⟨by have nc3 : ¬ w = 43 := (by have q : ¬ nI w = nI 43 := c3; rw [nI_eq (by omega) (by omega)] at q; exact q); have nc9 : ¬ w = 45 := (by have q : ¬ nI w = nI 45 := c9; rw [nI_eq (by omega) (by omega)] at q; exact q); have nc15 : ¬ w = 38 := (by have q : ¬ nI w = nI 38 := c15; rw [nI_eq (by omega) (by omega)] at q; exact q); rw [show isJn w = false from (by unfold isJn; exact decide_eq_false (by omega))]; rfl, rfl⟩
      · refine lv_iconst (v := 1) hx hb dQ_isJoin_18 (by decide) ?_
        refine lv_goto (tgt := 23) hx hb dQ_isJoin_19 (by decide) ?_
        exact x_zret hx hb hr rfl hlk hK hP hD hS dQ_isJoin_23 ⟨by have nc3 : ¬ w = 43 := (by have q : ¬ nI w = nI 43 := c3; rw [nI_eq (by omega) (by omega)] at q; exact q); have nc9 : ¬ w = 45 := (by have q : ¬ nI w = nI 45 := c9; rw [nI_eq (by omega) (by omega)] at q; exact q); have nc15 : w = 38 := (by have q : nI w = nI 38 := c15; rw [nI_eq (by omega) (by omega)] at q; exact q); rw [show isJn w = true from (by unfold isJn; exact decide_eq_true (by omega))]; rfl, rfl⟩

set_option maxHeartbeats 4000000 in
set_option maxRecDepth 100000 in
theorem cX_isRowChar (l : Launch) (D : va_G) (tys : List (ClassId × FieldType)) (A : Nat → Prop) (ws : va_W) (w : Nat) (hw : w < 65536) : x_Mi l yX_isRowChar wX_isRowChar (xR 1) D xCl tys A [.int (nI w)] ws (fun r ws1 => r = b2i (isRw w) ∧ ws = ws1) := by
  refine x_enter (by decide) rfl (Nat.le_of_ble_eq_true rfl) (fun p e s m args below meth c ls hx hb hr hlk hml hown hnm hts hK hP hD hS hA hN hl => ?_)
  have hl : lv_has ls 1 [(0, .int (nI w))] := hl
  refine lv_iload_n hx hb dX_isRowChar_0 rfl (lv_at hl 0 rfl) ?_
  refine x_calli (x_runS (n := 1) (As := [.int (nI w)]) (rest := []) ⟨hx, hb, hml, hown, hts⟩ (cX_isDigit l D tys A ws w hw) tw_231 tw_232 tw_3 tw_233 (by decide +kernel) rfl rfl ⟨by decide, by decide⟩ ⟨Nat.zero_le _, Nat.zero_le _⟩ hK hP hD hS hA hN rfl hl.1 rfl (lv_room (Nat.le_of_ble_eq_true rfl)) dX_isRowChar_1) hS (fun rhd ws_1 H locs hd hP hD hS => ?_)
  obtain ⟨hd, rfl⟩ := hd
  refine lv_if_ne (tgt := 26) hx hb dX_isRowChar_4 (by decide) (fun c4 => ?_) (fun c4 => ?_)
  · refine lv_iconst (v := 1) hx hb dX_isRowChar_26 (by decide) ?_
    refine lv_goto (tgt := 31) hx hb dX_isRowChar_27 (by decide) ?_
    exact x_zret hx hb hr rfl hlk hK hP hD hS dX_isRowChar_31 ⟨by have nc4 : isDg w = true := (by rw [hd, b2i_n0] at c4; exact c4); unfold isDg at nc4; rw [decide_eq_true_eq] at nc4; rw [show isRw w = true from (by unfold isRw; exact decide_eq_true (by omega))]; rfl, rfl⟩
  · refine lv_iload_n hx hb dX_isRowChar_7 rfl (lv_at hl 0 rfl) ?_
    refine x_calli (x_runS (n := 1) (As := [.int (nI w)]) (rest := []) ⟨hx, hb, hml, hown, hts⟩ (cX_isCapital l D tys A ws w hw) tw_234 tw_235 tw_3 tw_236 (by decide +kernel) rfl rfl ⟨by decide, by decide⟩ ⟨Nat.zero_le _, Nat.zero_le _⟩ hK hP hD hS hA hN rfl hl.1 rfl (lv_room (Nat.le_of_ble_eq_true rfl)) dX_isRowChar_8) hS (fun rhc ws_2 H locs hc hP hD hS => ?_)
    obtain ⟨hc, rfl⟩ := hc
    refine lv_if_ne (tgt := 26) hx hb dX_isRowChar_11 (by decide) (fun c11 => ?_) (fun c11 => ?_)
    · refine lv_iconst (v := 1) hx hb dX_isRowChar_26 (by decide) ?_
      refine lv_goto (tgt := 31) hx hb dX_isRowChar_27 (by decide) ?_
      exact x_zret hx hb hr rfl hlk hK hP hD hS dX_isRowChar_31 ⟨by have nc4 : isDg w = false := (by rw [hd, b2i_0] at c4; exact c4); unfold isDg at nc4; rw [decide_eq_false_iff_not] at nc4; have nc11 : isCp w = true := (by rw [hc, b2i_n0] at c11; exact c11); unfold isCp at nc11; rw [decide_eq_true_eq] at nc11; rw [show isRw w = true from (by unfold isRw; exact decide_eq_true (by omega))]; rfl, rfl⟩
    · refine lv_iload_n hx hb dX_isRowChar_14 rfl (lv_at hl 0 rfl) ?_
      refine lv_bipush (v := 97) hx hb dX_isRowChar_15 (by decide) ?_
      refine lv_icmp_lt (tgt := 30) hx hb dX_isRowChar_17 (by decide) (fun c17 => ?_) (fun c17 => ?_)
      · refine lv_iconst (v := 0) hx hb dX_isRowChar_30 (by decide) ?_
        exact x_zret hx hb hr rfl hlk hK hP hD hS dX_isRowChar_31 ⟨by have nc17 : w < 97 := (by have q : nI w < nI 97 := c17; rw [nI_ltI (by omega) (by omega)] at q; exact q); have nc4 : isDg w = false := (by rw [hd, b2i_0] at c4; exact c4); unfold isDg at nc4; rw [decide_eq_false_iff_not] at nc4; have nc11 : isCp w = false := (by rw [hc, b2i_0] at c11; exact c11); unfold isCp at nc11; rw [decide_eq_false_iff_not] at nc11; rw [show isRw w = false from (by unfold isRw; exact decide_eq_false (by omega))]; rfl, rfl⟩
      · refine lv_iload_n hx hb dX_isRowChar_20 rfl (lv_at hl 0 rfl) ?_
        refine lv_bipush (v := 122) hx hb dX_isRowChar_21 (by decide) ?_
        refine lv_icmp_gt (tgt := 30) hx hb dX_isRowChar_23 (by decide) (fun c23 => ?_) (fun c23 => ?_)
        · refine lv_iconst (v := 0) hx hb dX_isRowChar_30 (by decide) ?_
          exact x_zret hx hb hr rfl hlk hK hP hD hS dX_isRowChar_31 ⟨by have nc17 : ¬ w < 97 := (by have q : ¬ nI w < nI 97 := c17; rw [nI_ltI (by omega) (by omega)] at q; exact q); have nc23 : 122 < w := (by have q : nI 122 < nI w := c23; rw [nI_ltI (by omega) (by omega)] at q; exact q); have nc4 : isDg w = false := (by rw [hd, b2i_0] at c4; exact c4); unfold isDg at nc4; rw [decide_eq_false_iff_not] at nc4; have nc11 : isCp w = false := (by rw [hc, b2i_0] at c11; exact c11); unfold isCp at nc11; rw [decide_eq_false_iff_not] at nc11; rw [show isRw w = false from (by unfold isRw; exact decide_eq_false (by omega))]; rfl, rfl⟩
        · refine lv_iconst (v := 1) hx hb dX_isRowChar_26 (by decide) ?_
          refine lv_goto (tgt := 31) hx hb dX_isRowChar_27 (by decide) ?_
          exact x_zret hx hb hr rfl hlk hK hP hD hS dX_isRowChar_31 ⟨by have nc17 : ¬ w < 97 := (by have q : ¬ nI w < nI 97 := c17; rw [nI_ltI (by omega) (by omega)] at q; exact q); have nc23 : ¬ 122 < w := (by have q : ¬ nI 122 < nI w := c23; rw [nI_ltI (by omega) (by omega)] at q; exact q); have nc4 : isDg w = false := (by rw [hd, b2i_0] at c4; exact c4); unfold isDg at nc4; rw [decide_eq_false_iff_not] at nc4; have nc11 : isCp w = false := (by rw [hc, b2i_0] at c11; exact c11); unfold isCp at nc11; rw [decide_eq_false_iff_not] at nc11; rw [show isRw w = true from (by unfold isRw; exact decide_eq_true (by omega))]; rfl, rfl⟩

set_option maxHeartbeats 4000000 in
set_option maxRecDepth 100000 in
theorem cX_isSign (l : Launch) (D : va_G) (tys : List (ClassId × FieldType)) (A : Nat → Prop) (ws : va_W) (w : Nat) (hw : w < 65536) : x_Mi l yX_isSign wX_isSign (xR 1) D xCl tys A [.int (nI w)] ws (fun r ws1 => r = b2i (isSg w) ∧ ws = ws1) := by
  refine x_enter (by decide) rfl (Nat.le_of_ble_eq_true rfl) (fun p e s m args below meth c ls hx hb hr hlk hml hown hnm hts hK hP hD hS hA hN hl => ?_)
  have hl : lv_has ls 1 [(0, .int (nI w))] := hl
  refine lv_iload_n hx hb dX_isSign_0 rfl (lv_at hl 0 rfl) ?_
  refine lv_bipush (v := 40) hx hb dX_isSign_1 (by decide) ?_
  refine lv_icmp_eq (tgt := 31) hx hb dX_isSign_3 (by decide) (fun c3 => ?_) (fun c3 => ?_)
  · refine lv_iconst (v := 1) hx hb dX_isSign_31 (by decide) ?_
    refine lv_goto (tgt := 36) hx hb dX_isSign_32 (by decide) ?_
    exact x_zret hx hb hr rfl hlk hK hP hD hS dX_isSign_36 ⟨by have nc3 : w = 40 := (by have q : nI w = nI 40 := c3; rw [nI_eq (by omega) (by omega)] at q; exact q); rw [show isSg w = true from (by unfold isSg; exact decide_eq_true (by omega))]; rfl, rfl⟩
  · refine lv_iload_n hx hb dX_isSign_6 rfl (lv_at hl 0 rfl) ?_
    refine lv_bipush (v := 41) hx hb dX_isSign_7 (by decide) ?_
    refine lv_icmp_eq (tgt := 31) hx hb dX_isSign_9 (by decide) (fun c9 => ?_) (fun c9 => ?_)
    · refine lv_iconst (v := 1) hx hb dX_isSign_31 (by decide) ?_
      refine lv_goto (tgt := 36) hx hb dX_isSign_32 (by decide) ?_
      exact x_zret hx hb hr rfl hlk hK hP hD hS dX_isSign_36 ⟨by have nc3 : ¬ w = 40 := (by have q : ¬ nI w = nI 40 := c3; rw [nI_eq (by omega) (by omega)] at q; exact q); have nc9 : w = 41 := (by have q : nI w = nI 41 := c9; rw [nI_eq (by omega) (by omega)] at q; exact q); rw [show isSg w = true from (by unfold isSg; exact decide_eq_true (by omega))]; rfl, rfl⟩
    · refine lv_iload_n hx hb dX_isSign_12 rfl (lv_at hl 0 rfl) ?_
      refine lv_bipush (v := 44) hx hb dX_isSign_13 (by decide) ?_
      refine lv_icmp_eq (tgt := 31) hx hb dX_isSign_15 (by decide) (fun c15 => ?_) (fun c15 => ?_)
      · refine lv_iconst (v := 1) hx hb dX_isSign_31 (by decide) ?_
        refine lv_goto (tgt := 36) hx hb dX_isSign_32 (by decide) ?_
        exact x_zret hx hb hr rfl hlk hK hP hD hS dX_isSign_36 ⟨by have nc3 : ¬ w = 40 := (by have q : ¬ nI w = nI 40 := c3; rw [nI_eq (by omega) (by omega)] at q; exact q); have nc9 : ¬ w = 41 := (by have q : ¬ nI w = nI 41 := c9; rw [nI_eq (by omega) (by omega)] at q; exact q); have nc15 : w = 44 := (by have q : nI w = nI 44 := c15; rw [nI_eq (by omega) (by omega)] at q; exact q); rw [show isSg w = true from (by unfold isSg; exact decide_eq_true (by omega))]; rfl, rfl⟩
      · refine lv_iload_n hx hb dX_isSign_18 rfl (lv_at hl 0 rfl) ?_
        refine lv_bipush (v := 61) hx hb dX_isSign_19 (by decide) ?_
        refine lv_icmp_eq (tgt := 31) hx hb dX_isSign_21 (by decide) (fun c21 => ?_) (fun c21 => ?_)
        · refine lv_iconst (v := 1) hx hb dX_isSign_31 (by decide) ?_
          refine lv_goto (tgt := 36) hx hb dX_isSign_32 (by decide) ?_
          exact x_zret hx hb hr rfl hlk hK hP hD hS dX_isSign_36 ⟨by have nc3 : ¬ w = 40 := (by have q : ¬ nI w = nI 40 := c3; rw [nI_eq (by omega) (by omega)] at q; exact q); have nc9 : ¬ w = 41 := (by have q : ¬ nI w = nI 41 := c9; rw [nI_eq (by omega) (by omega)] at q; exact q); have nc15 : ¬ w = 44 := (by have q : ¬ nI w = nI 44 := c15; rw [nI_eq (by omega) (by omega)] at q; exact q); have nc21 : w = 61 := (by have q : nI w = nI 61 := c21; rw [nI_eq (by omega) (by omega)] at q; exact q); rw [show isSg w = true from (by unfold isSg; exact decide_eq_true (by omega))]; rfl, rfl⟩
        · refine lv_iload_n hx hb dX_isSign_24 rfl (lv_at hl 0 rfl) ?_
          refine x_calli (x_runSN (n := 1) (As := [.int (nI w)]) (rest := []) ⟨hx, hb, hml, hown, hts⟩ (cQ_isJoin l D tys A ws w hw) (xN_317 hN) tw_318 tw_1 tw_319 (by decide +kernel) rfl rfl ⟨by decide, by decide⟩ ⟨Nat.zero_le _, Nat.zero_le _⟩ hK hP hD hS hA hN rfl hl.1 rfl (lv_room (Nat.le_of_ble_eq_true rfl)) dX_isSign_25) hS (fun rhj ws_1 H locs hj hP hD hS => ?_)
          obtain ⟨hj, rfl⟩ := hj
          refine lv_if_eq (tgt := 35) hx hb dX_isSign_28 (by decide) (fun c28 => ?_) (fun c28 => ?_)
          · refine lv_iconst (v := 0) hx hb dX_isSign_35 (by decide) ?_
            exact x_zret hx hb hr rfl hlk hK hP hD hS dX_isSign_36 ⟨by have nc3 : ¬ w = 40 := (by have q : ¬ nI w = nI 40 := c3; rw [nI_eq (by omega) (by omega)] at q; exact q); have nc9 : ¬ w = 41 := (by have q : ¬ nI w = nI 41 := c9; rw [nI_eq (by omega) (by omega)] at q; exact q); have nc15 : ¬ w = 44 := (by have q : ¬ nI w = nI 44 := c15; rw [nI_eq (by omega) (by omega)] at q; exact q); have nc21 : ¬ w = 61 := (by have q : ¬ nI w = nI 61 := c21; rw [nI_eq (by omega) (by omega)] at q; exact q); have nc28 : isJn w = false := (by rw [hj, b2i_0] at c28; exact c28); unfold isJn at nc28; rw [decide_eq_false_iff_not] at nc28; rw [show isSg w = false from (by unfold isSg; exact decide_eq_false (by omega))]; rfl, rfl⟩
          · refine lv_iconst (v := 1) hx hb dX_isSign_31 (by decide) ?_
            refine lv_goto (tgt := 36) hx hb dX_isSign_32 (by decide) ?_
            exact x_zret hx hb hr rfl hlk hK hP hD hS dX_isSign_36 ⟨by have nc3 : ¬ w = 40 := (by have q : ¬ nI w = nI 40 := c3; rw [nI_eq (by omega) (by omega)] at q; exact q); have nc9 : ¬ w = 41 := (by have q : ¬ nI w = nI 41 := c9; rw [nI_eq (by omega) (by omega)] at q; exact q); have nc15 : ¬ w = 44 := (by have q : ¬ nI w = nI 44 := c15; rw [nI_eq (by omega) (by omega)] at q; exact q); have nc21 : ¬ w = 61 := (by have q : ¬ nI w = nI 61 := c21; rw [nI_eq (by omega) (by omega)] at q; exact q); have nc28 : isJn w = true := (by rw [hj, b2i_n0] at c28; exact c28); unfold isJn at nc28; rw [decide_eq_true_eq] at nc28; rw [show isSg w = true from (by unfold isSg; exact decide_eq_true (by omega))]; rfl, rfl⟩

-- ===== Text =====
/-- the cells k, k + 1 are a Text with the characters s -/
def TextAt (cC : ClassId) (ad : Nat → Nat) (ws : va_W) (k : Nat) (cs : List Nat) : Prop :=
  ∃ f : Nat → Int32, ws[k]? = some (ad k, .inr (5, [.ref (ad (k + 1)), .int (nI cs.length)])) ∧ ws[k + 1]? = some (ad (k + 1), .inl (cC, 80, .inl f)) ∧ cs.length ≤ 80 ∧ (∀ (i : Nat) (h : i < cs.length), f i = nI cs[i]) ∧ ∀ c ∈ cs, 32 ≤ c ∧ c ≤ 126
theorem TextAt.obj {cC : ClassId} {ad : Nat → Nat} {ws : va_W} {k : Nat} {cs : List Nat} (h : TextAt cC ad ws k cs) : ∃ fs, ws[k]? = some (ad k, .inr (5, fs)) := by
  obtain ⟨f, h0, -⟩ := h
  exact ⟨_, h0⟩
theorem TextAt.keep {cC : ClassId} {ad : Nat → Nat} {ws ws1 : va_W} {k a b : Nat} {cs : List Nat} (h : TextAt cC ad ws k cs) (hf : x_fr a b ws ws1) (hd : k + 2 ≤ a ∨ b ≤ k) : TextAt cC ad ws1 k cs := by
  obtain ⟨f, h0, h1, r⟩ := h
  exact ⟨f, (hf _ (by omega)).trans h0, (hf _ (by omega)).trans h1, r⟩
theorem TextAt.le {cC : ClassId} {ad : Nat → Nat} {ws : va_W} {k : Nat} {cs : List Nat} (h : TextAt cC ad ws k cs) : cs.length ≤ 80 := by
  obtain ⟨f, -, -, h1, -⟩ := h
  exact h1
def chN (cs : List Nat) (i : Nat) : Nat := cs.getD i 32
def chI (cs : List Nat) (i : Int32) : Nat := if 0 ≤ i.toInt then chN cs i.toInt.toNat else 32
theorem chI_neg {cs : List Nat} {i : Int32} (h : i < 0) : chI cs i = 32 := by
  rw [i32_lt, i32_0] at h
  exact if_neg (by omega)
theorem chI_big {cs : List Nat} {i : Int32} (hL : cs.length ≤ 80) (h : nI cs.length ≤ i) : chI cs i = 32 := by
  rw [i32_le, nI_toInt (by omega)] at h
  unfold chI chN
  rw [if_pos (by omega), List.getD_eq_getElem?_getD, List.getElem?_eq_none (by omega)]; rfl
theorem chI_nI (cs : List Nat) {i : Nat} (h : i < 2 ^ 31) : chI cs (nI i) = chN cs i := by
  unfold chI
  rw [nI_toInt h, if_pos (by omega)]; simp
theorem chN_in {cs : List Nat} {i : Nat} (h : i < cs.length) : chN cs i = cs[i] := by
  unfold chN
  simp [h]
theorem chN_lt {cs : List Nat} (h : ∀ c ∈ cs, 32 ≤ c ∧ c ≤ 126) (i : Nat) : 32 ≤ chN cs i ∧ chN cs i ≤ 126 := by
  rcases Nat.lt_or_ge i cs.length with q | q
  · rw [chN_in q]; exact h _ (List.getElem_mem q)
  · unfold chN
    rw [List.getD_eq_getElem?_getD, List.getElem?_eq_none q]; decide
theorem TextAt.ch {cC : ClassId} {ad : Nat → Nat} {ws : va_W} {k : Nat} {cs : List Nat} (h : TextAt cC ad ws k cs) (i : Int32) : 32 ≤ chI cs i ∧ chI cs i ≤ 126 := by
  obtain ⟨f, -, -, -, -, h1⟩ := h
  unfold chI
  split
  · exact chN_lt h1 _
  · decide

set_option maxHeartbeats 4000000 in
set_option maxRecDepth 100000 in
/-- Text.clear() -/
theorem cX_clear (l : Launch) (D : va_G) (tys : List (ClassId × FieldType)) (A : Nat → Prop) (ws : va_W) (cC : ClassId) (hC : tys[1]? = some (cC, .char)) (ad : Nat → Nat) (k : Nat) (cs : List Nat) (hT : TextAt cC ad ws k cs) : x_Mv l yX_clear wX_clear (xR 0) D xCl tys A [.ref (ad k)] ws (fun ws1 => x_fr k (k + 2) ws ws1 ∧ TextAt cC ad ws1 k []) := by
  have hch := hT.ch
  obtain ⟨f, h0, h1, hle, hf, hcs⟩ := hT
  refine x_enter (by decide) rfl (Nat.le_of_ble_eq_true rfl) (fun p e s m args below meth c ls hx hb hr hlk hml hown hnm hts hK hP hD hS hA hN hl => ?_)
  have hl : lv_has ls 1 [(0, .ref (ad k))] := hl
  refine lv_aload_n hx hb dX_clear_0 rfl (lv_at hl 0 rfl) ?_
  refine lv_iconst (v := 0) hx hb dX_clear_1 (by decide) ?_
  refine va_put (D := D) (cl := xCl) (ci := 5) (v := .int 0) (ty := .int) (C := rnX) (T := tbX) (N := 2) hx hb hts inX tyX toX nmX hown hK hP hD hS k h0 rfl 1 (by decide) (hts _ tw_65) (fun _ h9 => h9) rfl (by decide +kernel) rfl rfl (Nat.le_of_ble_eq_true rfl) dX_clear_2 (fun H locs hP hD hS => ?_)
  obtain ⟨ws_2, hu_1, hP, hD⟩ := x_gen h0 hP hD
  have h_3 : ws_2[k]? = some (ad k, .inr (5, [.ref (ad (k + 1)), .int 0])) := hu_1.1
  have h_4 := (hu_1.2 (k + 1) (by omega)).trans h1
  exact x_vret hx hb hr hlk hK hP hD hS dX_clear_5 ⟨(hu_1.fr (a := k) (b := k + 2) (by omega) (by omega)), f, h_3, h_4, Nat.zero_le _, fun i h => absurd h (Nat.not_lt_zero i), fun _ h => absurd h List.not_mem_nil⟩

set_option maxHeartbeats 4000000 in
set_option maxRecDepth 100000 in
/-- Text.charAt(i) -/
theorem cX_charAt (l : Launch) (D : va_G) (tys : List (ClassId × FieldType)) (A : Nat → Prop) (ws : va_W) (cC : ClassId) (hC : tys[1]? = some (cC, .char)) (ad : Nat → Nat) (k : Nat) (cs : List Nat) (i : Int32) (hT : TextAt cC ad ws k cs) : x_Mi l yX_charAt wX_charAt (xR 0) D xCl tys A [.ref (ad k), .int i] ws (fun r ws1 => r = nI (chI cs i) ∧ ws = ws1) := by
  have hch := hT.ch
  obtain ⟨f, h0, h1, hle, hf, hcs⟩ := hT
  refine x_enter (by decide) rfl (Nat.le_of_ble_eq_true rfl) (fun p e s m args below meth c ls hx hb hr hlk hml hown hnm hts hK hP hD hS hA hN hl => ?_)
  have hl : lv_has ls 2 [(0, .ref (ad k)), (1, .int i)] := hl
  refine lv_iload_n hx hb dX_charAt_0 rfl (lv_at hl 1 rfl) ?_
  refine lv_if_lt (tgt := 21) hx hb dX_charAt_1 (by decide) (fun c1 => ?_) (fun c1 => ?_)
  · refine lv_bipush (v := 32) hx hb dX_charAt_21 (by decide) ?_
    exact x_zret hx hb hr (by decide) hlk hK hP hD hS dX_charAt_23 ⟨by rw [chI_neg c1]; rfl, rfl⟩
  · refine lv_iload_n hx hb dX_charAt_4 rfl (lv_at hl 1 rfl) ?_
    refine lv_aload_n hx hb dX_charAt_5 rfl (lv_at hl 0 rfl) ?_
    refine va_get (D := D) (cl := xCl) (ci := 5) (v := .int (nI cs.length)) (C := rnX) (T := tbX) (N := 2) hx hb hts inX hown hK hP k h0 rfl 1 (by decide) (hts _ tw_65) (fun _ h9 => h9) rfl dX_charAt_6 ?_
    refine lv_icmp_ge (tgt := 21) hx hb dX_charAt_9 (by decide) (fun c9 => ?_) (fun c9 => ?_)
    · refine lv_bipush (v := 32) hx hb dX_charAt_21 (by decide) ?_
      exact x_zret hx hb hr (by decide) hlk hK hP hD hS dX_charAt_23 ⟨by rw [chI_big hle c9]; rfl, rfl⟩
    · obtain ⟨j, hj, ej⟩ := ix_of (by omega) c1 c9
      refine lv_aload_n hx hb dX_charAt_12 rfl (lv_at hl 0 rfl) ?_
      refine va_get (D := D) (cl := xCl) (ci := 5) (v := .ref (ad (k + 1))) (C := rnX) (T := tbX) (N := 2) hx hb hts inX hown hK hP k h0 rfl 0 (by decide) (hts _ tw_64) (fun _ h9 => h9) rfl dX_charAt_13 ?_
      refine lv_iload_n hx hb dX_charAt_16 rfl (lv_at hl 1 rfl) ?_
      refine va_cald hx hb hK hP (k + 1) 1 h1 hC (by rw [ej]; exact vp_in_nI (by omega) (by omega)) dX_charAt_17 ?_
      refine lv_goto (tgt := 23) hx hb dX_charAt_18 (by decide) ?_
      exact x_zret hx hb hr (by rw [ej, nI_clamp (by omega), hf j hj]; exact (pk_charN (by have := hcs _ (List.getElem_mem hj); omega)).1) hlk hK hP hD hS dX_charAt_23 ⟨by rw [ej, chI_nI cs (by omega), chN_in hj, nI_clamp (by omega)]; exact hf j hj, rfl⟩

/-- promise 5: a character more, where it may be one and there is room -/
def typC (cs : List Nat) (w : Nat) : Bool := decide (32 ≤ w ∧ w ≤ 126 ∧ cs.length < 80)
def typS (cs : List Nat) (w : Nat) : List Nat := if typC cs w = true then cs ++ [w] else cs
theorem nar_char {q : Nat} (hq : q < 65536) : vp_nar .char (nI q) = nI q := by
  unfold vp_nar
  rw [(pk_charN hq).1]
theorem TextAt.push {cC : ClassId} {ad : Nat → Nat} {ws : va_W} {k w : Nat} {cs : List Nat} {f f1 : Nat → Int32} {n1 : Int32} (q0 : ws[k]? = some (ad k, .inr (5, [.ref (ad (k + 1)), .int n1]))) (q1 : ws[k + 1]? = some (ad (k + 1), .inl (cC, 80, .inl f1))) (hw : 32 ≤ w ∧ w ≤ 126) (hlt : cs.length < 80) (en : n1 = nI cs.length + 1) (ef : f1 = upd f (nI cs.length).toNatClampNeg (vp_nar .char (nI w))) (hf : ∀ (i : Nat) (h : i < cs.length), f i = nI cs[i]) (hcs : ∀ c ∈ cs, 32 ≤ c ∧ c ≤ 126) : TextAt cC ad ws k (typS cs w) := by
  have e : typS cs w = cs ++ [w] := if_pos (decide_eq_true ⟨hw.1, hw.2, hlt⟩)
  rw [e]
  have e1 : n1 = nI (cs ++ [w]).length := by rw [en, nI_1, List.length_append]; rfl
  subst e1 ef
  refine ⟨_, q0, q1, by rw [List.length_append]; exact hlt, ?_, ?_⟩
  · intro i h
    rw [nI_clamp (by omega), nar_char (by omega)]
    unfold upd
    by_cases e : i = cs.length
    · rw [if_pos e]; subst e; simp
    · have hi2 : i < cs.length := by
        have : i < (cs ++ [w]).length := h
        rw [List.length_append] at this
        simp only [List.length_singleton] at this
        omega
      rw [if_neg e, List.getElem_append_left hi2]
      exact hf i hi2
  · intro c hc
    rcases List.mem_append.mp hc with q | q
    · exact hcs c q
    · rw [List.mem_singleton] at q; omega

set_option maxHeartbeats 4000000 in
set_option maxRecDepth 100000 in
/-- Text.append(c) -/
theorem cX_append (l : Launch) (D : va_G) (tys : List (ClassId × FieldType)) (A : Nat → Prop) (ws : va_W) (cC : ClassId) (hC : tys[1]? = some (cC, .char)) (ad : Nat → Nat) (k : Nat) (cs : List Nat) (w : Nat) (hw : w < 65536) (hT : TextAt cC ad ws k cs) : x_Mi l yX_append wX_append (xR 0) D xCl tys A [.ref (ad k), .int (nI w)] ws (fun r ws1 => x_fr k (k + 2) ws ws1 ∧ r = b2i (typC cs w) ∧ TextAt cC ad ws1 k (typS cs w)) := by
  have hch := hT.ch
  obtain ⟨f, h0, h1, hle, hf, hcs⟩ := hT
  refine x_enter (by decide) rfl (Nat.le_of_ble_eq_true rfl) (fun p e s m args below meth c ls hx hb hr hlk hml hown hnm hts hK hP hD hS hA hN hl => ?_)
  have hl : lv_has ls 2 [(0, .ref (ad k)), (1, .int (nI w))] := hl
  refine lv_iload_n hx hb dX_append_0 rfl (lv_at hl 1 rfl) ?_
  refine lv_bipush (v := 32) hx hb dX_append_1 (by decide) ?_
  refine lv_icmp_lt (tgt := 24) hx hb dX_append_3 (by decide) (fun c3 => ?_) (fun c3 => ?_)
  · refine lv_iconst (v := 0) hx hb dX_append_24 (by decide) ?_
    exact x_zret hx hb hr rfl hlk hK hP hD hS dX_append_25 ⟨x_fr.rf, (by have nc3 : w < 32 := (by have q : nI w < nI 32 := c3; rw [nI_ltI (by omega) (by omega)] at q; exact q); have e : typC cs w = false := (by unfold typC; exact decide_eq_false (by omega)); rw [e]; rfl), (by have nc3 : w < 32 := (by have q : nI w < nI 32 := c3; rw [nI_ltI (by omega) (by omega)] at q; exact q); have e : typC cs w = false := (by unfold typC; exact decide_eq_false (by omega)); unfold typS; rw [e]; exact ⟨f, h0, h1, hle, hf, hcs⟩)⟩
  · refine lv_iload_n hx hb dX_append_6 rfl (lv_at hl 1 rfl) ?_
    refine lv_bipush (v := 126) hx hb dX_append_7 (by decide) ?_
    refine lv_icmp_gt (tgt := 24) hx hb dX_append_9 (by decide) (fun c9 => ?_) (fun c9 => ?_)
    · refine lv_iconst (v := 0) hx hb dX_append_24 (by decide) ?_
      exact x_zret hx hb hr rfl hlk hK hP hD hS dX_append_25 ⟨x_fr.rf, (by have nc3 : ¬ w < 32 := (by have q : ¬ nI w < nI 32 := c3; rw [nI_ltI (by omega) (by omega)] at q; exact q); have nc9 : 126 < w := (by have q : nI 126 < nI w := c9; rw [nI_ltI (by omega) (by omega)] at q; exact q); have e : typC cs w = false := (by unfold typC; exact decide_eq_false (by omega)); rw [e]; rfl), (by have nc3 : ¬ w < 32 := (by have q : ¬ nI w < nI 32 := c3; rw [nI_ltI (by omega) (by omega)] at q; exact q); have nc9 : 126 < w := (by have q : nI 126 < nI w := c9; rw [nI_ltI (by omega) (by omega)] at q; exact q); have e : typC cs w = false := (by unfold typC; exact decide_eq_false (by omega)); unfold typS; rw [e]; exact ⟨f, h0, h1, hle, hf, hcs⟩)⟩
    · refine lv_aload_n hx hb dX_append_12 rfl (lv_at hl 0 rfl) ?_
      refine va_get (D := D) (cl := xCl) (ci := 5) (v := .int (nI cs.length)) (C := rnX) (T := tbX) (N := 2) hx hb hts inX hown hK hP k h0 rfl 1 (by decide) (hts _ tw_65) (fun _ h9 => h9) rfl dX_append_13 ?_
      refine lv_aload_n hx hb dX_append_16 rfl (lv_at hl 0 rfl) ?_
      refine va_get (D := D) (cl := xCl) (ci := 5) (v := .ref (ad (k + 1))) (C := rnX) (T := tbX) (N := 2) hx hb hts inX hown hK hP k h0 rfl 0 (by decide) (hts _ tw_64) (fun _ h9 => h9) rfl dX_append_17 ?_
      refine va_alen (v := 80) hx hb hK hP (k + 1) 1 h1 hC (by rfl) dX_append_20 ?_
      refine lv_icmp_lt (tgt := 26) hx hb dX_append_21 (by decide) (fun c21 => ?_) (fun c21 => ?_)
      · refine lv_aload_n hx hb dX_append_26 rfl (lv_at hl 0 rfl) ?_
        refine va_get (D := D) (cl := xCl) (ci := 5) (v := .ref (ad (k + 1))) (C := rnX) (T := tbX) (N := 2) hx hb hts inX hown hK hP k h0 rfl 0 (by decide) (hts _ tw_64) (fun _ h9 => h9) rfl dX_append_27 ?_
        refine lv_aload_n hx hb dX_append_30 rfl (lv_at hl 0 rfl) ?_
        refine va_get (D := D) (cl := xCl) (ci := 5) (v := .int (nI cs.length)) (C := rnX) (T := tbX) (N := 2) hx hb hts inX hown hK hP k h0 rfl 1 (by decide) (hts _ tw_65) (fun _ h9 => h9) rfl dX_append_31 ?_
        refine lv_iload_n hx hb dX_append_34 rfl (lv_at hl 1 rfl) ?_
        refine va_cast hx hb hK hP hD hS (k + 1) 1 h1 hC (by have nc3 : ¬ w < 32 := (by have q : ¬ nI w < nI 32 := c3; rw [nI_ltI (by omega) (by omega)] at q; exact q); have nc9 : ¬ 126 < w := (by have q : ¬ nI 126 < nI w := c9; rw [nI_ltI (by omega) (by omega)] at q; exact q); have nc21 : (cs.length) < 80 := (by have q : nI ((cs.length)) < nI 80 := c21; rw [nI_ltI (by omega) (by omega)] at q; exact q); exact vp_in_nI (by omega) (by omega)) dX_append_35 (fun H locs hP hD hS => ?_)
        obtain ⟨ws_2, hu_1, hP, hD⟩ := x_gen h1 hP hD
        have h_3 : ws_2[k + 1]? = some (ad (k + 1), .inl (cC, 80, .inl (upd f ((nI cs.length)).toNatClampNeg ((vp_nar .char ((nI w))))))) := hu_1.1
        have h_4 := (hu_1.2 k (by omega)).trans h0
        refine lv_aload_n hx hb dX_append_36 rfl (lv_at hl 0 rfl) ?_
        refine lv_dup hx hb dX_append_37 rfl ?_
        refine va_get (D := D) (cl := xCl) (ci := 5) (v := .int (nI cs.length)) (C := rnX) (T := tbX) (N := 2) hx hb hts inX hown hK hP k h_4 rfl 1 (by decide) (hts _ tw_65) (fun _ h9 => h9) rfl dX_append_38 ?_
        refine lv_iconst (v := 1) hx hb dX_append_41 (by decide) ?_
        refine lv_iadd hx hb dX_append_42 ?_
        refine lv_topi (fun v_5 ev_5 => ?_)
        refine va_put (D := D) (cl := xCl) (ci := 5) (v := .int v_5) (ty := .int) (C := rnX) (T := tbX) (N := 2) hx hb hts inX tyX toX nmX hown hK hP hD hS k h_4 rfl 1 (by decide) (hts _ tw_65) (fun _ h9 => h9) rfl (by decide +kernel) rfl rfl (Nat.le_of_ble_eq_true rfl) dX_append_43 (fun H locs hP hD hS => ?_)
        obtain ⟨ws_7, hu_6, hP, hD⟩ := x_gen h_4 hP hD
        have h_8 : ws_7[k]? = some (ad k, .inr (5, [.ref (ad (k + 1)), .int v_5])) := hu_6.1
        have h_9 := (hu_6.2 (k + 1) (by omega)).trans h_3
        refine lv_iconst (v := 1) hx hb dX_append_46 (by decide) ?_
        exact x_zret hx hb hr rfl hlk hK hP hD hS dX_append_47 ⟨((hu_1.fr (a := k) (b := k + 2) (by omega) (by omega)).tr (hu_6.fr (a := k) (b := k + 2) (by omega) (by omega))), (by have nc3 : ¬ w < 32 := (by have q : ¬ nI w < nI 32 := c3; rw [nI_ltI (by omega) (by omega)] at q; exact q); have nc9 : ¬ 126 < w := (by have q : ¬ nI 126 < nI w := c9; rw [nI_ltI (by omega) (by omega)] at q; exact q); have nc21 : (cs.length) < 80 := (by have q : nI ((cs.length)) < nI 80 := c21; rw [nI_ltI (by omega) (by omega)] at q; exact q); rw [show typC cs w = true from decide_eq_true (by omega)]; rfl), (by have nc3 : ¬ w < 32 := (by have q : ¬ nI w < nI 32 := c3; rw [nI_ltI (by omega) (by omega)] at q; exact q); have nc9 : ¬ 126 < w := (by have q : ¬ nI 126 < nI w := c9; rw [nI_ltI (by omega) (by omega)] at q; exact q); have nc21 : (cs.length) < 80 := (by have q : nI ((cs.length)) < nI 80 := c21; rw [nI_ltI (by omega) (by omega)] at q; exact q); exact TextAt.push h_8 h_9 (by omega) (by omega) ev_5 rfl hf hcs)⟩
      · refine lv_iconst (v := 0) hx hb dX_append_24 (by decide) ?_
        exact x_zret hx hb hr rfl hlk hK hP hD hS dX_append_25 ⟨x_fr.rf, (by have nc3 : ¬ w < 32 := (by have q : ¬ nI w < nI 32 := c3; rw [nI_ltI (by omega) (by omega)] at q; exact q); have nc9 : ¬ 126 < w := (by have q : ¬ nI 126 < nI w := c9; rw [nI_ltI (by omega) (by omega)] at q; exact q); have nc21 : ¬ (cs.length) < 80 := (by have q : ¬ nI ((cs.length)) < nI 80 := c21; rw [nI_ltI (by omega) (by omega)] at q; exact q); have e : typC cs w = false := (by unfold typC; exact decide_eq_false (by omega)); rw [e]; rfl), (by have nc3 : ¬ w < 32 := (by have q : ¬ nI w < nI 32 := c3; rw [nI_ltI (by omega) (by omega)] at q; exact q); have nc9 : ¬ 126 < w := (by have q : ¬ nI 126 < nI w := c9; rw [nI_ltI (by omega) (by omega)] at q; exact q); have nc21 : ¬ (cs.length) < 80 := (by have q : ¬ nI ((cs.length)) < nI 80 := c21; rw [nI_ltI (by omega) (by omega)] at q; exact q); have e : typC cs w = false := (by unfold typC; exact decide_eq_false (by omega)); unfold typS; rw [e]; exact ⟨f, h0, h1, hle, hf, hcs⟩)⟩
end
section
theorem dP_init_0 : decode bP_init 0 = .ok (.aload_n 0, 1) := by decide +kernel
theorem dP_init_1 : decode bP_init 1 = .ok (.invokespecial 3, 3) := by decide +kernel
theorem dP_init_4 : decode bP_init 4 = .ok (.aload_n 0, 1) := by decide +kernel
theorem dP_init_5 : decode bP_init 5 = .ok (.new 9, 3) := by decide +kernel
theorem dP_init_8 : decode bP_init 8 = .ok (.dup, 1) := by decide +kernel
theorem dP_init_9 : decode bP_init 9 = .ok (.invokespecial 11, 3) := by decide +kernel
theorem dP_init_12 : decode bP_init 12 = .ok (.putfield 12, 3) := by decide +kernel
theorem dP_init_15 : decode bP_init 15 = .ok (.aload_n 0, 1) := by decide +kernel
theorem dP_init_16 : decode bP_init 16 = .ok (.new 9, 3) := by decide +kernel
theorem dP_init_19 : decode bP_init 19 = .ok (.dup, 1) := by decide +kernel
theorem dP_init_20 : decode bP_init 20 = .ok (.invokespecial 11, 3) := by decide +kernel
theorem dP_init_23 : decode bP_init 23 = .ok (.putfield 18, 3) := by decide +kernel
theorem dP_init_26 : decode bP_init 26 = .ok (.aload_n 0, 1) := by decide +kernel
theorem dP_init_27 : decode bP_init 27 = .ok (.bipush 26, 2) := by decide +kernel
theorem dP_init_29 : decode bP_init 29 = .ok (.newarray .int, 2) := by decide +kernel
theorem dP_init_31 : decode bP_init 31 = .ok (.putfield 21, 3) := by decide +kernel
theorem dP_init_34 : decode bP_init 34 = .ok (.aload_n 0, 1) := by decide +kernel
theorem dP_init_35 : decode bP_init 35 = .ok (.iconst 0, 1) := by decide +kernel
theorem dP_init_36 : decode bP_init 36 = .ok (.putfield 25, 3) := by decide +kernel
theorem dP_init_39 : decode bP_init 39 = .ok (.aload_n 0, 1) := by decide +kernel
theorem dP_init_40 : decode bP_init 40 = .ok (.iconst 0, 1) := by decide +kernel
theorem dP_init_41 : decode bP_init 41 = .ok (.putfield 29, 3) := by decide +kernel
theorem dP_init_44 : decode bP_init 44 = .ok (.return_, 1) := by decide +kernel
theorem dP_parse_0 : decode bP_parse 0 = .ok (.aload_n 1, 1) := by decide +kernel
theorem dP_parse_1 : decode bP_parse 1 = .ok (.aload_n 0, 1) := by decide +kernel
theorem dP_parse_2 : decode bP_parse 2 = .ok (.getfield 12, 3) := by decide +kernel
theorem dP_parse_5 : decode bP_parse 5 = .ok (.invokevirtual 32, 3) := by decide +kernel
theorem dP_parse_8 : decode bP_parse 8 = .ok (.aload_n 0, 1) := by decide +kernel
theorem dP_parse_9 : decode bP_parse 9 = .ok (.getfield 18, 3) := by decide +kernel
theorem dP_parse_12 : decode bP_parse 12 = .ok (.invokevirtual 38, 3) := by decide +kernel
theorem dP_parse_15 : decode bP_parse 15 = .ok (.aload_n 0, 1) := by decide +kernel
theorem dP_parse_16 : decode bP_parse 16 = .ok (.iconst 0, 1) := by decide +kernel
theorem dP_parse_17 : decode bP_parse 17 = .ok (.putfield 25, 3) := by decide +kernel
theorem dP_parse_20 : decode bP_parse 20 = .ok (.aload_n 0, 1) := by decide +kernel
theorem dP_parse_21 : decode bP_parse 21 = .ok (.iconst 0, 1) := by decide +kernel
theorem dP_parse_22 : decode bP_parse 22 = .ok (.putfield 29, 3) := by decide +kernel
theorem dP_parse_25 : decode bP_parse 25 = .ok (.iconst 0, 1) := by decide +kernel
theorem dP_parse_26 : decode bP_parse 26 = .ok (.istore_n 2, 1) := by decide +kernel
theorem dP_parse_27 : decode bP_parse 27 = .ok (.iload_n 2, 1) := by decide +kernel
theorem dP_parse_28 : decode bP_parse 28 = .ok (.aload_n 0, 1) := by decide +kernel
theorem dP_parse_29 : decode bP_parse 29 = .ok (.getfield 21, 3) := by decide +kernel
theorem dP_parse_32 : decode bP_parse 32 = .ok (.arraylength, 1) := by decide +kernel
theorem dP_parse_33 : decode bP_parse 33 = .ok (.if_icmp .ge 16, 3) := by decide +kernel
theorem dP_parse_36 : decode bP_parse 36 = .ok (.aload_n 0, 1) := by decide +kernel
theorem dP_parse_37 : decode bP_parse 37 = .ok (.getfield 21, 3) := by decide +kernel
theorem dP_parse_40 : decode bP_parse 40 = .ok (.iload_n 2, 1) := by decide +kernel
theorem dP_parse_41 : decode bP_parse 41 = .ok (.iconst (-1), 1) := by decide +kernel
theorem dP_parse_42 : decode bP_parse 42 = .ok (.iastore, 1) := by decide +kernel
theorem dP_parse_43 : decode bP_parse 43 = .ok (.iinc 2 1, 3) := by decide +kernel
theorem dP_parse_46 : decode bP_parse 46 = .ok (.goto (-19), 3) := by decide +kernel
theorem dP_parse_49 : decode bP_parse 49 = .ok (.aload_n 0, 1) := by decide +kernel
theorem dP_parse_50 : decode bP_parse 50 = .ok (.iconst 0, 1) := by decide +kernel
theorem dP_parse_51 : decode bP_parse 51 = .ok (.invokevirtual 41, 3) := by decide +kernel
theorem dP_parse_54 : decode bP_parse 54 = .ok (.ifCond .eq 21, 3) := by decide +kernel
theorem dP_parse_57 : decode bP_parse 57 = .ok (.aload_n 0, 1) := by decide +kernel
theorem dP_parse_58 : decode bP_parse 58 = .ok (.getfield 12, 3) := by decide +kernel
theorem dP_parse_61 : decode bP_parse 61 = .ok (.aload_n 0, 1) := by decide +kernel
theorem dP_parse_62 : decode bP_parse 62 = .ok (.getfield 25, 3) := by decide +kernel
theorem dP_parse_65 : decode bP_parse 65 = .ok (.invokevirtual 45, 3) := by decide +kernel
theorem dP_parse_68 : decode bP_parse 68 = .ok (.ifCond .ne 7, 3) := by decide +kernel
theorem dP_parse_71 : decode bP_parse 71 = .ok (.iconst 1, 1) := by decide +kernel
theorem dP_parse_72 : decode bP_parse 72 = .ok (.goto 4, 3) := by decide +kernel
theorem dP_parse_75 : decode bP_parse 75 = .ok (.iconst 0, 1) := by decide +kernel
theorem dP_parse_76 : decode bP_parse 76 = .ok (.ireturn, 1) := by decide +kernel
theorem dP_stopPlace_0 : decode bP_stopPlace 0 = .ok (.aload_n 0, 1) := by decide +kernel
theorem dP_stopPlace_1 : decode bP_stopPlace 1 = .ok (.getfield 12, 3) := by decide +kernel
theorem dP_stopPlace_4 : decode bP_stopPlace 4 = .ok (.aload_n 0, 1) := by decide +kernel
theorem dP_stopPlace_5 : decode bP_stopPlace 5 = .ok (.getfield 25, 3) := by decide +kernel
theorem dP_stopPlace_8 : decode bP_stopPlace 8 = .ok (.invokevirtual 49, 3) := by decide +kernel
theorem dP_stopPlace_11 : decode bP_stopPlace 11 = .ok (.ireturn, 1) := by decide +kernel
theorem dP_program_0 : decode bP_program 0 = .ok (.aload_n 0, 1) := by decide +kernel
theorem dP_program_1 : decode bP_program 1 = .ok (.getfield 18, 3) := by decide +kernel
theorem dP_program_4 : decode bP_program 4 = .ok (.areturn, 1) := by decide +kernel
theorem dP_sum_0 : decode bP_sum 0 = .ok (.aload_n 0, 1) := by decide +kernel
theorem dP_sum_1 : decode bP_sum 1 = .ok (.iload_n 1, 1) := by decide +kernel
theorem dP_sum_2 : decode bP_sum 2 = .ok (.invokevirtual 52, 3) := by decide +kernel
theorem dP_sum_5 : decode bP_sum 5 = .ok (.ifCond .ne 5, 3) := by decide +kernel
theorem dP_sum_8 : decode bP_sum 8 = .ok (.iconst 0, 1) := by decide +kernel
theorem dP_sum_9 : decode bP_sum 9 = .ok (.ireturn, 1) := by decide +kernel
theorem dP_sum_10 : decode bP_sum 10 = .ok (.iconst 0, 1) := by decide +kernel
theorem dP_sum_11 : decode bP_sum 11 = .ok (.istore_n 2, 1) := by decide +kernel
theorem dP_sum_12 : decode bP_sum 12 = .ok (.iload_n 2, 1) := by decide +kernel
theorem dP_sum_13 : decode bP_sum 13 = .ok (.bipush 80, 2) := by decide +kernel
theorem dP_sum_15 : decode bP_sum 15 = .ok (.if_icmp .ge 64, 3) := by decide +kernel
theorem dP_sum_18 : decode bP_sum 18 = .ok (.aload_n 0, 1) := by decide +kernel
theorem dP_sum_19 : decode bP_sum 19 = .ok (.getfield 12, 3) := by decide +kernel
theorem dP_sum_22 : decode bP_sum 22 = .ok (.aload_n 0, 1) := by decide +kernel
theorem dP_sum_23 : decode bP_sum 23 = .ok (.getfield 25, 3) := by decide +kernel
theorem dP_sum_26 : decode bP_sum 26 = .ok (.invokevirtual 45, 3) := by decide +kernel
theorem dP_sum_29 : decode bP_sum 29 = .ok (.invokestatic 55, 3) := by decide +kernel
theorem dP_sum_32 : decode bP_sum 32 = .ok (.ifCond .eq 47, 3) := by decide +kernel
theorem dP_sum_35 : decode bP_sum 35 = .ok (.aload_n 0, 1) := by decide +kernel
theorem dP_sum_36 : decode bP_sum 36 = .ok (.getfield 12, 3) := by decide +kernel
theorem dP_sum_39 : decode bP_sum 39 = .ok (.aload_n 0, 1) := by decide +kernel
theorem dP_sum_40 : decode bP_sum 40 = .ok (.getfield 25, 3) := by decide +kernel
theorem dP_sum_43 : decode bP_sum 43 = .ok (.invokevirtual 45, 3) := by decide +kernel
theorem dP_sum_46 : decode bP_sum 46 = .ok (.istore_n 3, 1) := by decide +kernel
theorem dP_sum_47 : decode bP_sum 47 = .ok (.aload_n 0, 1) := by decide +kernel
theorem dP_sum_48 : decode bP_sum 48 = .ok (.dup, 1) := by decide +kernel
theorem dP_sum_49 : decode bP_sum 49 = .ok (.getfield 25, 3) := by decide +kernel
theorem dP_sum_52 : decode bP_sum 52 = .ok (.iconst 1, 1) := by decide +kernel
theorem dP_sum_53 : decode bP_sum 53 = .ok (.iadd, 1) := by decide +kernel
theorem dP_sum_54 : decode bP_sum 54 = .ok (.putfield 25, 3) := by decide +kernel
theorem dP_sum_57 : decode bP_sum 57 = .ok (.aload_n 0, 1) := by decide +kernel
theorem dP_sum_58 : decode bP_sum 58 = .ok (.iload_n 1, 1) := by decide +kernel
theorem dP_sum_59 : decode bP_sum 59 = .ok (.invokevirtual 52, 3) := by decide +kernel
theorem dP_sum_62 : decode bP_sum 62 = .ok (.ifCond .ne 5, 3) := by decide +kernel
theorem dP_sum_65 : decode bP_sum 65 = .ok (.iconst 0, 1) := by decide +kernel
theorem dP_sum_66 : decode bP_sum 66 = .ok (.ireturn, 1) := by decide +kernel
theorem dP_sum_67 : decode bP_sum 67 = .ok (.aload_n 0, 1) := by decide +kernel
theorem dP_sum_68 : decode bP_sum 68 = .ok (.iload_n 3, 1) := by decide +kernel
theorem dP_sum_69 : decode bP_sum 69 = .ok (.iconst 0, 1) := by decide +kernel
theorem dP_sum_70 : decode bP_sum 70 = .ok (.invokevirtual 58, 3) := by decide +kernel
theorem dP_sum_73 : decode bP_sum 73 = .ok (.iinc 2 1, 3) := by decide +kernel
theorem dP_sum_76 : decode bP_sum 76 = .ok (.goto (-64), 3) := by decide +kernel
theorem dP_sum_79 : decode bP_sum 79 = .ok (.iconst 1, 1) := by decide +kernel
theorem dP_sum_80 : decode bP_sum 80 = .ok (.ireturn, 1) := by decide +kernel
theorem dP_term_0 : decode bP_term 0 = .ok (.iload_n 1, 1) := by decide +kernel
theorem dP_term_1 : decode bP_term 1 = .ok (.bipush 12, 2) := by decide +kernel
theorem dP_term_3 : decode bP_term 3 = .ok (.if_icmp .lt 5, 3) := by decide +kernel
theorem dP_term_6 : decode bP_term 6 = .ok (.iconst 0, 1) := by decide +kernel
theorem dP_term_7 : decode bP_term 7 = .ok (.ireturn, 1) := by decide +kernel
theorem dP_term_8 : decode bP_term 8 = .ok (.aload_n 0, 1) := by decide +kernel
theorem dP_term_9 : decode bP_term 9 = .ok (.getfield 12, 3) := by decide +kernel
theorem dP_term_12 : decode bP_term 12 = .ok (.aload_n 0, 1) := by decide +kernel
theorem dP_term_13 : decode bP_term 13 = .ok (.getfield 25, 3) := by decide +kernel
theorem dP_term_16 : decode bP_term 16 = .ok (.invokevirtual 45, 3) := by decide +kernel
theorem dP_term_19 : decode bP_term 19 = .ok (.istore_n 2, 1) := by decide +kernel
theorem dP_term_20 : decode bP_term 20 = .ok (.iload_n 2, 1) := by decide +kernel
theorem dP_term_21 : decode bP_term 21 = .ok (.tableswitch 281 2 40 #[171, 199, 281, 171, 239, 239, 257, 265, 248, 248, 273, 281, 281, 281, 281, 281, 281, 281, 281, 281, 281, 281, 281, 281, 281, 281, 281, 281, 281, 281, 281, 281, 281, 281, 281, 281, 281, 281, 204], 171) := by decide +kernel
theorem dP_term_192 : decode bP_term 192 = .ok (.aload_n 0, 1) := by decide +kernel
theorem dP_term_193 : decode bP_term 193 = .ok (.iload_n 2, 1) := by decide +kernel
theorem dP_term_194 : decode bP_term 194 = .ok (.aload_n 0, 1) := by decide +kernel
theorem dP_term_195 : decode bP_term 195 = .ok (.getfield 12, 3) := by decide +kernel
theorem dP_term_198 : decode bP_term 198 = .ok (.aload_n 0, 1) := by decide +kernel
theorem dP_term_199 : decode bP_term 199 = .ok (.getfield 25, 3) := by decide +kernel
theorem dP_term_202 : decode bP_term 202 = .ok (.invokevirtual 62, 3) := by decide +kernel
theorem dP_term_205 : decode bP_term 205 = .ok (.invokevirtual 58, 3) := by decide +kernel
theorem dP_term_208 : decode bP_term 208 = .ok (.aload_n 0, 1) := by decide +kernel
theorem dP_term_209 : decode bP_term 209 = .ok (.dup, 1) := by decide +kernel
theorem dP_term_210 : decode bP_term 210 = .ok (.getfield 25, 3) := by decide +kernel
theorem dP_term_213 : decode bP_term 213 = .ok (.iconst 1, 1) := by decide +kernel
theorem dP_term_214 : decode bP_term 214 = .ok (.iadd, 1) := by decide +kernel
theorem dP_term_215 : decode bP_term 215 = .ok (.putfield 25, 3) := by decide +kernel
theorem dP_term_218 : decode bP_term 218 = .ok (.iconst 1, 1) := by decide +kernel
theorem dP_term_219 : decode bP_term 219 = .ok (.ireturn, 1) := by decide +kernel
theorem dP_term_220 : decode bP_term 220 = .ok (.aload_n 0, 1) := by decide +kernel
theorem dP_term_221 : decode bP_term 221 = .ok (.invokevirtual 65, 3) := by decide +kernel
theorem dP_term_224 : decode bP_term 224 = .ok (.ireturn, 1) := by decide +kernel
theorem dP_term_225 : decode bP_term 225 = .ok (.aload_n 0, 1) := by decide +kernel
theorem dP_term_226 : decode bP_term 226 = .ok (.dup, 1) := by decide +kernel
theorem dP_term_227 : decode bP_term 227 = .ok (.getfield 25, 3) := by decide +kernel
theorem dP_term_230 : decode bP_term 230 = .ok (.iconst 1, 1) := by decide +kernel
theorem dP_term_231 : decode bP_term 231 = .ok (.iadd, 1) := by decide +kernel
theorem dP_term_232 : decode bP_term 232 = .ok (.putfield 25, 3) := by decide +kernel
theorem dP_term_235 : decode bP_term 235 = .ok (.aload_n 0, 1) := by decide +kernel
theorem dP_term_236 : decode bP_term 236 = .ok (.iload_n 1, 1) := by decide +kernel
theorem dP_term_237 : decode bP_term 237 = .ok (.iconst 1, 1) := by decide +kernel
theorem dP_term_238 : decode bP_term 238 = .ok (.iadd, 1) := by decide +kernel
theorem dP_term_239 : decode bP_term 239 = .ok (.invokevirtual 41, 3) := by decide +kernel
theorem dP_term_242 : decode bP_term 242 = .ok (.ifCond .eq 16, 3) := by decide +kernel
theorem dP_term_245 : decode bP_term 245 = .ok (.aload_n 0, 1) := by decide +kernel
theorem dP_term_246 : decode bP_term 246 = .ok (.bipush 41, 2) := by decide +kernel
theorem dP_term_248 : decode bP_term 248 = .ok (.invokevirtual 69, 3) := by decide +kernel
theorem dP_term_251 : decode bP_term 251 = .ok (.ifCond .eq 7, 3) := by decide +kernel
theorem dP_term_254 : decode bP_term 254 = .ok (.iconst 1, 1) := by decide +kernel
theorem dP_term_255 : decode bP_term 255 = .ok (.goto 4, 3) := by decide +kernel
theorem dP_term_258 : decode bP_term 258 = .ok (.iconst 0, 1) := by decide +kernel
theorem dP_term_259 : decode bP_term 259 = .ok (.ireturn, 1) := by decide +kernel
theorem dP_term_260 : decode bP_term 260 = .ok (.aload_n 0, 1) := by decide +kernel
theorem dP_term_261 : decode bP_term 261 = .ok (.iload_n 2, 1) := by decide +kernel
theorem dP_term_262 : decode bP_term 262 = .ok (.iload_n 1, 1) := by decide +kernel
theorem dP_term_263 : decode bP_term 263 = .ok (.iconst 1, 1) := by decide +kernel
theorem dP_term_264 : decode bP_term 264 = .ok (.iadd, 1) := by decide +kernel
theorem dP_term_265 : decode bP_term 265 = .ok (.invokevirtual 72, 3) := by decide +kernel
theorem dP_term_268 : decode bP_term 268 = .ok (.ireturn, 1) := by decide +kernel
theorem dP_term_269 : decode bP_term 269 = .ok (.aload_n 0, 1) := by decide +kernel
theorem dP_term_270 : decode bP_term 270 = .ok (.iload_n 2, 1) := by decide +kernel
theorem dP_term_271 : decode bP_term 271 = .ok (.iload_n 1, 1) := by decide +kernel
theorem dP_term_272 : decode bP_term 272 = .ok (.iconst 1, 1) := by decide +kernel
theorem dP_term_273 : decode bP_term 273 = .ok (.iadd, 1) := by decide +kernel
theorem dP_term_274 : decode bP_term 274 = .ok (.invokevirtual 76, 3) := by decide +kernel
theorem dP_term_277 : decode bP_term 277 = .ok (.ireturn, 1) := by decide +kernel
theorem dP_term_278 : decode bP_term 278 = .ok (.aload_n 0, 1) := by decide +kernel
theorem dP_term_279 : decode bP_term 279 = .ok (.iload_n 1, 1) := by decide +kernel
theorem dP_term_280 : decode bP_term 280 = .ok (.iconst 1, 1) := by decide +kernel
theorem dP_term_281 : decode bP_term 281 = .ok (.iadd, 1) := by decide +kernel
theorem dP_term_282 : decode bP_term 282 = .ok (.invokevirtual 79, 3) := by decide +kernel
theorem dP_term_285 : decode bP_term 285 = .ok (.ireturn, 1) := by decide +kernel
theorem dP_term_286 : decode bP_term 286 = .ok (.aload_n 0, 1) := by decide +kernel
theorem dP_term_287 : decode bP_term 287 = .ok (.iload_n 1, 1) := by decide +kernel
theorem dP_term_288 : decode bP_term 288 = .ok (.iconst 1, 1) := by decide +kernel
theorem dP_term_289 : decode bP_term 289 = .ok (.iadd, 1) := by decide +kernel
theorem dP_term_290 : decode bP_term 290 = .ok (.invokevirtual 82, 3) := by decide +kernel
theorem dP_term_293 : decode bP_term 293 = .ok (.ireturn, 1) := by decide +kernel
theorem dP_term_294 : decode bP_term 294 = .ok (.aload_n 0, 1) := by decide +kernel
theorem dP_term_295 : decode bP_term 295 = .ok (.iload_n 1, 1) := by decide +kernel
theorem dP_term_296 : decode bP_term 296 = .ok (.iconst 1, 1) := by decide +kernel
theorem dP_term_297 : decode bP_term 297 = .ok (.iadd, 1) := by decide +kernel
theorem dP_term_298 : decode bP_term 298 = .ok (.invokevirtual 85, 3) := by decide +kernel
theorem dP_term_301 : decode bP_term 301 = .ok (.ireturn, 1) := by decide +kernel
theorem dP_term_302 : decode bP_term 302 = .ok (.iconst 0, 1) := by decide +kernel
theorem dP_term_303 : decode bP_term 303 = .ok (.ireturn, 1) := by decide +kernel
theorem dP_letterTerm_0 : decode bP_letterTerm 0 = .ok (.aload_n 0, 1) := by decide +kernel
theorem dP_letterTerm_1 : decode bP_letterTerm 1 = .ok (.aload_n 0, 1) := by decide +kernel
theorem dP_letterTerm_2 : decode bP_letterTerm 2 = .ok (.getfield 12, 3) := by decide +kernel
theorem dP_letterTerm_5 : decode bP_letterTerm 5 = .ok (.aload_n 0, 1) := by decide +kernel
theorem dP_letterTerm_6 : decode bP_letterTerm 6 = .ok (.getfield 25, 3) := by decide +kernel
theorem dP_letterTerm_9 : decode bP_letterTerm 9 = .ok (.invokevirtual 62, 3) := by decide +kernel
theorem dP_letterTerm_12 : decode bP_letterTerm 12 = .ok (.invokevirtual 88, 3) := by decide +kernel
theorem dP_letterTerm_15 : decode bP_letterTerm 15 = .ok (.istore_n 1, 1) := by decide +kernel
theorem dP_letterTerm_16 : decode bP_letterTerm 16 = .ok (.iload_n 1, 1) := by decide +kernel
theorem dP_letterTerm_17 : decode bP_letterTerm 17 = .ok (.iconst (-1), 1) := by decide +kernel
theorem dP_letterTerm_18 : decode bP_letterTerm 18 = .ok (.if_icmp .ne 5, 3) := by decide +kernel
theorem dP_letterTerm_21 : decode bP_letterTerm 21 = .ok (.iconst 0, 1) := by decide +kernel
theorem dP_letterTerm_22 : decode bP_letterTerm 22 = .ok (.ireturn, 1) := by decide +kernel
theorem dP_letterTerm_23 : decode bP_letterTerm 23 = .ok (.aload_n 0, 1) := by decide +kernel
theorem dP_letterTerm_24 : decode bP_letterTerm 24 = .ok (.iconst 3, 1) := by decide +kernel
theorem dP_letterTerm_25 : decode bP_letterTerm 25 = .ok (.iload_n 1, 1) := by decide +kernel
theorem dP_letterTerm_26 : decode bP_letterTerm 26 = .ok (.invokevirtual 58, 3) := by decide +kernel
theorem dP_letterTerm_29 : decode bP_letterTerm 29 = .ok (.aload_n 0, 1) := by decide +kernel
theorem dP_letterTerm_30 : decode bP_letterTerm 30 = .ok (.dup, 1) := by decide +kernel
theorem dP_letterTerm_31 : decode bP_letterTerm 31 = .ok (.getfield 25, 3) := by decide +kernel
theorem dP_letterTerm_34 : decode bP_letterTerm 34 = .ok (.iconst 1, 1) := by decide +kernel
theorem dP_letterTerm_35 : decode bP_letterTerm 35 = .ok (.iadd, 1) := by decide +kernel
theorem dP_letterTerm_36 : decode bP_letterTerm 36 = .ok (.putfield 25, 3) := by decide +kernel
theorem dP_letterTerm_39 : decode bP_letterTerm 39 = .ok (.iconst 1, 1) := by decide +kernel
theorem dP_letterTerm_40 : decode bP_letterTerm 40 = .ok (.ireturn, 1) := by decide +kernel
theorem dP_roundsTerm_0 : decode bP_roundsTerm 0 = .ok (.aload_n 0, 1) := by decide +kernel
theorem dP_roundsTerm_1 : decode bP_roundsTerm 1 = .ok (.dup, 1) := by decide +kernel
theorem dP_roundsTerm_2 : decode bP_roundsTerm 2 = .ok (.getfield 25, 3) := by decide +kernel
theorem dP_roundsTerm_5 : decode bP_roundsTerm 5 = .ok (.iconst 1, 1) := by decide +kernel
theorem dP_roundsTerm_6 : decode bP_roundsTerm 6 = .ok (.iadd, 1) := by decide +kernel
theorem dP_roundsTerm_7 : decode bP_roundsTerm 7 = .ok (.putfield 25, 3) := by decide +kernel
theorem dP_roundsTerm_10 : decode bP_roundsTerm 10 = .ok (.aload_n 0, 1) := by decide +kernel
theorem dP_roundsTerm_11 : decode bP_roundsTerm 11 = .ok (.bipush 40, 2) := by decide +kernel
theorem dP_roundsTerm_13 : decode bP_roundsTerm 13 = .ok (.invokevirtual 69, 3) := by decide +kernel
theorem dP_roundsTerm_16 : decode bP_roundsTerm 16 = .ok (.ifCond .eq 11, 3) := by decide +kernel
theorem dP_roundsTerm_19 : decode bP_roundsTerm 19 = .ok (.aload_n 0, 1) := by decide +kernel
theorem dP_roundsTerm_20 : decode bP_roundsTerm 20 = .ok (.iload_n 2, 1) := by decide +kernel
theorem dP_roundsTerm_21 : decode bP_roundsTerm 21 = .ok (.invokevirtual 41, 3) := by decide +kernel
theorem dP_roundsTerm_24 : decode bP_roundsTerm 24 = .ok (.ifCond .ne 5, 3) := by decide +kernel
theorem dP_roundsTerm_27 : decode bP_roundsTerm 27 = .ok (.iconst 0, 1) := by decide +kernel
theorem dP_roundsTerm_28 : decode bP_roundsTerm 28 = .ok (.ireturn, 1) := by decide +kernel
theorem dP_roundsTerm_29 : decode bP_roundsTerm 29 = .ok (.bipush 30, 2) := by decide +kernel
theorem dP_roundsTerm_31 : decode bP_roundsTerm 31 = .ok (.istore_n 3, 1) := by decide +kernel
theorem dP_roundsTerm_32 : decode bP_roundsTerm 32 = .ok (.aload_n 0, 1) := by decide +kernel
theorem dP_roundsTerm_33 : decode bP_roundsTerm 33 = .ok (.bipush 44, 2) := by decide +kernel
theorem dP_roundsTerm_35 : decode bP_roundsTerm 35 = .ok (.invokevirtual 69, 3) := by decide +kernel
theorem dP_roundsTerm_38 : decode bP_roundsTerm 38 = .ok (.ifCond .eq 25, 3) := by decide +kernel
theorem dP_roundsTerm_41 : decode bP_roundsTerm 41 = .ok (.aload_n 0, 1) := by decide +kernel
theorem dP_roundsTerm_42 : decode bP_roundsTerm 42 = .ok (.getfield 12, 3) := by decide +kernel
theorem dP_roundsTerm_45 : decode bP_roundsTerm 45 = .ok (.aload_n 0, 1) := by decide +kernel
theorem dP_roundsTerm_46 : decode bP_roundsTerm 46 = .ok (.getfield 25, 3) := by decide +kernel
theorem dP_roundsTerm_49 : decode bP_roundsTerm 49 = .ok (.invokevirtual 62, 3) := by decide +kernel
theorem dP_roundsTerm_52 : decode bP_roundsTerm 52 = .ok (.istore_n 3, 1) := by decide +kernel
theorem dP_roundsTerm_53 : decode bP_roundsTerm 53 = .ok (.aload_n 0, 1) := by decide +kernel
theorem dP_roundsTerm_54 : decode bP_roundsTerm 54 = .ok (.iconst 4, 1) := by decide +kernel
theorem dP_roundsTerm_55 : decode bP_roundsTerm 55 = .ok (.invokevirtual 69, 3) := by decide +kernel
theorem dP_roundsTerm_58 : decode bP_roundsTerm 58 = .ok (.ifCond .ne 5, 3) := by decide +kernel
theorem dP_roundsTerm_61 : decode bP_roundsTerm 61 = .ok (.iconst 0, 1) := by decide +kernel
theorem dP_roundsTerm_62 : decode bP_roundsTerm 62 = .ok (.ireturn, 1) := by decide +kernel
theorem dP_roundsTerm_63 : decode bP_roundsTerm 63 = .ok (.aload_n 0, 1) := by decide +kernel
theorem dP_roundsTerm_64 : decode bP_roundsTerm 64 = .ok (.iload_n 1, 1) := by decide +kernel
theorem dP_roundsTerm_65 : decode bP_roundsTerm 65 = .ok (.iload_n 3, 1) := by decide +kernel
theorem dP_roundsTerm_66 : decode bP_roundsTerm 66 = .ok (.invokevirtual 58, 3) := by decide +kernel
theorem dP_roundsTerm_69 : decode bP_roundsTerm 69 = .ok (.aload_n 0, 1) := by decide +kernel
theorem dP_roundsTerm_70 : decode bP_roundsTerm 70 = .ok (.bipush 41, 2) := by decide +kernel
theorem dP_roundsTerm_72 : decode bP_roundsTerm 72 = .ok (.invokevirtual 69, 3) := by decide +kernel
theorem dP_roundsTerm_75 : decode bP_roundsTerm 75 = .ok (.ireturn, 1) := by decide +kernel
theorem dP_plainTerm_0 : decode bP_plainTerm 0 = .ok (.aload_n 0, 1) := by decide +kernel
theorem dP_plainTerm_1 : decode bP_plainTerm 1 = .ok (.dup, 1) := by decide +kernel
theorem dP_plainTerm_2 : decode bP_plainTerm 2 = .ok (.getfield 25, 3) := by decide +kernel
theorem dP_plainTerm_5 : decode bP_plainTerm 5 = .ok (.iconst 1, 1) := by decide +kernel
theorem dP_plainTerm_6 : decode bP_plainTerm 6 = .ok (.iadd, 1) := by decide +kernel
theorem dP_plainTerm_7 : decode bP_plainTerm 7 = .ok (.putfield 25, 3) := by decide +kernel
theorem dP_plainTerm_10 : decode bP_plainTerm 10 = .ok (.aload_n 0, 1) := by decide +kernel
theorem dP_plainTerm_11 : decode bP_plainTerm 11 = .ok (.bipush 40, 2) := by decide +kernel
theorem dP_plainTerm_13 : decode bP_plainTerm 13 = .ok (.invokevirtual 69, 3) := by decide +kernel
theorem dP_plainTerm_16 : decode bP_plainTerm 16 = .ok (.ifCond .eq 11, 3) := by decide +kernel
theorem dP_plainTerm_19 : decode bP_plainTerm 19 = .ok (.aload_n 0, 1) := by decide +kernel
theorem dP_plainTerm_20 : decode bP_plainTerm 20 = .ok (.iload_n 2, 1) := by decide +kernel
theorem dP_plainTerm_21 : decode bP_plainTerm 21 = .ok (.invokevirtual 41, 3) := by decide +kernel
theorem dP_plainTerm_24 : decode bP_plainTerm 24 = .ok (.ifCond .ne 5, 3) := by decide +kernel
theorem dP_plainTerm_27 : decode bP_plainTerm 27 = .ok (.iconst 0, 1) := by decide +kernel
theorem dP_plainTerm_28 : decode bP_plainTerm 28 = .ok (.ireturn, 1) := by decide +kernel
theorem dP_plainTerm_29 : decode bP_plainTerm 29 = .ok (.aload_n 0, 1) := by decide +kernel
theorem dP_plainTerm_30 : decode bP_plainTerm 30 = .ok (.iload_n 1, 1) := by decide +kernel
theorem dP_plainTerm_31 : decode bP_plainTerm 31 = .ok (.iconst 0, 1) := by decide +kernel
theorem dP_plainTerm_32 : decode bP_plainTerm 32 = .ok (.invokevirtual 58, 3) := by decide +kernel
theorem dP_plainTerm_35 : decode bP_plainTerm 35 = .ok (.aload_n 0, 1) := by decide +kernel
theorem dP_plainTerm_36 : decode bP_plainTerm 36 = .ok (.bipush 41, 2) := by decide +kernel
theorem dP_plainTerm_38 : decode bP_plainTerm 38 = .ok (.invokevirtual 69, 3) := by decide +kernel
theorem dP_plainTerm_41 : decode bP_plainTerm 41 = .ok (.ireturn, 1) := by decide +kernel
theorem dP_wayTerm_0 : decode bP_wayTerm 0 = .ok (.aload_n 0, 1) := by decide +kernel
theorem dP_wayTerm_1 : decode bP_wayTerm 1 = .ok (.dup, 1) := by decide +kernel
theorem dP_wayTerm_2 : decode bP_wayTerm 2 = .ok (.getfield 25, 3) := by decide +kernel
theorem dP_wayTerm_5 : decode bP_wayTerm 5 = .ok (.iconst 1, 1) := by decide +kernel
theorem dP_wayTerm_6 : decode bP_wayTerm 6 = .ok (.iadd, 1) := by decide +kernel
theorem dP_wayTerm_7 : decode bP_wayTerm 7 = .ok (.putfield 25, 3) := by decide +kernel
theorem dP_wayTerm_10 : decode bP_wayTerm 10 = .ok (.aload_n 0, 1) := by decide +kernel
theorem dP_wayTerm_11 : decode bP_wayTerm 11 = .ok (.bipush 40, 2) := by decide +kernel
theorem dP_wayTerm_13 : decode bP_wayTerm 13 = .ok (.invokevirtual 69, 3) := by decide +kernel
theorem dP_wayTerm_16 : decode bP_wayTerm 16 = .ok (.ifCond .eq 28, 3) := by decide +kernel
theorem dP_wayTerm_19 : decode bP_wayTerm 19 = .ok (.aload_n 0, 1) := by decide +kernel
theorem dP_wayTerm_20 : decode bP_wayTerm 20 = .ok (.iload_n 1, 1) := by decide +kernel
theorem dP_wayTerm_21 : decode bP_wayTerm 21 = .ok (.invokevirtual 41, 3) := by decide +kernel
theorem dP_wayTerm_24 : decode bP_wayTerm 24 = .ok (.ifCond .eq 20, 3) := by decide +kernel
theorem dP_wayTerm_27 : decode bP_wayTerm 27 = .ok (.aload_n 0, 1) := by decide +kernel
theorem dP_wayTerm_28 : decode bP_wayTerm 28 = .ok (.bipush 44, 2) := by decide +kernel
theorem dP_wayTerm_30 : decode bP_wayTerm 30 = .ok (.invokevirtual 69, 3) := by decide +kernel
theorem dP_wayTerm_33 : decode bP_wayTerm 33 = .ok (.ifCond .eq 11, 3) := by decide +kernel
theorem dP_wayTerm_36 : decode bP_wayTerm 36 = .ok (.aload_n 0, 1) := by decide +kernel
theorem dP_wayTerm_37 : decode bP_wayTerm 37 = .ok (.iload_n 1, 1) := by decide +kernel
theorem dP_wayTerm_38 : decode bP_wayTerm 38 = .ok (.invokevirtual 41, 3) := by decide +kernel
theorem dP_wayTerm_41 : decode bP_wayTerm 41 = .ok (.ifCond .ne 5, 3) := by decide +kernel
theorem dP_wayTerm_44 : decode bP_wayTerm 44 = .ok (.iconst 0, 1) := by decide +kernel
theorem dP_wayTerm_45 : decode bP_wayTerm 45 = .ok (.ireturn, 1) := by decide +kernel
theorem dP_wayTerm_46 : decode bP_wayTerm 46 = .ok (.aload_n 0, 1) := by decide +kernel
theorem dP_wayTerm_47 : decode bP_wayTerm 47 = .ok (.bipush 8, 2) := by decide +kernel
theorem dP_wayTerm_49 : decode bP_wayTerm 49 = .ok (.iconst 0, 1) := by decide +kernel
theorem dP_wayTerm_50 : decode bP_wayTerm 50 = .ok (.invokevirtual 58, 3) := by decide +kernel
theorem dP_wayTerm_53 : decode bP_wayTerm 53 = .ok (.aload_n 0, 1) := by decide +kernel
theorem dP_wayTerm_54 : decode bP_wayTerm 54 = .ok (.bipush 41, 2) := by decide +kernel
theorem dP_wayTerm_56 : decode bP_wayTerm 56 = .ok (.invokevirtual 69, 3) := by decide +kernel
theorem dP_wayTerm_59 : decode bP_wayTerm 59 = .ok (.ireturn, 1) := by decide +kernel
theorem dP_kindTerm_0 : decode bP_kindTerm 0 = .ok (.aload_n 0, 1) := by decide +kernel
theorem dP_kindTerm_1 : decode bP_kindTerm 1 = .ok (.dup, 1) := by decide +kernel
theorem dP_kindTerm_2 : decode bP_kindTerm 2 = .ok (.getfield 25, 3) := by decide +kernel
theorem dP_kindTerm_5 : decode bP_kindTerm 5 = .ok (.iconst 1, 1) := by decide +kernel
theorem dP_kindTerm_6 : decode bP_kindTerm 6 = .ok (.iadd, 1) := by decide +kernel
theorem dP_kindTerm_7 : decode bP_kindTerm 7 = .ok (.putfield 25, 3) := by decide +kernel
theorem dP_kindTerm_10 : decode bP_kindTerm 10 = .ok (.aload_n 0, 1) := by decide +kernel
theorem dP_kindTerm_11 : decode bP_kindTerm 11 = .ok (.bipush 40, 2) := by decide +kernel
theorem dP_kindTerm_13 : decode bP_kindTerm 13 = .ok (.invokevirtual 69, 3) := by decide +kernel
theorem dP_kindTerm_16 : decode bP_kindTerm 16 = .ok (.ifCond .ne 5, 3) := by decide +kernel
theorem dP_kindTerm_19 : decode bP_kindTerm 19 = .ok (.iconst 0, 1) := by decide +kernel
theorem dP_kindTerm_20 : decode bP_kindTerm 20 = .ok (.ireturn, 1) := by decide +kernel
theorem dP_kindTerm_21 : decode bP_kindTerm 21 = .ok (.aload_n 0, 1) := by decide +kernel
theorem dP_kindTerm_22 : decode bP_kindTerm 22 = .ok (.getfield 12, 3) := by decide +kernel
theorem dP_kindTerm_25 : decode bP_kindTerm 25 = .ok (.aload_n 0, 1) := by decide +kernel
theorem dP_kindTerm_26 : decode bP_kindTerm 26 = .ok (.getfield 25, 3) := by decide +kernel
theorem dP_kindTerm_29 : decode bP_kindTerm 29 = .ok (.invokevirtual 62, 3) := by decide +kernel
theorem dP_kindTerm_32 : decode bP_kindTerm 32 = .ok (.istore_n 2, 1) := by decide +kernel
theorem dP_kindTerm_33 : decode bP_kindTerm 33 = .ok (.aload_n 0, 1) := by decide +kernel
theorem dP_kindTerm_34 : decode bP_kindTerm 34 = .ok (.iconst 4, 1) := by decide +kernel
theorem dP_kindTerm_35 : decode bP_kindTerm 35 = .ok (.invokevirtual 69, 3) := by decide +kernel
theorem dP_kindTerm_38 : decode bP_kindTerm 38 = .ok (.ifCond .eq 20, 3) := by decide +kernel
theorem dP_kindTerm_41 : decode bP_kindTerm 41 = .ok (.aload_n 0, 1) := by decide +kernel
theorem dP_kindTerm_42 : decode bP_kindTerm 42 = .ok (.bipush 44, 2) := by decide +kernel
theorem dP_kindTerm_44 : decode bP_kindTerm 44 = .ok (.invokevirtual 69, 3) := by decide +kernel
theorem dP_kindTerm_47 : decode bP_kindTerm 47 = .ok (.ifCond .eq 11, 3) := by decide +kernel
theorem dP_kindTerm_50 : decode bP_kindTerm 50 = .ok (.aload_n 0, 1) := by decide +kernel
theorem dP_kindTerm_51 : decode bP_kindTerm 51 = .ok (.iload_n 1, 1) := by decide +kernel
theorem dP_kindTerm_52 : decode bP_kindTerm 52 = .ok (.invokevirtual 41, 3) := by decide +kernel
theorem dP_kindTerm_55 : decode bP_kindTerm 55 = .ok (.ifCond .ne 5, 3) := by decide +kernel
theorem dP_kindTerm_58 : decode bP_kindTerm 58 = .ok (.iconst 0, 1) := by decide +kernel
theorem dP_kindTerm_59 : decode bP_kindTerm 59 = .ok (.ireturn, 1) := by decide +kernel
theorem dP_kindTerm_60 : decode bP_kindTerm 60 = .ok (.aload_n 0, 1) := by decide +kernel
theorem dP_kindTerm_61 : decode bP_kindTerm 61 = .ok (.bipush 9, 2) := by decide +kernel
theorem dP_kindTerm_63 : decode bP_kindTerm 63 = .ok (.iload_n 2, 1) := by decide +kernel
theorem dP_kindTerm_64 : decode bP_kindTerm 64 = .ok (.invokevirtual 58, 3) := by decide +kernel
theorem dP_kindTerm_67 : decode bP_kindTerm 67 = .ok (.aload_n 0, 1) := by decide +kernel
theorem dP_kindTerm_68 : decode bP_kindTerm 68 = .ok (.bipush 41, 2) := by decide +kernel
theorem dP_kindTerm_70 : decode bP_kindTerm 70 = .ok (.invokevirtual 69, 3) := by decide +kernel
theorem dP_kindTerm_73 : decode bP_kindTerm 73 = .ok (.ireturn, 1) := by decide +kernel
theorem dP_letTerm_0 : decode bP_letTerm 0 = .ok (.aload_n 0, 1) := by decide +kernel
theorem dP_letTerm_1 : decode bP_letTerm 1 = .ok (.dup, 1) := by decide +kernel
theorem dP_letTerm_2 : decode bP_letTerm 2 = .ok (.getfield 25, 3) := by decide +kernel
theorem dP_letTerm_5 : decode bP_letTerm 5 = .ok (.iconst 1, 1) := by decide +kernel
theorem dP_letTerm_6 : decode bP_letTerm 6 = .ok (.iadd, 1) := by decide +kernel
theorem dP_letTerm_7 : decode bP_letTerm 7 = .ok (.putfield 25, 3) := by decide +kernel
theorem dP_letTerm_10 : decode bP_letTerm 10 = .ok (.aload_n 0, 1) := by decide +kernel
theorem dP_letTerm_11 : decode bP_letTerm 11 = .ok (.getfield 12, 3) := by decide +kernel
theorem dP_letTerm_14 : decode bP_letTerm 14 = .ok (.aload_n 0, 1) := by decide +kernel
theorem dP_letTerm_15 : decode bP_letTerm 15 = .ok (.getfield 25, 3) := by decide +kernel
theorem dP_letTerm_18 : decode bP_letTerm 18 = .ok (.invokevirtual 62, 3) := by decide +kernel
theorem dP_letTerm_21 : decode bP_letTerm 21 = .ok (.istore_n 2, 1) := by decide +kernel
theorem dP_letTerm_22 : decode bP_letTerm 22 = .ok (.aload_n 0, 1) := by decide +kernel
theorem dP_letTerm_23 : decode bP_letTerm 23 = .ok (.iconst 3, 1) := by decide +kernel
theorem dP_letTerm_24 : decode bP_letTerm 24 = .ok (.invokevirtual 69, 3) := by decide +kernel
theorem dP_letTerm_27 : decode bP_letTerm 27 = .ok (.ifCond .eq 29, 3) := by decide +kernel
theorem dP_letTerm_30 : decode bP_letTerm 30 = .ok (.aload_n 0, 1) := by decide +kernel
theorem dP_letTerm_31 : decode bP_letTerm 31 = .ok (.bipush 61, 2) := by decide +kernel
theorem dP_letTerm_33 : decode bP_letTerm 33 = .ok (.invokevirtual 69, 3) := by decide +kernel
theorem dP_letTerm_36 : decode bP_letTerm 36 = .ok (.ifCond .eq 20, 3) := by decide +kernel
theorem dP_letTerm_39 : decode bP_letTerm 39 = .ok (.aload_n 0, 1) := by decide +kernel
theorem dP_letTerm_40 : decode bP_letTerm 40 = .ok (.iload_n 1, 1) := by decide +kernel
theorem dP_letTerm_41 : decode bP_letTerm 41 = .ok (.invokevirtual 41, 3) := by decide +kernel
theorem dP_letTerm_44 : decode bP_letTerm 44 = .ok (.ifCond .eq 12, 3) := by decide +kernel
theorem dP_letTerm_47 : decode bP_letTerm 47 = .ok (.aload_n 0, 1) := by decide +kernel
theorem dP_letTerm_48 : decode bP_letTerm 48 = .ok (.bipush 13, 2) := by decide +kernel
theorem dP_letTerm_50 : decode bP_letTerm 50 = .ok (.invokevirtual 69, 3) := by decide +kernel
theorem dP_letTerm_53 : decode bP_letTerm 53 = .ok (.ifCond .ne 5, 3) := by decide +kernel
theorem dP_letTerm_56 : decode bP_letTerm 56 = .ok (.iconst 0, 1) := by decide +kernel
theorem dP_letTerm_57 : decode bP_letTerm 57 = .ok (.ireturn, 1) := by decide +kernel
theorem dP_letTerm_58 : decode bP_letTerm 58 = .ok (.aload_n 0, 1) := by decide +kernel
theorem dP_letTerm_59 : decode bP_letTerm 59 = .ok (.iload_n 2, 1) := by decide +kernel
theorem dP_letTerm_60 : decode bP_letTerm 60 = .ok (.invokevirtual 88, 3) := by decide +kernel
theorem dP_letTerm_63 : decode bP_letTerm 63 = .ok (.istore_n 3, 1) := by decide +kernel
theorem dP_letTerm_64 : decode bP_letTerm 64 = .ok (.aload_n 0, 1) := by decide +kernel
theorem dP_letTerm_65 : decode bP_letTerm 65 = .ok (.bipush 12, 2) := by decide +kernel
theorem dP_letTerm_67 : decode bP_letTerm 67 = .ok (.aload_n 0, 1) := by decide +kernel
theorem dP_letTerm_68 : decode bP_letTerm 68 = .ok (.getfield 29, 3) := by decide +kernel
theorem dP_letTerm_71 : decode bP_letTerm 71 = .ok (.invokevirtual 58, 3) := by decide +kernel
theorem dP_letTerm_74 : decode bP_letTerm 74 = .ok (.aload_n 0, 1) := by decide +kernel
theorem dP_letTerm_75 : decode bP_letTerm 75 = .ok (.iload_n 2, 1) := by decide +kernel
theorem dP_letTerm_76 : decode bP_letTerm 76 = .ok (.aload_n 0, 1) := by decide +kernel
theorem dP_letTerm_77 : decode bP_letTerm 77 = .ok (.getfield 29, 3) := by decide +kernel
theorem dP_letTerm_80 : decode bP_letTerm 80 = .ok (.invokevirtual 91, 3) := by decide +kernel
theorem dP_letTerm_83 : decode bP_letTerm 83 = .ok (.aload_n 0, 1) := by decide +kernel
theorem dP_letTerm_84 : decode bP_letTerm 84 = .ok (.dup, 1) := by decide +kernel
theorem dP_letTerm_85 : decode bP_letTerm 85 = .ok (.getfield 29, 3) := by decide +kernel
theorem dP_letTerm_88 : decode bP_letTerm 88 = .ok (.iconst 1, 1) := by decide +kernel
theorem dP_letTerm_89 : decode bP_letTerm 89 = .ok (.iadd, 1) := by decide +kernel
theorem dP_letTerm_90 : decode bP_letTerm 90 = .ok (.putfield 29, 3) := by decide +kernel
theorem dP_letTerm_93 : decode bP_letTerm 93 = .ok (.aload_n 0, 1) := by decide +kernel
theorem dP_letTerm_94 : decode bP_letTerm 94 = .ok (.iload_n 1, 1) := by decide +kernel
theorem dP_letTerm_95 : decode bP_letTerm 95 = .ok (.invokevirtual 41, 3) := by decide +kernel
theorem dP_letTerm_98 : decode bP_letTerm 98 = .ok (.istore 4, 2) := by decide +kernel
theorem dP_letTerm_100 : decode bP_letTerm 100 = .ok (.aload_n 0, 1) := by decide +kernel
theorem dP_letTerm_101 : decode bP_letTerm 101 = .ok (.dup, 1) := by decide +kernel
theorem dP_letTerm_102 : decode bP_letTerm 102 = .ok (.getfield 29, 3) := by decide +kernel
theorem dP_letTerm_105 : decode bP_letTerm 105 = .ok (.iconst 1, 1) := by decide +kernel
theorem dP_letTerm_106 : decode bP_letTerm 106 = .ok (.isub, 1) := by decide +kernel
theorem dP_letTerm_107 : decode bP_letTerm 107 = .ok (.putfield 29, 3) := by decide +kernel
theorem dP_letTerm_110 : decode bP_letTerm 110 = .ok (.aload_n 0, 1) := by decide +kernel
theorem dP_letTerm_111 : decode bP_letTerm 111 = .ok (.iload_n 2, 1) := by decide +kernel
theorem dP_letTerm_112 : decode bP_letTerm 112 = .ok (.iload_n 3, 1) := by decide +kernel
theorem dP_letTerm_113 : decode bP_letTerm 113 = .ok (.invokevirtual 91, 3) := by decide +kernel
theorem dP_letTerm_116 : decode bP_letTerm 116 = .ok (.iload 4, 2) := by decide +kernel
theorem dP_letTerm_118 : decode bP_letTerm 118 = .ok (.ireturn, 1) := by decide +kernel
theorem dP_slotOf_0 : decode bP_slotOf 0 = .ok (.iload_n 1, 1) := by decide +kernel
theorem dP_slotOf_1 : decode bP_slotOf 1 = .ok (.ifCond .lt 21, 3) := by decide +kernel
theorem dP_slotOf_4 : decode bP_slotOf 4 = .ok (.iload_n 1, 1) := by decide +kernel
theorem dP_slotOf_5 : decode bP_slotOf 5 = .ok (.aload_n 0, 1) := by decide +kernel
theorem dP_slotOf_6 : decode bP_slotOf 6 = .ok (.getfield 21, 3) := by decide +kernel
theorem dP_slotOf_9 : decode bP_slotOf 9 = .ok (.arraylength, 1) := by decide +kernel
theorem dP_slotOf_10 : decode bP_slotOf 10 = .ok (.if_icmp .ge 12, 3) := by decide +kernel
theorem dP_slotOf_13 : decode bP_slotOf 13 = .ok (.aload_n 0, 1) := by decide +kernel
theorem dP_slotOf_14 : decode bP_slotOf 14 = .ok (.getfield 21, 3) := by decide +kernel
theorem dP_slotOf_17 : decode bP_slotOf 17 = .ok (.iload_n 1, 1) := by decide +kernel
theorem dP_slotOf_18 : decode bP_slotOf 18 = .ok (.iaload, 1) := by decide +kernel
theorem dP_slotOf_19 : decode bP_slotOf 19 = .ok (.goto 4, 3) := by decide +kernel
theorem dP_slotOf_22 : decode bP_slotOf 22 = .ok (.iconst (-1), 1) := by decide +kernel
theorem dP_slotOf_23 : decode bP_slotOf 23 = .ok (.ireturn, 1) := by decide +kernel
theorem dP_setSlot_0 : decode bP_setSlot 0 = .ok (.iload_n 1, 1) := by decide +kernel
theorem dP_setSlot_1 : decode bP_setSlot 1 = .ok (.ifCond .lt 19, 3) := by decide +kernel
theorem dP_setSlot_4 : decode bP_setSlot 4 = .ok (.iload_n 1, 1) := by decide +kernel
theorem dP_setSlot_5 : decode bP_setSlot 5 = .ok (.aload_n 0, 1) := by decide +kernel
theorem dP_setSlot_6 : decode bP_setSlot 6 = .ok (.getfield 21, 3) := by decide +kernel
theorem dP_setSlot_9 : decode bP_setSlot 9 = .ok (.arraylength, 1) := by decide +kernel
theorem dP_setSlot_10 : decode bP_setSlot 10 = .ok (.if_icmp .ge 10, 3) := by decide +kernel
theorem dP_setSlot_13 : decode bP_setSlot 13 = .ok (.aload_n 0, 1) := by decide +kernel
theorem dP_setSlot_14 : decode bP_setSlot 14 = .ok (.getfield 21, 3) := by decide +kernel
theorem dP_setSlot_17 : decode bP_setSlot 17 = .ok (.iload_n 1, 1) := by decide +kernel
theorem dP_setSlot_18 : decode bP_setSlot 18 = .ok (.iload_n 2, 1) := by decide +kernel
theorem dP_setSlot_19 : decode bP_setSlot 19 = .ok (.iastore, 1) := by decide +kernel
theorem dP_setSlot_20 : decode bP_setSlot 20 = .ok (.return_, 1) := by decide +kernel
theorem dP_take_0 : decode bP_take 0 = .ok (.aload_n 0, 1) := by decide +kernel
theorem dP_take_1 : decode bP_take 1 = .ok (.getfield 12, 3) := by decide +kernel
theorem dP_take_4 : decode bP_take 4 = .ok (.aload_n 0, 1) := by decide +kernel
theorem dP_take_5 : decode bP_take 5 = .ok (.getfield 25, 3) := by decide +kernel
theorem dP_take_8 : decode bP_take 8 = .ok (.invokevirtual 45, 3) := by decide +kernel
theorem dP_take_11 : decode bP_take 11 = .ok (.iload_n 1, 1) := by decide +kernel
theorem dP_take_12 : decode bP_take 12 = .ok (.if_icmp .eq 5, 3) := by decide +kernel
theorem dP_take_15 : decode bP_take 15 = .ok (.iconst 0, 1) := by decide +kernel
theorem dP_take_16 : decode bP_take 16 = .ok (.ireturn, 1) := by decide +kernel
theorem dP_take_17 : decode bP_take 17 = .ok (.aload_n 0, 1) := by decide +kernel
theorem dP_take_18 : decode bP_take 18 = .ok (.dup, 1) := by decide +kernel
theorem dP_take_19 : decode bP_take 19 = .ok (.getfield 25, 3) := by decide +kernel
theorem dP_take_22 : decode bP_take 22 = .ok (.iconst 1, 1) := by decide +kernel
theorem dP_take_23 : decode bP_take 23 = .ok (.iadd, 1) := by decide +kernel
theorem dP_take_24 : decode bP_take 24 = .ok (.putfield 25, 3) := by decide +kernel
theorem dP_take_27 : decode bP_take 27 = .ok (.iconst 1, 1) := by decide +kernel
theorem dP_take_28 : decode bP_take 28 = .ok (.ireturn, 1) := by decide +kernel
theorem dP_emit_0 : decode bP_emit 0 = .ok (.aload_n 0, 1) := by decide +kernel
theorem dP_emit_1 : decode bP_emit 1 = .ok (.getfield 18, 3) := by decide +kernel
theorem dP_emit_4 : decode bP_emit 4 = .ok (.iload_n 1, 1) := by decide +kernel
theorem dP_emit_5 : decode bP_emit 5 = .ok (.iload_n 2, 1) := by decide +kernel
theorem dP_emit_6 : decode bP_emit 6 = .ok (.aload_n 0, 1) := by decide +kernel
theorem dP_emit_7 : decode bP_emit 7 = .ok (.getfield 12, 3) := by decide +kernel
theorem dP_emit_10 : decode bP_emit 10 = .ok (.aload_n 0, 1) := by decide +kernel
theorem dP_emit_11 : decode bP_emit 11 = .ok (.getfield 25, 3) := by decide +kernel
theorem dP_emit_14 : decode bP_emit 14 = .ok (.invokevirtual 49, 3) := by decide +kernel
theorem dP_emit_17 : decode bP_emit 17 = .ok (.invokevirtual 94, 3) := by decide +kernel
theorem dP_emit_20 : decode bP_emit 20 = .ok (.return_, 1) := by decide +kernel
end
section
-- ===== Parser: the pure picture =====
/-- at, program, slots, openLets -/
abbrev PSt : Type := Nat × List Tok × (Nat → Int32) × Nat
def tkAt (T : List Tok) (st : PSt) : Tok := T.getD st.1 (0, 0, 0)
def pAdv (st : PSt) : PSt := (st.1 + 1, st.2)
def pEmit (T : List Tok) (K v : Int32) (st : PSt) : PSt := (st.1, tpA st.2.1 (K, v, (tkAt T st).2.2), st.2.2)
def pTake (T : List Tok) (K : Int32) (st : PSt) : Bool × PSt := if (tkAt T st).1 = K then (true, pAdv st) else (false, st)
def slI (sl : Nat → Int32) (v : Int32) : Int32 := if 0 ≤ v.toInt ∧ v.toInt < 26 then sl v.toInt.toNat else -1
def slU (sl : Nat → Int32) (v x : Int32) : Nat → Int32 := if 0 ≤ v.toInt ∧ v.toInt < 26 then upd sl v.toInt.toNat x else sl
def pSet (v x : Int32) (st : PSt) : PSt := (st.1, st.2.1, slU st.2.2.1 v x, st.2.2.2)
def pOpen (n : Nat) (st : PSt) : PSt := (st.1, st.2.1, st.2.2.1, n)
def isJnI (K : Int32) : Bool := decide (K = 43 ∨ K = 45 ∨ K = 38)
def pLetter (T : List Tok) (st : PSt) : Bool × PSt := if slI st.2.2.1 (tkAt T st).2.1 = -1 then (false, st) else (true, pAdv (pEmit T 3 (slI st.2.2.1 (tkAt T st).2.1) st))
/-- the joins behind a SUM's first TERM -/
def pMore (T : List Tok) (t : PSt → Bool × PSt) : Nat → PSt → Bool × PSt
  | 0, st => (true, st)
  | n + 1, st => if isJnI (tkAt T st).1 = true then (if (t (pAdv st)).1 = true then pMore T t n (pEmit T (tkAt T st).1 0 (t (pAdv st)).2) else (false, (t (pAdv st)).2)) else (true, st)
def pSum (T : List Tok) (t : PSt → Bool × PSt) (st : PSt) : Bool × PSt := if (t st).1 = true then pMore T t 80 (t st).2 else (false, (t st).2)
def pEnd (T : List Tok) (K v : Int32) (st : PSt) : Bool × PSt := pTake T 41 (pEmit T K v st)
def pRounds (T : List Tok) (S : PSt → Bool × PSt) (K : Int32) (st : PSt) : Bool × PSt :=
  if (pTake T 40 (pAdv st)).1 = true then
    (if (S (pTake T 40 (pAdv st)).2).1 = true then
      (if (pTake T 44 (S (pTake T 40 (pAdv st)).2).2).1 = true then
        (if (pTake T 4 (pTake T 44 (S (pTake T 40 (pAdv st)).2).2).2).1 = true then pEnd T K (tkAt T (pTake T 44 (S (pTake T 40 (pAdv st)).2).2).2).2.1 (pTake T 4 (pTake T 44 (S (pTake T 40 (pAdv st)).2).2).2).2
        else (false, (pTake T 4 (pTake T 44 (S (pTake T 40 (pAdv st)).2).2).2).2))
      else pEnd T K 30 (pTake T 44 (S (pTake T 40 (pAdv st)).2).2).2)
    else (false, (S (pTake T 40 (pAdv st)).2).2))
  else (false, (pTake T 40 (pAdv st)).2)
def pPlain (T : List Tok) (S : PSt → Bool × PSt) (K : Int32) (st : PSt) : Bool × PSt :=
  if (pTake T 40 (pAdv st)).1 = true then
    (if (S (pTake T 40 (pAdv st)).2).1 = true then pEnd T K 0 (S (pTake T 40 (pAdv st)).2).2
    else (false, (S (pTake T 40 (pAdv st)).2).2))
  else (false, (pTake T 40 (pAdv st)).2)
def pWay (T : List Tok) (S : PSt → Bool × PSt) (st : PSt) : Bool × PSt :=
  if (pTake T 40 (pAdv st)).1 = true then
    (if (S (pTake T 40 (pAdv st)).2).1 = true then
      (if (pTake T 44 (S (pTake T 40 (pAdv st)).2).2).1 = true then
        (if (S (pTake T 44 (S (pTake T 40 (pAdv st)).2).2).2).1 = true then pEnd T 8 0 (S (pTake T 44 (S (pTake T 40 (pAdv st)).2).2).2).2
        else (false, (S (pTake T 44 (S (pTake T 40 (pAdv st)).2).2).2).2))
      else (false, (pTake T 44 (S (pTake T 40 (pAdv st)).2).2).2))
    else (false, (S (pTake T 40 (pAdv st)).2).2))
  else (false, (pTake T 40 (pAdv st)).2)
def pKind (T : List Tok) (S : PSt → Bool × PSt) (st : PSt) : Bool × PSt :=
  if (pTake T 40 (pAdv st)).1 = true then
    (if (pTake T 4 (pTake T 40 (pAdv st)).2).1 = true then
      (if (pTake T 44 (pTake T 4 (pTake T 40 (pAdv st)).2).2).1 = true then
        (if (S (pTake T 44 (pTake T 4 (pTake T 40 (pAdv st)).2).2).2).1 = true then pEnd T 9 (tkAt T (pTake T 40 (pAdv st)).2).2.1 (S (pTake T 44 (pTake T 4 (pTake T 40 (pAdv st)).2).2).2).2
        else (false, (S (pTake T 44 (pTake T 4 (pTake T 40 (pAdv st)).2).2).2).2))
      else (false, (pTake T 44 (pTake T 4 (pTake T 40 (pAdv st)).2).2).2))
    else (false, (pTake T 4 (pTake T 40 (pAdv st)).2).2))
  else (false, (pTake T 40 (pAdv st)).2)
/-- the SUM behind in, with the LETTER bound -/
def pBound (T : List Tok) (S : PSt → Bool × PSt) (v : Int32) (x : PSt) : Bool × PSt :=
  ((S (pOpen (x.2.2.2 + 1) (pSet v (nI x.2.2.2) (pEmit T 12 (nI x.2.2.2) x)))).1, pSet v (slI x.2.2.1 v) (pOpen ((S (pOpen (x.2.2.2 + 1) (pSet v (nI x.2.2.2) (pEmit T 12 (nI x.2.2.2) x)))).2.2.2.2 - 1) (S (pOpen (x.2.2.2 + 1) (pSet v (nI x.2.2.2) (pEmit T 12 (nI x.2.2.2) x)))).2))
def pLet (T : List Tok) (S : PSt → Bool × PSt) (st : PSt) : Bool × PSt :=
  if (pTake T 3 (pAdv st)).1 = true then
    (if (pTake T 61 (pTake T 3 (pAdv st)).2).1 = true then
      (if (S (pTake T 61 (pTake T 3 (pAdv st)).2).2).1 = true then
        (if (pTake T 13 (S (pTake T 61 (pTake T 3 (pAdv st)).2).2).2).1 = true then pBound T S (tkAt T (pAdv st)).2.1 (pTake T 13 (S (pTake T 61 (pTake T 3 (pAdv st)).2).2).2).2
        else (false, (pTake T 13 (S (pTake T 61 (pTake T 3 (pAdv st)).2).2).2).2))
      else (false, (S (pTake T 61 (pTake T 3 (pAdv st)).2).2).2))
    else (false, (pTake T 61 (pTake T 3 (pAdv st)).2).2))
  else (false, (pTake T 3 (pAdv st)).2)
def pParen (T : List Tok) (S : PSt → Bool × PSt) (st : PSt) : Bool × PSt := if (S (pAdv st)).1 = true then pTake T 41 (S (pAdv st)).2 else (false, (S (pAdv st)).2)
/-- a TERM with d levels left -/
def pTerm (T : List Tok) : Nat → PSt → Bool × PSt
  | 0, st => (false, st)
  | d + 1, st =>
    if (tkAt T st).1 = 2 ∨ (tkAt T st).1 = 5 then (true, pAdv (pEmit T (tkAt T st).1 (tkAt T st).2.1 st))
    else if (tkAt T st).1 = 3 then pLetter T st
    else if (tkAt T st).1 = 40 then pParen T (pSum T (pTerm T d)) st
    else if (tkAt T st).1 = 6 ∨ (tkAt T st).1 = 7 then pRounds T (pSum T (pTerm T d)) (tkAt T st).1 st
    else if (tkAt T st).1 = 10 ∨ (tkAt T st).1 = 11 then pPlain T (pSum T (pTerm T d)) (tkAt T st).1 st
    else if (tkAt T st).1 = 8 then pWay T (pSum T (pTerm T d)) st
    else if (tkAt T st).1 = 9 then pKind T (pSum T (pTerm T d)) st
    else if (tkAt T st).1 = 12 then pLet T (pSum T (pTerm T d)) st
    else (false, st)
/-- the cells k .. k + 9 are a Parser over the tokens T -/
def ParserAt (cI : ClassId) (ad : Nat → Nat) (ws : va_W) (k : Nat) (T : List Tok) (st : PSt) : Prop :=
  ws[k]? = some (ad k, .inr (1, [.ref (ad (k + 1)), .ref (ad (k + 5)), .ref (ad (k + 9)), .int (nI st.1), .int (nI st.2.2.2)])) ∧ TapeAt cI ad ws (k + 1) T ∧ TapeAt cI ad ws (k + 5) st.2.1 ∧ ws[k + 9]? = some (ad (k + 9), .inl (cI, 26, .inl st.2.2.1)) ∧ st.1 ≤ T.length
theorem ParserAt.tk {cI : ClassId} {ad : Nat → Nat} {ws : va_W} {k : Nat} {T : List Tok} {st : PSt} (h : ParserAt cI ad ws k T st) : tpE T (nI st.1) = tkAt T st := by
  obtain ⟨-, h1, -, -, h2⟩ := h
  have := h1.le
  exact tpE_n T (by omega)
theorem tk_lt {T : List Tok} {st : PSt} (h : ¬ (tkAt T st).1 = 0) : st.1 < T.length := by
  rcases Nat.lt_or_ge st.1 T.length with q | q
  · exact q
  · exfalso
    apply h
    unfold tkAt
    rw [List.getD_eq_getElem?_getD, List.getElem?_eq_none q]; rfl
theorem ParserAt.adv {cI : ClassId} {ad : Nat → Nat} {ws ws1 : va_W} {k : Nat} {T : List Tok} {st : PSt} {v : Int32} (h : ParserAt cI ad ws k T st) (u : x_upd ws k (ad k, .inr (1, [.ref (ad (k + 1)), .ref (ad (k + 5)), .ref (ad (k + 9)), .int v, .int (nI st.2.2.2)])) ws1) (ev : v = nI st.1 + 1) (hk : ¬ (tkAt T st).1 = 0) : ParserAt cI ad ws1 k T (pAdv st) := by
  obtain ⟨-, h1, h2, h3, h4⟩ := h
  have e : v = nI (pAdv st).1 := by rw [ev, nI_1]; rfl
  subst e
  exact ⟨u.1, h1.keep (u.fr (a := k) (b := k + 1) (by omega) (by omega)) (by omega), h2.keep (u.fr (a := k) (b := k + 1) (by omega) (by omega)) (by omega), (u.2 _ (by omega)).trans h3, tk_lt hk⟩
theorem ParserAt.opn {cI : ClassId} {ad : Nat → Nat} {ws ws1 : va_W} {k n : Nat} {T : List Tok} {st : PSt} {v : Int32} (h : ParserAt cI ad ws k T st) (u : x_upd ws k (ad k, .inr (1, [.ref (ad (k + 1)), .ref (ad (k + 5)), .ref (ad (k + 9)), .int (nI st.1), .int v])) ws1) (ev : v = nI n) : ParserAt cI ad ws1 k T (pOpen n st) := by
  obtain ⟨-, h1, h2, h3, h4⟩ := h
  subst ev
  exact ⟨u.1, h1.keep (u.fr (a := k) (b := k + 1) (by omega) (by omega)) (by omega), h2.keep (u.fr (a := k) (b := k + 1) (by omega) (by omega)) (by omega), (u.2 _ (by omega)).trans h3, h4⟩

set_option maxHeartbeats 4000000 in
set_option maxRecDepth 100000 in
theorem cP_slotOf (l : Launch) (D : va_G) (tys : List (ClassId × FieldType)) (A : Nat → Prop) (ws : va_W) (cI : ClassId) (hI : tys[0]? = some (cI, .int)) (ad : Nat → Nat) (k : Nat) (T : List Tok) (st : PSt) (v : Int32) (hp : ParserAt cI ad ws k T st) : x_Mi l yP_slotOf wP_slotOf (xR 0) D xCl tys A [.ref (ad k), .int v] ws (fun r ws1 => r = slI st.2.2.1 v ∧ ws = ws1) := by
  have hF : x_fr k (k + 10) ws ws := x_fr.rf
  obtain ⟨q0, qt, qp, qs, qa⟩ := id hp
  obtain ⟨fsTq, htoq⟩ := qt.obj
  obtain ⟨fsPq, hpoq⟩ := qp.obj
  refine x_enter (by decide) rfl (Nat.le_of_ble_eq_true rfl) (fun p e s m args below meth c ls hx hb hr hlk hml hown hnm hts hK hP hD hS hA hN hl => ?_)
  have hl : lv_has ls 2 [(0, .ref (ad k)), (1, .int v)] := hl
  refine lv_iload_n hx hb dP_slotOf_0 rfl (lv_at hl 1 rfl) ?_
  refine lv_if_lt (tgt := 22) hx hb dP_slotOf_1 (by decide) (fun c1 => ?_) (fun c1 => ?_)
  · refine lv_iconst (v := (-1)) hx hb dP_slotOf_22 (by decide) ?_
    exact x_iret hx hb hr hlk hK hP hD hS dP_slotOf_23 ⟨(if_neg (fun hc => by rw [i32_lt, i32_0] at c1; omega)).symm, rfl⟩
  · refine lv_iload_n hx hb dP_slotOf_4 rfl (lv_at hl 1 rfl) ?_
    refine lv_aload_n hx hb dP_slotOf_5 rfl (lv_at hl 0 rfl) ?_
    refine va_get (D := D) (cl := xCl) (ci := 1) (v := .ref (ad (k + 9))) (C := rnP) (T := tbP) (N := 5) hx hb hts inP hown hK hP k q0 rfl 2 (by decide) (hts _ tw_99) (fun _ h9 => h9) rfl dP_slotOf_6 ?_
    refine va_alen (v := 26) hx hb hK hP (k + 9) 0 qs hI (by rfl) dP_slotOf_9 ?_
    refine lv_icmp_ge (tgt := 22) hx hb dP_slotOf_10 (by decide) (fun c10 => ?_) (fun c10 => ?_)
    · refine lv_iconst (v := (-1)) hx hb dP_slotOf_22 (by decide) ?_
      exact x_iret hx hb hr hlk hK hP hD hS dP_slotOf_23 ⟨(if_neg (fun hc => by rw [i32_le, show (26 : Int32).toInt = 26 from rfl] at c10; omega)).symm, rfl⟩
    · obtain ⟨j, hj, ej⟩ := ix_of (n := 26) (by omega) c1 c10
      refine lv_aload_n hx hb dP_slotOf_13 rfl (lv_at hl 0 rfl) ?_
      refine va_get (D := D) (cl := xCl) (ci := 1) (v := .ref (ad (k + 9))) (C := rnP) (T := tbP) (N := 5) hx hb hts inP hown hK hP k q0 rfl 2 (by decide) (hts _ tw_99) (fun _ h9 => h9) rfl dP_slotOf_14 ?_
      refine lv_iload_n hx hb dP_slotOf_17 rfl (lv_at hl 1 rfl) ?_
      refine va_iald hx hb hK hP (k + 9) 0 qs hI (by rw [ej]; exact vp_in_nI (by omega) (by omega)) dP_slotOf_18 ?_
      refine lv_topi (fun v_1 ev_1 => ?_)
      refine lv_goto (tgt := 23) hx hb dP_slotOf_19 (by decide) ?_
      exact x_iret hx hb hr hlk hK hP hD hS dP_slotOf_23 ⟨by rw [ev_1, ej, nI_clamp (by omega)]; unfold slI; rw [nI_toInt (by omega), if_pos ⟨by omega, by omega⟩]; simp, rfl⟩

set_option maxHeartbeats 4000000 in
set_option maxRecDepth 100000 in
theorem cP_setSlot (l : Launch) (D : va_G) (tys : List (ClassId × FieldType)) (A : Nat → Prop) (ws : va_W) (cI : ClassId) (hI : tys[0]? = some (cI, .int)) (ad : Nat → Nat) (k : Nat) (T : List Tok) (st : PSt) (v xx : Int32) (hp : ParserAt cI ad ws k T st) : x_Mv l yP_setSlot wP_setSlot (xR 0) D xCl tys A [.ref (ad k), .int v, .int xx] ws (fun ws1 => x_fr k (k + 10) ws ws1 ∧ ParserAt cI ad ws1 k T (pSet v xx st)) := by
  have hF : x_fr k (k + 10) ws ws := x_fr.rf
  obtain ⟨q0, qt, qp, qs, qa⟩ := id hp
  obtain ⟨fsTq, htoq⟩ := qt.obj
  obtain ⟨fsPq, hpoq⟩ := qp.obj
  refine x_enter (by decide) rfl (Nat.le_of_ble_eq_true rfl) (fun p e s m args below meth c ls hx hb hr hlk hml hown hnm hts hK hP hD hS hA hN hl => ?_)
  have hl : lv_has ls 3 [(0, .ref (ad k)), (1, .int v), (2, .int xx)] := hl
  refine lv_iload_n hx hb dP_setSlot_0 rfl (lv_at hl 1 rfl) ?_
  refine lv_if_lt (tgt := 20) hx hb dP_setSlot_1 (by decide) (fun c1 => ?_) (fun c1 => ?_)
  · exact x_vret hx hb hr hlk hK hP hD hS dP_setSlot_20 ⟨hF, by have e : pSet v xx st = st := (by unfold pSet slU; rw [if_neg (fun hc => (by rw [i32_lt, i32_0] at c1; omega))]); rw [e]; exact hp⟩
  · refine lv_iload_n hx hb dP_setSlot_4 rfl (lv_at hl 1 rfl) ?_
    refine lv_aload_n hx hb dP_setSlot_5 rfl (lv_at hl 0 rfl) ?_
    refine va_get (D := D) (cl := xCl) (ci := 1) (v := .ref (ad (k + 9))) (C := rnP) (T := tbP) (N := 5) hx hb hts inP hown hK hP k q0 rfl 2 (by decide) (hts _ tw_99) (fun _ h9 => h9) rfl dP_setSlot_6 ?_
    refine va_alen (v := 26) hx hb hK hP (k + 9) 0 qs hI (by rfl) dP_setSlot_9 ?_
    refine lv_icmp_ge (tgt := 20) hx hb dP_setSlot_10 (by decide) (fun c10 => ?_) (fun c10 => ?_)
    · exact x_vret hx hb hr hlk hK hP hD hS dP_setSlot_20 ⟨hF, by have e : pSet v xx st = st := (by unfold pSet slU; rw [if_neg (fun hc => (by rw [i32_le, show (26 : Int32).toInt = 26 from rfl] at c10; omega))]); rw [e]; exact hp⟩
    · obtain ⟨j, hj, ej⟩ := ix_of (n := 26) (by omega) c1 c10
      refine lv_aload_n hx hb dP_setSlot_13 rfl (lv_at hl 0 rfl) ?_
      refine va_get (D := D) (cl := xCl) (ci := 1) (v := .ref (ad (k + 9))) (C := rnP) (T := tbP) (N := 5) hx hb hts inP hown hK hP k q0 rfl 2 (by decide) (hts _ tw_99) (fun _ h9 => h9) rfl dP_setSlot_14 ?_
      refine lv_iload_n hx hb dP_setSlot_17 rfl (lv_at hl 1 rfl) ?_
      refine lv_iload_n hx hb dP_setSlot_18 rfl (lv_at hl 2 rfl) ?_
      refine va_iast hx hb hK hP hD hS (k + 9) 0 qs hI (by rw [ej]; exact vp_in_nI (by omega) (by omega)) dP_setSlot_19 (fun H locs hP hD hS => ?_)
      obtain ⟨ws_2, hu_1, hP, hD⟩ := x_gen qs hP hD
      have h_3 : ws_2[k + 9]? = some (ad (k + 9), .inl (cI, 26, .inl (upd st.2.2.1 (v).toNatClampNeg xx))) := hu_1.1
      have h_4 := (hu_1.2 k (by omega)).trans q0
      have h_5 := (hu_1.2 (k + 1) (by omega)).trans htoq
      have h_6 := (hu_1.2 (k + 5) (by omega)).trans hpoq
      exact x_vret hx hb hr hlk hK hP hD hS dP_setSlot_20 ⟨hu_1.fr (by omega) (by omega), (by have e : pSet v xx st = (st.1, st.2.1, upd st.2.2.1 j xx, st.2.2.2) := (by unfold pSet slU; rw [ej, nI_toInt (by omega), if_pos ⟨by omega, by omega⟩]; simp); rw [e]; exact ⟨h_4, qt.keep (hu_1.fr (a := k + 9) (b := k + 10) (by omega) (by omega)) (by omega), qp.keep (hu_1.fr (a := k + 9) (b := k + 10) (by omega) (by omega)) (by omega), (by have q9 := h_3; rw [ej, nI_clamp (by omega)] at q9; exact q9), qa⟩)⟩

set_option maxHeartbeats 4000000 in
set_option maxRecDepth 100000 in
theorem cP_stopPlace (l : Launch) (D : va_G) (tys : List (ClassId × FieldType)) (A : Nat → Prop) (ws : va_W) (cI : ClassId) (hI : tys[0]? = some (cI, .int)) (ad : Nat → Nat) (k : Nat) (T : List Tok) (st : PSt) (hp : ParserAt cI ad ws k T st) : x_Mi l yP_stopPlace wP_stopPlace (xR 1) D xCl tys A [.ref (ad k)] ws (fun r ws1 => r = (tkAt T st).2.2 ∧ ws = ws1) := by
  have hF : x_fr k (k + 10) ws ws := x_fr.rf
  obtain ⟨q0, qt, qp, qs, qa⟩ := id hp
  obtain ⟨fsTq, htoq⟩ := qt.obj
  obtain ⟨fsPq, hpoq⟩ := qp.obj
  refine x_enter (by decide) rfl (Nat.le_of_ble_eq_true rfl) (fun p e s m args below meth c ls hx hb hr hlk hml hown hnm hts hK hP hD hS hA hN hl => ?_)
  have hl : lv_has ls 1 [(0, .ref (ad k))] := hl
  refine lv_aload_n hx hb dP_stopPlace_0 rfl (lv_at hl 0 rfl) ?_
  refine va_get (D := D) (cl := xCl) (ci := 1) (v := .ref (ad (k + 1))) (C := rnP) (T := tbP) (N := 5) hx hb hts inP hown hK hP k q0 rfl 0 (by decide) (hts _ tw_97) (fun _ h9 => h9) rfl dP_stopPlace_1 ?_
  refine lv_aload_n hx hb dP_stopPlace_4 rfl (lv_at hl 0 rfl) ?_
  refine va_get (D := D) (cl := xCl) (ci := 1) (v := .int (nI st.1)) (C := rnP) (T := tbP) (N := 5) hx hb hts inP hown hK hP k q0 rfl 3 (by decide) (hts _ tw_100) (fun _ h9 => h9) rfl dP_stopPlace_5 ?_
  refine x_calli (x_runV (n := 1) (As := [.int (nI st.1)]) (rest := []) ⟨hx, hb, hml, hown, hts⟩ (cT_placeAt l D tys A ws cI hI ad (k + 1) T ((nI st.1)) qt) tw_341 tw_342 tw_343 tw_5 tw_344 (by decide +kernel) rfl rfl (xR_ok (by omega) (by omega)) ⟨Nat.zero_le _, Nat.zero_le _⟩ (va_recv hK hP (ci := 4) (q0 := k + 1) rfl htoq) hK hP hD hS hA hN rfl hl.1 rfl (lv_room (Nat.le_of_ble_eq_true rfl)) dP_stopPlace_8) hS (fun rpl ws_1 H locs hpl hP hD hS => ?_)
  obtain ⟨hpl, rfl⟩ := hpl
  rw [hp.tk] at hpl
  exact x_iret hx hb hr hlk hK hP hD hS dP_stopPlace_11 ⟨hpl, rfl⟩

set_option maxHeartbeats 4000000 in
set_option maxRecDepth 100000 in
theorem cP_program (l : Launch) (D : va_G) (tys : List (ClassId × FieldType)) (A : Nat → Prop) (ws : va_W) (cI : ClassId) (hI : tys[0]? = some (cI, .int)) (ad : Nat → Nat) (k : Nat) (T : List Tok) (st : PSt) (hp : ParserAt cI ad ws k T st) : x_Mr l yP_program wP_program (xR 0) D xCl tys A [.ref (ad k)] ws (fun a ws1 => a = ad (k + 5) ∧ ws = ws1) := by
  have hF : x_fr k (k + 10) ws ws := x_fr.rf
  obtain ⟨q0, qt, qp, qs, qa⟩ := id hp
  obtain ⟨fsTq, htoq⟩ := qt.obj
  obtain ⟨fsPq, hpoq⟩ := qp.obj
  refine x_enter (by decide) rfl (Nat.le_of_ble_eq_true rfl) (fun p e s m args below meth c ls hx hb hr hlk hml hown hnm hts hK hP hD hS hA hN hl => ?_)
  have hl : lv_has ls 1 [(0, .ref (ad k))] := hl
  refine lv_aload_n hx hb dP_program_0 rfl (lv_at hl 0 rfl) ?_
  refine va_get (D := D) (cl := xCl) (ci := 1) (v := .ref (ad (k + 5))) (C := rnP) (T := tbP) (N := 5) hx hb hts inP hown hK hP k q0 rfl 1 (by decide) (hts _ tw_98) (fun _ h9 => h9) rfl dP_program_1 ?_
  exact x_aret hx hb hr (Or.inl ⟨_, rfl⟩) hlk hK hP hD hS dP_program_4 ⟨rfl, rfl⟩

set_option maxHeartbeats 4000000 in
set_option maxRecDepth 100000 in
/-- Parser.take(kind) -/
theorem cP_take (l : Launch) (D : va_G) (tys : List (ClassId × FieldType)) (A : Nat → Prop) (ws : va_W) (cI : ClassId) (hI : tys[0]? = some (cI, .int)) (ad : Nat → Nat) (k : Nat) (T : List Tok) (st : PSt) (kk : Int32) (hk0 : ¬ kk = 0) (hp : ParserAt cI ad ws k T st) : x_Mi l yP_take wP_take (xR 1) D xCl tys A [.ref (ad k), .int kk] ws (fun r ws1 => r = b2i (pTake T kk st).1 ∧ x_fr k (k + 10) ws ws1 ∧ ParserAt cI ad ws1 k T (pTake T kk st).2) := by
  have hF : x_fr k (k + 10) ws ws := x_fr.rf
  obtain ⟨q0, qt, qp, qs, qa⟩ := id hp
  obtain ⟨fsTq, htoq⟩ := qt.obj
  obtain ⟨fsPq, hpoq⟩ := qp.obj
  refine x_enter (by decide) rfl (Nat.le_of_ble_eq_true rfl) (fun p e s m args below meth c ls hx hb hr hlk hml hown hnm hts hK hP hD hS hA hN hl => ?_)
  have hl : lv_has ls 2 [(0, .ref (ad k)), (1, .int kk)] := hl
  refine lv_aload_n hx hb dP_take_0 rfl (lv_at hl 0 rfl) ?_
  refine va_get (D := D) (cl := xCl) (ci := 1) (v := .ref (ad (k + 1))) (C := rnP) (T := tbP) (N := 5) hx hb hts inP hown hK hP k q0 rfl 0 (by decide) (hts _ tw_97) (fun _ h9 => h9) rfl dP_take_1 ?_
  refine lv_aload_n hx hb dP_take_4 rfl (lv_at hl 0 rfl) ?_
  refine va_get (D := D) (cl := xCl) (ci := 1) (v := .int (nI st.1)) (C := rnP) (T := tbP) (N := 5) hx hb hts inP hown hK hP k q0 rfl 3 (by decide) (hts _ tw_100) (fun _ h9 => h9) rfl dP_take_5 ?_
  refine x_calli (x_runV (n := 1) (As := [.int (nI st.1)]) (rest := []) ⟨hx, hb, hml, hown, hts⟩ (cT_kindAt l D tys A ws cI hI ad (k + 1) T ((nI st.1)) qt) tw_329 tw_330 tw_331 tw_5 tw_332 (by decide +kernel) rfl rfl (xR_ok (by omega) (by omega)) ⟨Nat.zero_le _, Nat.zero_le _⟩ (va_recv hK hP (ci := 4) (q0 := k + 1) rfl htoq) hK hP hD hS hA hN rfl hl.1 rfl (lv_room (Nat.le_of_ble_eq_true rfl)) dP_take_8) hS (fun rkd ws_1 H locs hkd hP hD hS => ?_)
  obtain ⟨hkd, rfl⟩ := hkd
  rw [hp.tk] at hkd
  refine lv_iload_n hx hb dP_take_11 rfl (lv_at hl 1 rfl) ?_
  refine lv_icmp_eq (tgt := 17) hx hb dP_take_12 (by decide) (fun c12 => ?_) (fun c12 => ?_)
  · refine lv_aload_n hx hb dP_take_17 rfl (lv_at hl 0 rfl) ?_
    refine lv_dup hx hb dP_take_18 rfl ?_
    refine va_get (D := D) (cl := xCl) (ci := 1) (v := .int (nI st.1)) (C := rnP) (T := tbP) (N := 5) hx hb hts inP hown hK hP k q0 rfl 3 (by decide) (hts _ tw_100) (fun _ h9 => h9) rfl dP_take_19 ?_
    refine lv_iconst (v := 1) hx hb dP_take_22 (by decide) ?_
    refine lv_iadd hx hb dP_take_23 ?_
    refine lv_topi (fun v_2 ev_2 => ?_)
    refine va_put (D := D) (cl := xCl) (ci := 1) (v := .int v_2) (ty := .int) (C := rnP) (T := tbP) (N := 5) hx hb hts inP tyP toP nmP hown hK hP hD hS k q0 rfl 3 (by decide) (hts _ tw_100) (fun _ h9 => h9) rfl (by decide +kernel) rfl rfl (Nat.le_of_ble_eq_true rfl) dP_take_24 (fun H locs hP hD hS => ?_)
    obtain ⟨ws_4, hu_3, hP, hD⟩ := x_gen q0 hP hD
    have h_5 : ws_4[k]? = some (ad k, .inr (1, [.ref (ad (k + 1)), .ref (ad (k + 5)), .ref (ad (k + 9)), .int v_2, .int (nI st.2.2.2)])) := hu_3.1
    have h_6 := (hu_3.2 (k + 1) (by omega)).trans htoq
    have h_7 := (hu_3.2 (k + 5) (by omega)).trans hpoq
    have h_8 := (hu_3.2 (k + 9) (by omega)).trans qs
    refine lv_iconst (v := 1) hx hb dP_take_27 (by decide) ?_
    exact x_zret hx hb hr rfl hlk hK hP hD hS dP_take_28 ⟨by rw [show pTake T kk st = (true, pAdv st) from if_pos (by rw [← hkd]; exact c12)]; rfl, hu_3.fr (by omega) (by omega), by rw [show pTake T kk st = (true, pAdv st) from if_pos (by rw [← hkd]; exact c12)]; exact hp.adv hu_3 ev_2 (by rw [← hkd, c12]; exact hk0)⟩
  · refine lv_iconst (v := 0) hx hb dP_take_15 (by decide) ?_
    exact x_zret hx hb hr rfl hlk hK hP hD hS dP_take_16 ⟨by rw [show pTake T kk st = (false, st) from if_neg (by rw [← hkd]; exact c12)]; rfl, hF, by rw [show pTake T kk st = (false, st) from if_neg (by rw [← hkd]; exact c12)]; exact hp⟩

set_option maxHeartbeats 4000000 in
set_option maxRecDepth 100000 in
/-- Parser.emit(kind, value) -/
theorem cP_emit (l : Launch) (D : va_G) (tys : List (ClassId × FieldType)) (A : Nat → Prop) (ws : va_W) (cI : ClassId) (hI : tys[0]? = some (cI, .int)) (ad : Nat → Nat) (k : Nat) (T : List Tok) (st : PSt) (aa vv : Int32) (hp : ParserAt cI ad ws k T st) : x_Mv l yP_emit wP_emit (xR 1) D xCl tys A [.ref (ad k), .int aa, .int vv] ws (fun ws1 => x_fr k (k + 10) ws ws1 ∧ ParserAt cI ad ws1 k T (pEmit T aa vv st)) := by
  have hF : x_fr k (k + 10) ws ws := x_fr.rf
  obtain ⟨q0, qt, qp, qs, qa⟩ := id hp
  obtain ⟨fsTq, htoq⟩ := qt.obj
  obtain ⟨fsPq, hpoq⟩ := qp.obj
  refine x_enter (by decide) rfl (Nat.le_of_ble_eq_true rfl) (fun p e s m args below meth c ls hx hb hr hlk hml hown hnm hts hK hP hD hS hA hN hl => ?_)
  have hl : lv_has ls 3 [(0, .ref (ad k)), (1, .int aa), (2, .int vv)] := hl
  refine lv_aload_n hx hb dP_emit_0 rfl (lv_at hl 0 rfl) ?_
  refine va_get (D := D) (cl := xCl) (ci := 1) (v := .ref (ad (k + 5))) (C := rnP) (T := tbP) (N := 5) hx hb hts inP hown hK hP k q0 rfl 1 (by decide) (hts _ tw_98) (fun _ h9 => h9) rfl dP_emit_1 ?_
  refine lv_iload_n hx hb dP_emit_4 rfl (lv_at hl 1 rfl) ?_
  refine lv_iload_n hx hb dP_emit_5 rfl (lv_at hl 2 rfl) ?_
  refine lv_aload_n hx hb dP_emit_6 rfl (lv_at hl 0 rfl) ?_
  refine va_get (D := D) (cl := xCl) (ci := 1) (v := .ref (ad (k + 1))) (C := rnP) (T := tbP) (N := 5) hx hb hts inP hown hK hP k q0 rfl 0 (by decide) (hts _ tw_97) (fun _ h9 => h9) rfl dP_emit_7 ?_
  refine lv_aload_n hx hb dP_emit_10 rfl (lv_at hl 0 rfl) ?_
  refine va_get (D := D) (cl := xCl) (ci := 1) (v := .int (nI st.1)) (C := rnP) (T := tbP) (N := 5) hx hb hts inP hown hK hP k q0 rfl 3 (by decide) (hts _ tw_100) (fun _ h9 => h9) rfl dP_emit_11 ?_
  refine x_calli (x_runV (n := 1) (As := [.int (nI st.1)]) (rest := [.int vv, .int aa, .ref (ad (k + 5))]) ⟨hx, hb, hml, hown, hts⟩ (cT_placeAt l D tys A ws cI hI ad (k + 1) T ((nI st.1)) qt) tw_341 tw_342 tw_343 tw_5 tw_344 (by decide +kernel) rfl rfl (xR_ok (by omega) (by omega)) ⟨Nat.zero_le _, Nat.zero_le _⟩ (va_recv hK hP (ci := 4) (q0 := k + 1) rfl htoq) hK hP hD hS hA hN rfl hl.1 rfl (lv_room (Nat.le_of_ble_eq_true rfl)) dP_emit_14) hS (fun rpl ws_1 H locs hpl hP hD hS => ?_)
  obtain ⟨hpl, rfl⟩ := hpl
  rw [hp.tk] at hpl
  refine x_callv (x_runV (n := 3) (As := [.int aa, .int vv, .int rpl]) (rest := []) ⟨hx, hb, hml, hown, hts⟩ (cT_add l D tys A ws cI hI ad (k + 5) st.2.1 aa vv rpl qp) tw_345 tw_311 tw_312 tw_5 tw_313 (by decide +kernel) rfl rfl ⟨by decide, by decide⟩ ⟨Nat.zero_le _, Nat.zero_le _⟩ (va_recv hK hP (ci := 4) (q0 := k + 5) rfl hpoq) hK hP hD hS hA hN rfl hl.1 rfl (lv_room (Nat.le_of_ble_eq_true rfl)) dP_emit_17) hS (fun ws_2 H locs hta hP hD hS => ?_)
  exact x_vret hx hb hr hlk hK hP hD hS dP_emit_20 ⟨hta.1.wd (by omega) (by omega), (hta.1 _ (by omega)).trans q0, qt.keep hta.1 (by omega), (by have q9 := hta.2; rw [hpl] at q9; exact q9), (hta.1 _ (by omega)).trans qs, qa⟩

set_option maxHeartbeats 4000000 in
set_option maxRecDepth 100000 in
/-- Parser.letterTerm() -/
theorem cP_letterTerm (l : Launch) (D : va_G) (tys : List (ClassId × FieldType)) (A : Nat → Prop) (ws : va_W) (cI : ClassId) (hI : tys[0]? = some (cI, .int)) (ad : Nat → Nat) (k : Nat) (T : List Tok) (st : PSt) (hkn : ¬ (tkAt T st).1 = 0) (hp : ParserAt cI ad ws k T st) : x_Mi l yP_letterTerm wP_letterTerm (xR 2) D xCl tys A [.ref (ad k)] ws (fun r ws1 => r = b2i (pLetter T st).1 ∧ x_fr k (k + 10) ws ws1 ∧ ParserAt cI ad ws1 k T (pLetter T st).2) := by
  have hF : x_fr k (k + 10) ws ws := x_fr.rf
  obtain ⟨q0, qt, qp, qs, qa⟩ := id hp
  obtain ⟨fsTq, htoq⟩ := qt.obj
  obtain ⟨fsPq, hpoq⟩ := qp.obj
  refine x_enter (by decide) rfl (Nat.le_of_ble_eq_true rfl) (fun p e s m args below meth c ls hx hb hr hlk hml hown hnm hts hK hP hD hS hA hN hl => ?_)
  have hl : lv_has ls 2 [(0, .ref (ad k))] := hl
  refine lv_aload_n hx hb dP_letterTerm_0 rfl (lv_at hl 0 rfl) ?_
  refine lv_aload_n hx hb dP_letterTerm_1 rfl (lv_at hl 0 rfl) ?_
  refine va_get (D := D) (cl := xCl) (ci := 1) (v := .ref (ad (k + 1))) (C := rnP) (T := tbP) (N := 5) hx hb hts inP hown hK hP k q0 rfl 0 (by decide) (hts _ tw_97) (fun _ h9 => h9) rfl dP_letterTerm_2 ?_
  refine lv_aload_n hx hb dP_letterTerm_5 rfl (lv_at hl 0 rfl) ?_
  refine va_get (D := D) (cl := xCl) (ci := 1) (v := .int (nI st.1)) (C := rnP) (T := tbP) (N := 5) hx hb hts inP hown hK hP k q0 rfl 3 (by decide) (hts _ tw_100) (fun _ h9 => h9) rfl dP_letterTerm_6 ?_
  refine x_calli (x_runV (n := 1) (As := [.int (nI st.1)]) (rest := [.ref (ad k)]) ⟨hx, hb, hml, hown, hts⟩ (cT_valueAt l D tys A ws cI hI ad (k + 1) T ((nI st.1)) qt) tw_333 tw_334 tw_335 tw_5 tw_336 (by decide +kernel) rfl rfl (xR_ok (by omega) (by omega)) ⟨Nat.zero_le _, Nat.zero_le _⟩ (va_recv hK hP (ci := 4) (q0 := k + 1) rfl htoq) hK hP hD hS hA hN rfl hl.1 rfl (lv_room (Nat.le_of_ble_eq_true rfl)) dP_letterTerm_9) hS (fun rvl ws_1 H locs hvl hP hD hS => ?_)
  obtain ⟨hvl, rfl⟩ := hvl
  rw [hp.tk] at hvl
  refine x_calli (x_runV (n := 1) (As := [.int rvl]) (rest := []) ⟨hx, hb, hml, hown, hts⟩ (cP_slotOf l D tys A ws cI hI ad k T st rvl hp) tw_350 tw_352 ts_P_slotOf tw_4 tw_353 (by decide +kernel) rfl rfl (xR_ok (by omega) (by omega)) ⟨Nat.zero_le _, Nat.zero_le _⟩ (va_recv hK hP (ci := 1) (q0 := k) rfl q0) hK hP hD hS hA hN rfl hl.1 rfl (lv_room (Nat.le_of_ble_eq_true rfl)) dP_letterTerm_12) hS (fun rsl ws_2 H locs hsl hP hD hS => ?_)
  obtain ⟨hsl, rfl⟩ := hsl
  refine lv_istore_n (lv' := [(1, .int rsl), (0, .ref (ad k))]) hx hb dP_letterTerm_15 rfl hl (by decide) rfl (fun ls hl => ?_)
  refine lv_iload_n hx hb dP_letterTerm_16 rfl (lv_at hl 0 rfl) ?_
  refine lv_iconst (v := (-1)) hx hb dP_letterTerm_17 (by decide) ?_
  refine lv_icmp_ne (tgt := 23) hx hb dP_letterTerm_18 (by decide) (fun c18 => ?_) (fun c18 => ?_)
  · refine lv_aload_n hx hb dP_letterTerm_23 rfl (lv_at hl 1 rfl) ?_
    refine lv_iconst (v := 3) hx hb dP_letterTerm_24 (by decide) ?_
    refine lv_iload_n hx hb dP_letterTerm_25 rfl (lv_at hl 0 rfl) ?_
    refine x_callv (x_runV (n := 2) (As := [.int 3, .int rsl]) (rest := []) ⟨hx, hb, hml, hown, hts⟩ (cP_emit l D tys A ws cI hI ad k T st 3 rsl hp) tw_337 tw_339 ts_P_emit tw_4 tw_340 (by decide +kernel) rfl rfl (xR_ok (by omega) (by omega)) ⟨Nat.zero_le _, Nat.zero_le _⟩ (va_recv hK hP (ci := 1) (q0 := k) rfl q0) hK hP hD hS hA hN rfl hl.1 rfl (lv_room (Nat.le_of_ble_eq_true rfl)) dP_letterTerm_26) hS (fun ws_4 H locs hv_3 hP hD hS => ?_)
    obtain ⟨hF9, hp⟩ := hv_3
    have hF := hF.tr hF9
    obtain ⟨q_50, q_5t, q_5p, q_5s, q_5a⟩ := id hp
    obtain ⟨fsTq_5, htoq_5⟩ := q_5t.obj
    obtain ⟨fsPq_5, hpoq_5⟩ := q_5p.obj
    refine lv_aload_n hx hb dP_letterTerm_29 rfl (lv_at hl 1 rfl) ?_
    refine lv_dup hx hb dP_letterTerm_30 rfl ?_
    refine va_get (D := D) (cl := xCl) (ci := 1) (v := .int (nI ((pEmit T 3 rsl st)).1)) (C := rnP) (T := tbP) (N := 5) hx hb hts inP hown hK hP k q_50 rfl 3 (by decide) (hts _ tw_100) (fun _ h9 => h9) rfl dP_letterTerm_31 ?_
    refine lv_iconst (v := 1) hx hb dP_letterTerm_34 (by decide) ?_
    refine lv_iadd hx hb dP_letterTerm_35 ?_
    refine lv_topi (fun v_6 ev_6 => ?_)
    refine va_put (D := D) (cl := xCl) (ci := 1) (v := .int v_6) (ty := .int) (C := rnP) (T := tbP) (N := 5) hx hb hts inP tyP toP nmP hown hK hP hD hS k q_50 rfl 3 (by decide) (hts _ tw_100) (fun _ h9 => h9) rfl (by decide +kernel) rfl rfl (Nat.le_of_ble_eq_true rfl) dP_letterTerm_36 (fun H locs hP hD hS => ?_)
    obtain ⟨ws_8, hu_7, hP, hD⟩ := x_gen q_50 hP hD
    have h_9 : ws_8[k]? = some (ad k, .inr (1, [.ref (ad (k + 1)), .ref (ad (k + 5)), .ref (ad (k + 9)), .int v_6, .int (nI ((pEmit T 3 rsl st)).2.2.2)])) := hu_7.1
    have h_10 := (hu_7.2 (k + 1) (by omega)).trans htoq_5
    have h_11 := (hu_7.2 (k + 5) (by omega)).trans hpoq_5
    have h_12 := (hu_7.2 (k + 9) (by omega)).trans q_5s
    have hp := hp.adv hu_7 ev_6 (hkn)
    have hF := hF.tr (hu_7.fr (a := k) (b := k + 10) (by omega) (by omega))
    obtain ⟨q_130, q_13t, q_13p, q_13s, q_13a⟩ := id hp
    obtain ⟨fsTq_13, htoq_13⟩ := q_13t.obj
    obtain ⟨fsPq_13, hpoq_13⟩ := q_13p.obj
    refine lv_iconst (v := 1) hx hb dP_letterTerm_39 (by decide) ?_
    exact x_zret hx hb hr rfl hlk hK hP hD hS dP_letterTerm_40 ⟨by unfold pLetter; rw [if_neg (by rw [← hvl, ← hsl]; exact c18)]; rfl, hF, by unfold pLetter; rw [if_neg (by rw [← hvl, ← hsl]; exact c18), ← hvl, ← hsl]; exact hp⟩
  · refine lv_iconst (v := 0) hx hb dP_letterTerm_21 (by decide) ?_
    exact x_zret hx hb hr rfl hlk hK hP hD hS dP_letterTerm_22 ⟨by unfold pLetter; rw [if_pos (by rw [← hvl, ← hsl]; exact c18)]; rfl, hF, by unfold pLetter; rw [if_pos (by rw [← hvl, ← hsl]; exact c18)]; exact hp⟩
end
section
def SumC (l : Launch) (D : va_G) (tys : List (ClassId × FieldType)) (A : Nat → Prop) (cI : ClassId) (ad : Nat → Nat) (k : Nat) (T : List Tok) (d : Nat) : Prop := ∀ (ws : va_W) (st : PSt), ParserAt cI ad ws k T st → x_Mi l yP_sum wP_sum (xR (3 * d + 3)) D xCl tys A [.ref (ad k), .int (nI (12 - d))] ws (fun r ws1 => r = b2i (pSum T (pTerm T d) st).1 ∧ x_fr k (k + 10) ws ws1 ∧ ParserAt cI ad ws1 k T (pSum T (pTerm T d) st).2)
def TermC (l : Launch) (D : va_G) (tys : List (ClassId × FieldType)) (A : Nat → Prop) (cI : ClassId) (ad : Nat → Nat) (k : Nat) (T : List Tok) (d : Nat) : Prop := ∀ (ws : va_W) (st : PSt), ParserAt cI ad ws k T st → x_Mi l yP_term wP_term (xR (3 * d + 2)) D xCl tys A [.ref (ad k), .int (nI (12 - d))] ws (fun r ws1 => r = b2i (pTerm T d st).1 ∧ x_fr k (k + 10) ws ws1 ∧ ParserAt cI ad ws1 k T (pTerm T d st).2)
theorem isJn_nz {K : Int32} (h : isJnI K = true) : ¬ K = 0 := by
  unfold isJnI at h
  rw [decide_eq_true_eq] at h
  rcases h with rfl | rfl | rfl <;> decide
theorem pMore_end {T : List Tok} {t : PSt → Bool × PSt} {n : Nat} {st : PSt} (h : isJnI (tkAt T st).1 = false) : pMore T t n st = (true, st) := by
  cases n with
  | zero => rfl
  | succ n => exact if_neg (by rw [h]; decide)

set_option maxHeartbeats 4000000 in
set_option maxRecDepth 100000 in
/-- Parser.roundsTerm(kind, within) -/
theorem cP_roundsTerm (l : Launch) (D : va_G) (tys : List (ClassId × FieldType)) (A : Nat → Prop) (cI : ClassId) (hI : tys[0]? = some (cI, .int)) (ad : Nat → Nat) (k : Nat) (T : List Tok) (d : Nat) (HS : SumC l D tys A cI ad k T d) (hd : d < 12) (ws : va_W) (st : PSt) (kk : Int32) (hkn : ¬ (tkAt T st).1 = 0) (hp : ParserAt cI ad ws k T st) : x_Mi l yP_roundsTerm wP_roundsTerm (xR (3 * d + 4)) D xCl tys A [.ref (ad k), .int kk, .int (nI (12 - d))] ws (fun r ws1 => r = b2i (pRounds T (pSum T (pTerm T d)) kk st).1 ∧ x_fr k (k + 10) ws ws1 ∧ ParserAt cI ad ws1 k T (pRounds T (pSum T (pTerm T d)) kk st).2) := by
  have hF : x_fr k (k + 10) ws ws := x_fr.rf
  obtain ⟨q0, qt, qp, qs, qa⟩ := id hp
  obtain ⟨fsTq, htoq⟩ := qt.obj
  obtain ⟨fsPq, hpoq⟩ := qp.obj
  refine x_enter (by decide) rfl (Nat.le_of_ble_eq_true rfl) (fun p e s m args below meth c ls hx hb hr hlk hml hown hnm hts hK hP hD hS hA hN hl => ?_)
  have hl : lv_has ls 4 [(0, .ref (ad k)), (1, .int kk), (2, .int (nI (12 - d)))] := hl
  refine lv_aload_n hx hb dP_roundsTerm_0 rfl (lv_at hl 0 rfl) ?_
  refine lv_dup hx hb dP_roundsTerm_1 rfl ?_
  refine va_get (D := D) (cl := xCl) (ci := 1) (v := .int (nI st.1)) (C := rnP) (T := tbP) (N := 5) hx hb hts inP hown hK hP k q0 rfl 3 (by decide) (hts _ tw_100) (fun _ h9 => h9) rfl dP_roundsTerm_2 ?_
  refine lv_iconst (v := 1) hx hb dP_roundsTerm_5 (by decide) ?_
  refine lv_iadd hx hb dP_roundsTerm_6 ?_
  refine lv_topi (fun v_1 ev_1 => ?_)
  refine va_put (D := D) (cl := xCl) (ci := 1) (v := .int v_1) (ty := .int) (C := rnP) (T := tbP) (N := 5) hx hb hts inP tyP toP nmP hown hK hP hD hS k q0 rfl 3 (by decide) (hts _ tw_100) (fun _ h9 => h9) rfl (by decide +kernel) rfl rfl (Nat.le_of_ble_eq_true rfl) dP_roundsTerm_7 (fun H locs hP hD hS => ?_)
  obtain ⟨ws_3, hu_2, hP, hD⟩ := x_gen q0 hP hD
  have h_4 : ws_3[k]? = some (ad k, .inr (1, [.ref (ad (k + 1)), .ref (ad (k + 5)), .ref (ad (k + 9)), .int v_1, .int (nI st.2.2.2)])) := hu_2.1
  have h_5 := (hu_2.2 (k + 1) (by omega)).trans htoq
  have h_6 := (hu_2.2 (k + 5) (by omega)).trans hpoq
  have h_7 := (hu_2.2 (k + 9) (by omega)).trans qs
  have hp := hp.adv hu_2 ev_1 (hkn)
  have hF := hF.tr (hu_2.fr (a := k) (b := k + 10) (by omega) (by omega))
  obtain ⟨q_80, q_8t, q_8p, q_8s, q_8a⟩ := id hp
  obtain ⟨fsTq_8, htoq_8⟩ := q_8t.obj
  obtain ⟨fsPq_8, hpoq_8⟩ := q_8p.obj
  refine lv_aload_n hx hb dP_roundsTerm_10 rfl (lv_at hl 0 rfl) ?_
  refine lv_bipush (v := 40) hx hb dP_roundsTerm_11 (by decide) ?_
  refine x_calli (x_runV (n := 1) (As := [.int 40]) (rest := []) ⟨hx, hb, hml, hown, hts⟩ (cP_take l D tys A ws_3 cI hI ad k T ((pAdv st)) 40 (by decide) hp) tw_354 tw_356 ts_P_take tw_4 tw_357 (by decide +kernel) rfl rfl (xR_ok (by omega) (by omega)) ⟨Nat.zero_le _, Nat.zero_le _⟩ (va_recv hK hP (ci := 1) (q0 := k) rfl q_80) hK hP hD hS hA hN rfl hl.1 rfl (lv_room (Nat.le_of_ble_eq_true rfl)) dP_roundsTerm_13) hS (fun rb_10 ws_11 H locs hb_9 hP hD hS => ?_)
  obtain ⟨hb_9, hF9, hp⟩ := hb_9
  have hF := hF.tr hF9
  obtain ⟨q_120, q_12t, q_12p, q_12s, q_12a⟩ := id hp
  obtain ⟨fsTq_12, htoq_12⟩ := q_12t.obj
  obtain ⟨fsPq_12, hpoq_12⟩ := q_12p.obj
  refine lv_if_eq (tgt := 27) hx hb dP_roundsTerm_16 (by decide) (fun c16 => ?_) (fun c16 => ?_)
  · refine lv_iconst (v := 0) hx hb dP_roundsTerm_27 (by decide) ?_
    exact x_zret hx hb hr rfl hlk hK hP hD hS dP_roundsTerm_28 ⟨(by have nc16 : ¬ (pTake T 40 ((pAdv st))).1 = true := (by have q := b2i_0.mp (by rw [← hb_9]; exact c16); rw [q]; decide); unfold pRounds; rw [if_neg nc16]; rfl), hF, (by have nc16 : ¬ (pTake T 40 ((pAdv st))).1 = true := (by have q := b2i_0.mp (by rw [← hb_9]; exact c16); rw [q]; decide); unfold pRounds; rw [if_neg nc16]; exact hp)⟩
  · refine lv_aload_n hx hb dP_roundsTerm_19 rfl (lv_at hl 0 rfl) ?_
    refine lv_iload_n hx hb dP_roundsTerm_20 rfl (lv_at hl 2 rfl) ?_
    refine x_calli (x_runV (n := 1) (As := [.int (nI (12 - d))]) (rest := []) ⟨hx, hb, hml, hown, hts⟩ (HS ws_11 ((pTake T 40 ((pAdv st))).2) hp) tw_321 tw_323 ts_P_sum tw_4 tw_324 (by decide +kernel) rfl rfl (xR_ok (by omega) (by omega)) ⟨Nat.zero_le _, Nat.zero_le _⟩ (va_recv hK hP (ci := 1) (q0 := k) rfl q_120) hK hP hD hS hA hN rfl hl.1 rfl (lv_room (Nat.le_of_ble_eq_true rfl)) dP_roundsTerm_21) hS (fun rb_14 ws_15 H locs hb_13 hP hD hS => ?_)
    obtain ⟨hb_13, hF9, hp⟩ := hb_13
    have hF := hF.tr hF9
    obtain ⟨q_160, q_16t, q_16p, q_16s, q_16a⟩ := id hp
    obtain ⟨fsTq_16, htoq_16⟩ := q_16t.obj
    obtain ⟨fsPq_16, hpoq_16⟩ := q_16p.obj
    refine lv_if_ne (tgt := 29) hx hb dP_roundsTerm_24 (by decide) (fun c24 => ?_) (fun c24 => ?_)
    · refine lv_bipush (v := 30) hx hb dP_roundsTerm_29 (by decide) ?_
      refine lv_istore_n (lv' := [(3, .int 30), (0, .ref (ad k)), (1, .int kk), (2, .int (nI (12 - d)))]) hx hb dP_roundsTerm_31 rfl hl (by decide) rfl (fun ls hl => ?_)
      refine lv_aload_n hx hb dP_roundsTerm_32 rfl (lv_at hl 1 rfl) ?_
      refine lv_bipush (v := 44) hx hb dP_roundsTerm_33 (by decide) ?_
      refine x_calli (x_runV (n := 1) (As := [.int 44]) (rest := []) ⟨hx, hb, hml, hown, hts⟩ (cP_take l D tys A ws_15 cI hI ad k T ((pSum T (pTerm T d) ((pTake T 40 ((pAdv st))).2)).2) 44 (by decide) hp) tw_354 tw_356 ts_P_take tw_4 tw_357 (by decide +kernel) rfl rfl (xR_ok (by omega) (by omega)) ⟨Nat.zero_le _, Nat.zero_le _⟩ (va_recv hK hP (ci := 1) (q0 := k) rfl q_160) hK hP hD hS hA hN rfl hl.1 rfl (lv_room (Nat.le_of_ble_eq_true rfl)) dP_roundsTerm_35) hS (fun rb_18 ws_19 H locs hb_17 hP hD hS => ?_)
      obtain ⟨hb_17, hF9, hp⟩ := hb_17
      have hF := hF.tr hF9
      obtain ⟨q_200, q_20t, q_20p, q_20s, q_20a⟩ := id hp
      obtain ⟨fsTq_20, htoq_20⟩ := q_20t.obj
      obtain ⟨fsPq_20, hpoq_20⟩ := q_20p.obj
      refine lv_if_eq (tgt := 63) hx hb dP_roundsTerm_38 (by decide) (fun c38 => ?_) (fun c38 => ?_)
      · refine lv_aload_n hx hb dP_roundsTerm_63 rfl (lv_at hl 1 rfl) ?_
        refine lv_iload_n hx hb dP_roundsTerm_64 rfl (lv_at hl 2 rfl) ?_
        refine lv_iload_n hx hb dP_roundsTerm_65 rfl (lv_at hl 0 rfl) ?_
        refine x_callv (x_runV (n := 2) (As := [.int kk, .int 30]) (rest := []) ⟨hx, hb, hml, hown, hts⟩ (cP_emit l D tys A ws_19 cI hI ad k T ((pTake T 44 ((pSum T (pTerm T d) ((pTake T 40 ((pAdv st))).2)).2)).2) kk 30 hp) tw_337 tw_339 ts_P_emit tw_4 tw_340 (by decide +kernel) rfl rfl (xR_ok (by omega) (by omega)) ⟨Nat.zero_le _, Nat.zero_le _⟩ (va_recv hK hP (ci := 1) (q0 := k) rfl q_200) hK hP hD hS hA hN rfl hl.1 rfl (lv_room (Nat.le_of_ble_eq_true rfl)) dP_roundsTerm_66) hS (fun ws_22 H locs hv_21 hP hD hS => ?_)
        obtain ⟨hF9, hp⟩ := hv_21
        have hF := hF.tr hF9
        obtain ⟨q_230, q_23t, q_23p, q_23s, q_23a⟩ := id hp
        obtain ⟨fsTq_23, htoq_23⟩ := q_23t.obj
        obtain ⟨fsPq_23, hpoq_23⟩ := q_23p.obj
        refine lv_aload_n hx hb dP_roundsTerm_69 rfl (lv_at hl 1 rfl) ?_
        refine lv_bipush (v := 41) hx hb dP_roundsTerm_70 (by decide) ?_
        refine x_calli (x_runV (n := 1) (As := [.int 41]) (rest := []) ⟨hx, hb, hml, hown, hts⟩ (cP_take l D tys A ws_22 cI hI ad k T ((pEmit T kk 30 ((pTake T 44 ((pSum T (pTerm T d) ((pTake T 40 ((pAdv st))).2)).2)).2))) 41 (by decide) hp) tw_354 tw_356 ts_P_take tw_4 tw_357 (by decide +kernel) rfl rfl (xR_ok (by omega) (by omega)) ⟨Nat.zero_le _, Nat.zero_le _⟩ (va_recv hK hP (ci := 1) (q0 := k) rfl q_230) hK hP hD hS hA hN rfl hl.1 rfl (lv_room (Nat.le_of_ble_eq_true rfl)) dP_roundsTerm_72) hS (fun rb_25 ws_26 H locs hb_24 hP hD hS => ?_)
        obtain ⟨hb_24, hF9, hp⟩ := hb_24
        have hF := hF.tr hF9
        obtain ⟨q_270, q_27t, q_27p, q_27s, q_27a⟩ := id hp
        obtain ⟨fsTq_27, htoq_27⟩ := q_27t.obj
        obtain ⟨fsPq_27, hpoq_27⟩ := q_27p.obj
        exact x_zret hx hb hr (by rw [hb_24]; exact b2i_nar _) hlk hK hP hD hS dP_roundsTerm_75 ⟨(by have nc16 : (pTake T 40 ((pAdv st))).1 = true := b2i_n0.mp (by rw [← hb_9]; exact c16); have nc24 : (pSum T (pTerm T d) ((pTake T 40 ((pAdv st))).2)).1 = true := b2i_n0.mp (by rw [← hb_13]; exact c24); have nc38 : ¬ (pTake T 44 ((pSum T (pTerm T d) ((pTake T 40 ((pAdv st))).2)).2)).1 = true := (by have q := b2i_0.mp (by rw [← hb_17]; exact c38); rw [q]; decide); unfold pRounds; rw [if_pos nc16, if_pos nc24, if_neg nc38]; unfold pEnd; exact hb_24), hF, (by have nc16 : (pTake T 40 ((pAdv st))).1 = true := b2i_n0.mp (by rw [← hb_9]; exact c16); have nc24 : (pSum T (pTerm T d) ((pTake T 40 ((pAdv st))).2)).1 = true := b2i_n0.mp (by rw [← hb_13]; exact c24); have nc38 : ¬ (pTake T 44 ((pSum T (pTerm T d) ((pTake T 40 ((pAdv st))).2)).2)).1 = true := (by have q := b2i_0.mp (by rw [← hb_17]; exact c38); rw [q]; decide); unfold pRounds; rw [if_pos nc16, if_pos nc24, if_neg nc38]; unfold pEnd; exact hp)⟩
      · refine lv_aload_n hx hb dP_roundsTerm_41 rfl (lv_at hl 1 rfl) ?_
        refine va_get (D := D) (cl := xCl) (ci := 1) (v := .ref (ad (k + 1))) (C := rnP) (T := tbP) (N := 5) hx hb hts inP hown hK hP k q_200 rfl 0 (by decide) (hts _ tw_97) (fun _ h9 => h9) rfl dP_roundsTerm_42 ?_
        refine lv_aload_n hx hb dP_roundsTerm_45 rfl (lv_at hl 1 rfl) ?_
        refine va_get (D := D) (cl := xCl) (ci := 1) (v := .int (nI ((pTake T 44 ((pSum T (pTerm T d) ((pTake T 40 ((pAdv st))).2)).2)).2).1)) (C := rnP) (T := tbP) (N := 5) hx hb hts inP hown hK hP k q_200 rfl 3 (by decide) (hts _ tw_100) (fun _ h9 => h9) rfl dP_roundsTerm_46 ?_
        refine x_calli (x_runV (n := 1) (As := [.int (nI ((pTake T 44 ((pSum T (pTerm T d) ((pTake T 40 ((pAdv st))).2)).2)).2).1)]) (rest := []) ⟨hx, hb, hml, hown, hts⟩ (cT_valueAt l D tys A ws_19 cI hI ad (k + 1) T ((nI ((pTake T 44 ((pSum T (pTerm T d) ((pTake T 40 ((pAdv st))).2)).2)).2).1)) q_20t) tw_333 tw_334 tw_335 tw_5 tw_336 (by decide +kernel) rfl rfl (xR_ok (by omega) (by omega)) ⟨Nat.zero_le _, Nat.zero_le _⟩ (va_recv hK hP (ci := 4) (q0 := k + 1) rfl htoq_20) hK hP hD hS hA hN rfl hl.1 rfl (lv_room (Nat.le_of_ble_eq_true rfl)) dP_roundsTerm_49) hS (fun rvl ws_28 H locs hvl hP hD hS => ?_)
        obtain ⟨hvl, rfl⟩ := hvl
        rw [hp.tk] at hvl
        refine lv_istore_n (lv' := [(3, .int rvl), (0, .ref (ad k)), (1, .int kk), (2, .int (nI (12 - d)))]) hx hb dP_roundsTerm_52 rfl hl (by decide) rfl (fun ls hl => ?_)
        refine lv_aload_n hx hb dP_roundsTerm_53 rfl (lv_at hl 1 rfl) ?_
        refine lv_iconst (v := 4) hx hb dP_roundsTerm_54 (by decide) ?_
        refine x_calli (x_runV (n := 1) (As := [.int 4]) (rest := []) ⟨hx, hb, hml, hown, hts⟩ (cP_take l D tys A ws_19 cI hI ad k T ((pTake T 44 ((pSum T (pTerm T d) ((pTake T 40 ((pAdv st))).2)).2)).2) 4 (by decide) hp) tw_354 tw_356 ts_P_take tw_4 tw_357 (by decide +kernel) rfl rfl (xR_ok (by omega) (by omega)) ⟨Nat.zero_le _, Nat.zero_le _⟩ (va_recv hK hP (ci := 1) (q0 := k) rfl q_200) hK hP hD hS hA hN rfl hl.1 rfl (lv_room (Nat.le_of_ble_eq_true rfl)) dP_roundsTerm_55) hS (fun rb_30 ws_31 H locs hb_29 hP hD hS => ?_)
        obtain ⟨hb_29, hF9, hp⟩ := hb_29
        have hF := hF.tr hF9
        obtain ⟨q_320, q_32t, q_32p, q_32s, q_32a⟩ := id hp
        obtain ⟨fsTq_32, htoq_32⟩ := q_32t.obj
        obtain ⟨fsPq_32, hpoq_32⟩ := q_32p.obj
        refine lv_if_ne (tgt := 63) hx hb dP_roundsTerm_58 (by decide) (fun c58 => ?_) (fun c58 => ?_)
        · refine lv_aload_n hx hb dP_roundsTerm_63 rfl (lv_at hl 1 rfl) ?_
          refine lv_iload_n hx hb dP_roundsTerm_64 rfl (lv_at hl 2 rfl) ?_
          refine lv_iload_n hx hb dP_roundsTerm_65 rfl (lv_at hl 0 rfl) ?_
          refine x_callv (x_runV (n := 2) (As := [.int kk, .int rvl]) (rest := []) ⟨hx, hb, hml, hown, hts⟩ (cP_emit l D tys A ws_31 cI hI ad k T ((pTake T 4 ((pTake T 44 ((pSum T (pTerm T d) ((pTake T 40 ((pAdv st))).2)).2)).2)).2) kk rvl hp) tw_337 tw_339 ts_P_emit tw_4 tw_340 (by decide +kernel) rfl rfl (xR_ok (by omega) (by omega)) ⟨Nat.zero_le _, Nat.zero_le _⟩ (va_recv hK hP (ci := 1) (q0 := k) rfl q_320) hK hP hD hS hA hN rfl hl.1 rfl (lv_room (Nat.le_of_ble_eq_true rfl)) dP_roundsTerm_66) hS (fun ws_34 H locs hv_33 hP hD hS => ?_)
          obtain ⟨hF9, hp⟩ := hv_33
          have hF := hF.tr hF9
          obtain ⟨q_350, q_35t, q_35p, q_35s, q_35a⟩ := id hp
          obtain ⟨fsTq_35, htoq_35⟩ := q_35t.obj
          obtain ⟨fsPq_35, hpoq_35⟩ := q_35p.obj
          refine lv_aload_n hx hb dP_roundsTerm_69 rfl (lv_at hl 1 rfl) ?_
          refine lv_bipush (v := 41) hx hb dP_roundsTerm_70 (by decide) ?_
          refine x_calli (x_runV (n := 1) (As := [.int 41]) (rest := []) ⟨hx, hb, hml, hown, hts⟩ (cP_take l D tys A ws_34 cI hI ad k T ((pEmit T kk rvl ((pTake T 4 ((pTake T 44 ((pSum T (pTerm T d) ((pTake T 40 ((pAdv st))).2)).2)).2)).2))) 41 (by decide) hp) tw_354 tw_356 ts_P_take tw_4 tw_357 (by decide +kernel) rfl rfl (xR_ok (by omega) (by omega)) ⟨Nat.zero_le _, Nat.zero_le _⟩ (va_recv hK hP (ci := 1) (q0 := k) rfl q_350) hK hP hD hS hA hN rfl hl.1 rfl (lv_room (Nat.le_of_ble_eq_true rfl)) dP_roundsTerm_72) hS (fun rb_37 ws_38 H locs hb_36 hP hD hS => ?_)
          obtain ⟨hb_36, hF9, hp⟩ := hb_36
          have hF := hF.tr hF9
          obtain ⟨q_390, q_39t, q_39p, q_39s, q_39a⟩ := id hp
          obtain ⟨fsTq_39, htoq_39⟩ := q_39t.obj
          obtain ⟨fsPq_39, hpoq_39⟩ := q_39p.obj
          exact x_zret hx hb hr (by rw [hb_36]; exact b2i_nar _) hlk hK hP hD hS dP_roundsTerm_75 ⟨(by have nc16 : (pTake T 40 ((pAdv st))).1 = true := b2i_n0.mp (by rw [← hb_9]; exact c16); have nc24 : (pSum T (pTerm T d) ((pTake T 40 ((pAdv st))).2)).1 = true := b2i_n0.mp (by rw [← hb_13]; exact c24); have nc38 : (pTake T 44 ((pSum T (pTerm T d) ((pTake T 40 ((pAdv st))).2)).2)).1 = true := b2i_n0.mp (by rw [← hb_17]; exact c38); have nc58 : (pTake T 4 ((pTake T 44 ((pSum T (pTerm T d) ((pTake T 40 ((pAdv st))).2)).2)).2)).1 = true := b2i_n0.mp (by rw [← hb_29]; exact c58); unfold pRounds; rw [if_pos nc16, if_pos nc24, if_pos nc38, if_pos nc58, ← hvl]; unfold pEnd; exact hb_36), hF, (by have nc16 : (pTake T 40 ((pAdv st))).1 = true := b2i_n0.mp (by rw [← hb_9]; exact c16); have nc24 : (pSum T (pTerm T d) ((pTake T 40 ((pAdv st))).2)).1 = true := b2i_n0.mp (by rw [← hb_13]; exact c24); have nc38 : (pTake T 44 ((pSum T (pTerm T d) ((pTake T 40 ((pAdv st))).2)).2)).1 = true := b2i_n0.mp (by rw [← hb_17]; exact c38); have nc58 : (pTake T 4 ((pTake T 44 ((pSum T (pTerm T d) ((pTake T 40 ((pAdv st))).2)).2)).2)).1 = true := b2i_n0.mp (by rw [← hb_29]; exact c58); unfold pRounds; rw [if_pos nc16, if_pos nc24, if_pos nc38, if_pos nc58, ← hvl]; unfold pEnd; exact hp)⟩
        · refine lv_iconst (v := 0) hx hb dP_roundsTerm_61 (by decide) ?_
          exact x_zret hx hb hr rfl hlk hK hP hD hS dP_roundsTerm_62 ⟨(by have nc16 : (pTake T 40 ((pAdv st))).1 = true := b2i_n0.mp (by rw [← hb_9]; exact c16); have nc24 : (pSum T (pTerm T d) ((pTake T 40 ((pAdv st))).2)).1 = true := b2i_n0.mp (by rw [← hb_13]; exact c24); have nc38 : (pTake T 44 ((pSum T (pTerm T d) ((pTake T 40 ((pAdv st))).2)).2)).1 = true := b2i_n0.mp (by rw [← hb_17]; exact c38); have nc58 : ¬ (pTake T 4 ((pTake T 44 ((pSum T (pTerm T d) ((pTake T 40 ((pAdv st))).2)).2)).2)).1 = true := (by have q := b2i_0.mp (by rw [← hb_29]; exact c58); rw [q]; decide); unfold pRounds; rw [if_pos nc16, if_pos nc24, if_pos nc38, if_neg nc58]; rfl), hF, (by have nc16 : (pTake T 40 ((pAdv st))).1 = true := b2i_n0.mp (by rw [← hb_9]; exact c16); have nc24 : (pSum T (pTerm T d) ((pTake T 40 ((pAdv st))).2)).1 = true := b2i_n0.mp (by rw [← hb_13]; exact c24); have nc38 : (pTake T 44 ((pSum T (pTerm T d) ((pTake T 40 ((pAdv st))).2)).2)).1 = true := b2i_n0.mp (by rw [← hb_17]; exact c38); have nc58 : ¬ (pTake T 4 ((pTake T 44 ((pSum T (pTerm T d) ((pTake T 40 ((pAdv st))).2)).2)).2)).1 = true := (by have q := b2i_0.mp (by rw [← hb_29]; exact c58); rw [q]; decide); unfold pRounds; rw [if_pos nc16, if_pos nc24, if_pos nc38, if_neg nc58]; exact hp)⟩
    · refine lv_iconst (v := 0) hx hb dP_roundsTerm_27 (by decide) ?_
      exact x_zret hx hb hr rfl hlk hK hP hD hS dP_roundsTerm_28 ⟨(by have nc16 : (pTake T 40 ((pAdv st))).1 = true := b2i_n0.mp (by rw [← hb_9]; exact c16); have nc24 : ¬ (pSum T (pTerm T d) ((pTake T 40 ((pAdv st))).2)).1 = true := (by have q := b2i_0.mp (by rw [← hb_13]; exact c24); rw [q]; decide); unfold pRounds; rw [if_pos nc16, if_neg nc24]; rfl), hF, (by have nc16 : (pTake T 40 ((pAdv st))).1 = true := b2i_n0.mp (by rw [← hb_9]; exact c16); have nc24 : ¬ (pSum T (pTerm T d) ((pTake T 40 ((pAdv st))).2)).1 = true := (by have q := b2i_0.mp (by rw [← hb_13]; exact c24); rw [q]; decide); unfold pRounds; rw [if_pos nc16, if_neg nc24]; exact hp)⟩

set_option maxHeartbeats 4000000 in
set_option maxRecDepth 100000 in
/-- Parser.plainTerm(kind, within) -/
theorem cP_plainTerm (l : Launch) (D : va_G) (tys : List (ClassId × FieldType)) (A : Nat → Prop) (cI : ClassId) (hI : tys[0]? = some (cI, .int)) (ad : Nat → Nat) (k : Nat) (T : List Tok) (d : Nat) (HS : SumC l D tys A cI ad k T d) (hd : d < 12) (ws : va_W) (st : PSt) (kk : Int32) (hkn : ¬ (tkAt T st).1 = 0) (hp : ParserAt cI ad ws k T st) : x_Mi l yP_plainTerm wP_plainTerm (xR (3 * d + 4)) D xCl tys A [.ref (ad k), .int kk, .int (nI (12 - d))] ws (fun r ws1 => r = b2i (pPlain T (pSum T (pTerm T d)) kk st).1 ∧ x_fr k (k + 10) ws ws1 ∧ ParserAt cI ad ws1 k T (pPlain T (pSum T (pTerm T d)) kk st).2) := by
  have hF : x_fr k (k + 10) ws ws := x_fr.rf
  obtain ⟨q0, qt, qp, qs, qa⟩ := id hp
  obtain ⟨fsTq, htoq⟩ := qt.obj
  obtain ⟨fsPq, hpoq⟩ := qp.obj
  refine x_enter (by decide) rfl (Nat.le_of_ble_eq_true rfl) (fun p e s m args below meth c ls hx hb hr hlk hml hown hnm hts hK hP hD hS hA hN hl => ?_)
  have hl : lv_has ls 3 [(0, .ref (ad k)), (1, .int kk), (2, .int (nI (12 - d)))] := hl
  refine lv_aload_n hx hb dP_plainTerm_0 rfl (lv_at hl 0 rfl) ?_
  refine lv_dup hx hb dP_plainTerm_1 rfl ?_
  refine va_get (D := D) (cl := xCl) (ci := 1) (v := .int (nI st.1)) (C := rnP) (T := tbP) (N := 5) hx hb hts inP hown hK hP k q0 rfl 3 (by decide) (hts _ tw_100) (fun _ h9 => h9) rfl dP_plainTerm_2 ?_
  refine lv_iconst (v := 1) hx hb dP_plainTerm_5 (by decide) ?_
  refine lv_iadd hx hb dP_plainTerm_6 ?_
  refine lv_topi (fun v_1 ev_1 => ?_)
  refine va_put (D := D) (cl := xCl) (ci := 1) (v := .int v_1) (ty := .int) (C := rnP) (T := tbP) (N := 5) hx hb hts inP tyP toP nmP hown hK hP hD hS k q0 rfl 3 (by decide) (hts _ tw_100) (fun _ h9 => h9) rfl (by decide +kernel) rfl rfl (Nat.le_of_ble_eq_true rfl) dP_plainTerm_7 (fun H locs hP hD hS => ?_)
  obtain ⟨ws_3, hu_2, hP, hD⟩ := x_gen q0 hP hD
  have h_4 : ws_3[k]? = some (ad k, .inr (1, [.ref (ad (k + 1)), .ref (ad (k + 5)), .ref (ad (k + 9)), .int v_1, .int (nI st.2.2.2)])) := hu_2.1
  have h_5 := (hu_2.2 (k + 1) (by omega)).trans htoq
  have h_6 := (hu_2.2 (k + 5) (by omega)).trans hpoq
  have h_7 := (hu_2.2 (k + 9) (by omega)).trans qs
  have hp := hp.adv hu_2 ev_1 (hkn)
  have hF := hF.tr (hu_2.fr (a := k) (b := k + 10) (by omega) (by omega))
  obtain ⟨q_80, q_8t, q_8p, q_8s, q_8a⟩ := id hp
  obtain ⟨fsTq_8, htoq_8⟩ := q_8t.obj
  obtain ⟨fsPq_8, hpoq_8⟩ := q_8p.obj
  refine lv_aload_n hx hb dP_plainTerm_10 rfl (lv_at hl 0 rfl) ?_
  refine lv_bipush (v := 40) hx hb dP_plainTerm_11 (by decide) ?_
  refine x_calli (x_runV (n := 1) (As := [.int 40]) (rest := []) ⟨hx, hb, hml, hown, hts⟩ (cP_take l D tys A ws_3 cI hI ad k T ((pAdv st)) 40 (by decide) hp) tw_354 tw_356 ts_P_take tw_4 tw_357 (by decide +kernel) rfl rfl (xR_ok (by omega) (by omega)) ⟨Nat.zero_le _, Nat.zero_le _⟩ (va_recv hK hP (ci := 1) (q0 := k) rfl q_80) hK hP hD hS hA hN rfl hl.1 rfl (lv_room (Nat.le_of_ble_eq_true rfl)) dP_plainTerm_13) hS (fun rb_10 ws_11 H locs hb_9 hP hD hS => ?_)
  obtain ⟨hb_9, hF9, hp⟩ := hb_9
  have hF := hF.tr hF9
  obtain ⟨q_120, q_12t, q_12p, q_12s, q_12a⟩ := id hp
  obtain ⟨fsTq_12, htoq_12⟩ := q_12t.obj
  obtain ⟨fsPq_12, hpoq_12⟩ := q_12p.obj
  refine lv_if_eq (tgt := 27) hx hb dP_plainTerm_16 (by decide) (fun c16 => ?_) (fun c16 => ?_)
  · refine lv_iconst (v := 0) hx hb dP_plainTerm_27 (by decide) ?_
    exact x_zret hx hb hr rfl hlk hK hP hD hS dP_plainTerm_28 ⟨(by have nc16 : ¬ (pTake T 40 ((pAdv st))).1 = true := (by have q := b2i_0.mp (by rw [← hb_9]; exact c16); rw [q]; decide); unfold pPlain; rw [if_neg nc16]; rfl), hF, (by have nc16 : ¬ (pTake T 40 ((pAdv st))).1 = true := (by have q := b2i_0.mp (by rw [← hb_9]; exact c16); rw [q]; decide); unfold pPlain; rw [if_neg nc16]; exact hp)⟩
  · refine lv_aload_n hx hb dP_plainTerm_19 rfl (lv_at hl 0 rfl) ?_
    refine lv_iload_n hx hb dP_plainTerm_20 rfl (lv_at hl 2 rfl) ?_
    refine x_calli (x_runV (n := 1) (As := [.int (nI (12 - d))]) (rest := []) ⟨hx, hb, hml, hown, hts⟩ (HS ws_11 ((pTake T 40 ((pAdv st))).2) hp) tw_321 tw_323 ts_P_sum tw_4 tw_324 (by decide +kernel) rfl rfl (xR_ok (by omega) (by omega)) ⟨Nat.zero_le _, Nat.zero_le _⟩ (va_recv hK hP (ci := 1) (q0 := k) rfl q_120) hK hP hD hS hA hN rfl hl.1 rfl (lv_room (Nat.le_of_ble_eq_true rfl)) dP_plainTerm_21) hS (fun rb_14 ws_15 H locs hb_13 hP hD hS => ?_)
    obtain ⟨hb_13, hF9, hp⟩ := hb_13
    have hF := hF.tr hF9
    obtain ⟨q_160, q_16t, q_16p, q_16s, q_16a⟩ := id hp
    obtain ⟨fsTq_16, htoq_16⟩ := q_16t.obj
    obtain ⟨fsPq_16, hpoq_16⟩ := q_16p.obj
    refine lv_if_ne (tgt := 29) hx hb dP_plainTerm_24 (by decide) (fun c24 => ?_) (fun c24 => ?_)
    · refine lv_aload_n hx hb dP_plainTerm_29 rfl (lv_at hl 0 rfl) ?_
      refine lv_iload_n hx hb dP_plainTerm_30 rfl (lv_at hl 1 rfl) ?_
      refine lv_iconst (v := 0) hx hb dP_plainTerm_31 (by decide) ?_
      refine x_callv (x_runV (n := 2) (As := [.int kk, .int 0]) (rest := []) ⟨hx, hb, hml, hown, hts⟩ (cP_emit l D tys A ws_15 cI hI ad k T ((pSum T (pTerm T d) ((pTake T 40 ((pAdv st))).2)).2) kk 0 hp) tw_337 tw_339 ts_P_emit tw_4 tw_340 (by decide +kernel) rfl rfl (xR_ok (by omega) (by omega)) ⟨Nat.zero_le _, Nat.zero_le _⟩ (va_recv hK hP (ci := 1) (q0 := k) rfl q_160) hK hP hD hS hA hN rfl hl.1 rfl (lv_room (Nat.le_of_ble_eq_true rfl)) dP_plainTerm_32) hS (fun ws_18 H locs hv_17 hP hD hS => ?_)
      obtain ⟨hF9, hp⟩ := hv_17
      have hF := hF.tr hF9
      obtain ⟨q_190, q_19t, q_19p, q_19s, q_19a⟩ := id hp
      obtain ⟨fsTq_19, htoq_19⟩ := q_19t.obj
      obtain ⟨fsPq_19, hpoq_19⟩ := q_19p.obj
      refine lv_aload_n hx hb dP_plainTerm_35 rfl (lv_at hl 0 rfl) ?_
      refine lv_bipush (v := 41) hx hb dP_plainTerm_36 (by decide) ?_
      refine x_calli (x_runV (n := 1) (As := [.int 41]) (rest := []) ⟨hx, hb, hml, hown, hts⟩ (cP_take l D tys A ws_18 cI hI ad k T ((pEmit T kk 0 ((pSum T (pTerm T d) ((pTake T 40 ((pAdv st))).2)).2))) 41 (by decide) hp) tw_354 tw_356 ts_P_take tw_4 tw_357 (by decide +kernel) rfl rfl (xR_ok (by omega) (by omega)) ⟨Nat.zero_le _, Nat.zero_le _⟩ (va_recv hK hP (ci := 1) (q0 := k) rfl q_190) hK hP hD hS hA hN rfl hl.1 rfl (lv_room (Nat.le_of_ble_eq_true rfl)) dP_plainTerm_38) hS (fun rb_21 ws_22 H locs hb_20 hP hD hS => ?_)
      obtain ⟨hb_20, hF9, hp⟩ := hb_20
      have hF := hF.tr hF9
      obtain ⟨q_230, q_23t, q_23p, q_23s, q_23a⟩ := id hp
      obtain ⟨fsTq_23, htoq_23⟩ := q_23t.obj
      obtain ⟨fsPq_23, hpoq_23⟩ := q_23p.obj
      exact x_zret hx hb hr (by rw [hb_20]; exact b2i_nar _) hlk hK hP hD hS dP_plainTerm_41 ⟨(by have nc16 : (pTake T 40 ((pAdv st))).1 = true := b2i_n0.mp (by rw [← hb_9]; exact c16); have nc24 : (pSum T (pTerm T d) ((pTake T 40 ((pAdv st))).2)).1 = true := b2i_n0.mp (by rw [← hb_13]; exact c24); unfold pPlain; rw [if_pos nc16, if_pos nc24]; unfold pEnd; exact hb_20), hF, (by have nc16 : (pTake T 40 ((pAdv st))).1 = true := b2i_n0.mp (by rw [← hb_9]; exact c16); have nc24 : (pSum T (pTerm T d) ((pTake T 40 ((pAdv st))).2)).1 = true := b2i_n0.mp (by rw [← hb_13]; exact c24); unfold pPlain; rw [if_pos nc16, if_pos nc24]; unfold pEnd; exact hp)⟩
    · refine lv_iconst (v := 0) hx hb dP_plainTerm_27 (by decide) ?_
      exact x_zret hx hb hr rfl hlk hK hP hD hS dP_plainTerm_28 ⟨(by have nc16 : (pTake T 40 ((pAdv st))).1 = true := b2i_n0.mp (by rw [← hb_9]; exact c16); have nc24 : ¬ (pSum T (pTerm T d) ((pTake T 40 ((pAdv st))).2)).1 = true := (by have q := b2i_0.mp (by rw [← hb_13]; exact c24); rw [q]; decide); unfold pPlain; rw [if_pos nc16, if_neg nc24]; rfl), hF, (by have nc16 : (pTake T 40 ((pAdv st))).1 = true := b2i_n0.mp (by rw [← hb_9]; exact c16); have nc24 : ¬ (pSum T (pTerm T d) ((pTake T 40 ((pAdv st))).2)).1 = true := (by have q := b2i_0.mp (by rw [← hb_13]; exact c24); rw [q]; decide); unfold pPlain; rw [if_pos nc16, if_neg nc24]; exact hp)⟩

set_option maxHeartbeats 4000000 in
set_option maxRecDepth 100000 in
/-- Parser.wayTerm(within) -/
theorem cP_wayTerm (l : Launch) (D : va_G) (tys : List (ClassId × FieldType)) (A : Nat → Prop) (cI : ClassId) (hI : tys[0]? = some (cI, .int)) (ad : Nat → Nat) (k : Nat) (T : List Tok) (d : Nat) (HS : SumC l D tys A cI ad k T d) (hd : d < 12) (ws : va_W) (st : PSt) (hkn : ¬ (tkAt T st).1 = 0) (hp : ParserAt cI ad ws k T st) : x_Mi l yP_wayTerm wP_wayTerm (xR (3 * d + 4)) D xCl tys A [.ref (ad k), .int (nI (12 - d))] ws (fun r ws1 => r = b2i (pWay T (pSum T (pTerm T d)) st).1 ∧ x_fr k (k + 10) ws ws1 ∧ ParserAt cI ad ws1 k T (pWay T (pSum T (pTerm T d)) st).2) := by
  have hF : x_fr k (k + 10) ws ws := x_fr.rf
  obtain ⟨q0, qt, qp, qs, qa⟩ := id hp
  obtain ⟨fsTq, htoq⟩ := qt.obj
  obtain ⟨fsPq, hpoq⟩ := qp.obj
  refine x_enter (by decide) rfl (Nat.le_of_ble_eq_true rfl) (fun p e s m args below meth c ls hx hb hr hlk hml hown hnm hts hK hP hD hS hA hN hl => ?_)
  have hl : lv_has ls 2 [(0, .ref (ad k)), (1, .int (nI (12 - d)))] := hl
  refine lv_aload_n hx hb dP_wayTerm_0 rfl (lv_at hl 0 rfl) ?_
  refine lv_dup hx hb dP_wayTerm_1 rfl ?_
  refine va_get (D := D) (cl := xCl) (ci := 1) (v := .int (nI st.1)) (C := rnP) (T := tbP) (N := 5) hx hb hts inP hown hK hP k q0 rfl 3 (by decide) (hts _ tw_100) (fun _ h9 => h9) rfl dP_wayTerm_2 ?_
  refine lv_iconst (v := 1) hx hb dP_wayTerm_5 (by decide) ?_
  refine lv_iadd hx hb dP_wayTerm_6 ?_
  refine lv_topi (fun v_1 ev_1 => ?_)
  refine va_put (D := D) (cl := xCl) (ci := 1) (v := .int v_1) (ty := .int) (C := rnP) (T := tbP) (N := 5) hx hb hts inP tyP toP nmP hown hK hP hD hS k q0 rfl 3 (by decide) (hts _ tw_100) (fun _ h9 => h9) rfl (by decide +kernel) rfl rfl (Nat.le_of_ble_eq_true rfl) dP_wayTerm_7 (fun H locs hP hD hS => ?_)
  obtain ⟨ws_3, hu_2, hP, hD⟩ := x_gen q0 hP hD
  have h_4 : ws_3[k]? = some (ad k, .inr (1, [.ref (ad (k + 1)), .ref (ad (k + 5)), .ref (ad (k + 9)), .int v_1, .int (nI st.2.2.2)])) := hu_2.1
  have h_5 := (hu_2.2 (k + 1) (by omega)).trans htoq
  have h_6 := (hu_2.2 (k + 5) (by omega)).trans hpoq
  have h_7 := (hu_2.2 (k + 9) (by omega)).trans qs
  have hp := hp.adv hu_2 ev_1 (hkn)
  have hF := hF.tr (hu_2.fr (a := k) (b := k + 10) (by omega) (by omega))
  obtain ⟨q_80, q_8t, q_8p, q_8s, q_8a⟩ := id hp
  obtain ⟨fsTq_8, htoq_8⟩ := q_8t.obj
  obtain ⟨fsPq_8, hpoq_8⟩ := q_8p.obj
  refine lv_aload_n hx hb dP_wayTerm_10 rfl (lv_at hl 0 rfl) ?_
  refine lv_bipush (v := 40) hx hb dP_wayTerm_11 (by decide) ?_
  refine x_calli (x_runV (n := 1) (As := [.int 40]) (rest := []) ⟨hx, hb, hml, hown, hts⟩ (cP_take l D tys A ws_3 cI hI ad k T ((pAdv st)) 40 (by decide) hp) tw_354 tw_356 ts_P_take tw_4 tw_357 (by decide +kernel) rfl rfl (xR_ok (by omega) (by omega)) ⟨Nat.zero_le _, Nat.zero_le _⟩ (va_recv hK hP (ci := 1) (q0 := k) rfl q_80) hK hP hD hS hA hN rfl hl.1 rfl (lv_room (Nat.le_of_ble_eq_true rfl)) dP_wayTerm_13) hS (fun rb_10 ws_11 H locs hb_9 hP hD hS => ?_)
  obtain ⟨hb_9, hF9, hp⟩ := hb_9
  have hF := hF.tr hF9
  obtain ⟨q_120, q_12t, q_12p, q_12s, q_12a⟩ := id hp
  obtain ⟨fsTq_12, htoq_12⟩ := q_12t.obj
  obtain ⟨fsPq_12, hpoq_12⟩ := q_12p.obj
  refine lv_if_eq (tgt := 44) hx hb dP_wayTerm_16 (by decide) (fun c16 => ?_) (fun c16 => ?_)
  · refine lv_iconst (v := 0) hx hb dP_wayTerm_44 (by decide) ?_
    exact x_zret hx hb hr rfl hlk hK hP hD hS dP_wayTerm_45 ⟨(by have nc16 : ¬ (pTake T 40 ((pAdv st))).1 = true := (by have q := b2i_0.mp (by rw [← hb_9]; exact c16); rw [q]; decide); unfold pWay; rw [if_neg nc16]; rfl), hF, (by have nc16 : ¬ (pTake T 40 ((pAdv st))).1 = true := (by have q := b2i_0.mp (by rw [← hb_9]; exact c16); rw [q]; decide); unfold pWay; rw [if_neg nc16]; exact hp)⟩
  · refine lv_aload_n hx hb dP_wayTerm_19 rfl (lv_at hl 0 rfl) ?_
    refine lv_iload_n hx hb dP_wayTerm_20 rfl (lv_at hl 1 rfl) ?_
    refine x_calli (x_runV (n := 1) (As := [.int (nI (12 - d))]) (rest := []) ⟨hx, hb, hml, hown, hts⟩ (HS ws_11 ((pTake T 40 ((pAdv st))).2) hp) tw_321 tw_323 ts_P_sum tw_4 tw_324 (by decide +kernel) rfl rfl (xR_ok (by omega) (by omega)) ⟨Nat.zero_le _, Nat.zero_le _⟩ (va_recv hK hP (ci := 1) (q0 := k) rfl q_120) hK hP hD hS hA hN rfl hl.1 rfl (lv_room (Nat.le_of_ble_eq_true rfl)) dP_wayTerm_21) hS (fun rb_14 ws_15 H locs hb_13 hP hD hS => ?_)
    obtain ⟨hb_13, hF9, hp⟩ := hb_13
    have hF := hF.tr hF9
    obtain ⟨q_160, q_16t, q_16p, q_16s, q_16a⟩ := id hp
    obtain ⟨fsTq_16, htoq_16⟩ := q_16t.obj
    obtain ⟨fsPq_16, hpoq_16⟩ := q_16p.obj
    refine lv_if_eq (tgt := 44) hx hb dP_wayTerm_24 (by decide) (fun c24 => ?_) (fun c24 => ?_)
    · refine lv_iconst (v := 0) hx hb dP_wayTerm_44 (by decide) ?_
      exact x_zret hx hb hr rfl hlk hK hP hD hS dP_wayTerm_45 ⟨(by have nc16 : (pTake T 40 ((pAdv st))).1 = true := b2i_n0.mp (by rw [← hb_9]; exact c16); have nc24 : ¬ (pSum T (pTerm T d) ((pTake T 40 ((pAdv st))).2)).1 = true := (by have q := b2i_0.mp (by rw [← hb_13]; exact c24); rw [q]; decide); unfold pWay; rw [if_pos nc16, if_neg nc24]; rfl), hF, (by have nc16 : (pTake T 40 ((pAdv st))).1 = true := b2i_n0.mp (by rw [← hb_9]; exact c16); have nc24 : ¬ (pSum T (pTerm T d) ((pTake T 40 ((pAdv st))).2)).1 = true := (by have q := b2i_0.mp (by rw [← hb_13]; exact c24); rw [q]; decide); unfold pWay; rw [if_pos nc16, if_neg nc24]; exact hp)⟩
    · refine lv_aload_n hx hb dP_wayTerm_27 rfl (lv_at hl 0 rfl) ?_
      refine lv_bipush (v := 44) hx hb dP_wayTerm_28 (by decide) ?_
      refine x_calli (x_runV (n := 1) (As := [.int 44]) (rest := []) ⟨hx, hb, hml, hown, hts⟩ (cP_take l D tys A ws_15 cI hI ad k T ((pSum T (pTerm T d) ((pTake T 40 ((pAdv st))).2)).2) 44 (by decide) hp) tw_354 tw_356 ts_P_take tw_4 tw_357 (by decide +kernel) rfl rfl (xR_ok (by omega) (by omega)) ⟨Nat.zero_le _, Nat.zero_le _⟩ (va_recv hK hP (ci := 1) (q0 := k) rfl q_160) hK hP hD hS hA hN rfl hl.1 rfl (lv_room (Nat.le_of_ble_eq_true rfl)) dP_wayTerm_30) hS (fun rb_18 ws_19 H locs hb_17 hP hD hS => ?_)
      obtain ⟨hb_17, hF9, hp⟩ := hb_17
      have hF := hF.tr hF9
      obtain ⟨q_200, q_20t, q_20p, q_20s, q_20a⟩ := id hp
      obtain ⟨fsTq_20, htoq_20⟩ := q_20t.obj
      obtain ⟨fsPq_20, hpoq_20⟩ := q_20p.obj
      refine lv_if_eq (tgt := 44) hx hb dP_wayTerm_33 (by decide) (fun c33 => ?_) (fun c33 => ?_)
      · refine lv_iconst (v := 0) hx hb dP_wayTerm_44 (by decide) ?_
        exact x_zret hx hb hr rfl hlk hK hP hD hS dP_wayTerm_45 ⟨(by have nc16 : (pTake T 40 ((pAdv st))).1 = true := b2i_n0.mp (by rw [← hb_9]; exact c16); have nc24 : (pSum T (pTerm T d) ((pTake T 40 ((pAdv st))).2)).1 = true := b2i_n0.mp (by rw [← hb_13]; exact c24); have nc33 : ¬ (pTake T 44 ((pSum T (pTerm T d) ((pTake T 40 ((pAdv st))).2)).2)).1 = true := (by have q := b2i_0.mp (by rw [← hb_17]; exact c33); rw [q]; decide); unfold pWay; rw [if_pos nc16, if_pos nc24, if_neg nc33]; rfl), hF, (by have nc16 : (pTake T 40 ((pAdv st))).1 = true := b2i_n0.mp (by rw [← hb_9]; exact c16); have nc24 : (pSum T (pTerm T d) ((pTake T 40 ((pAdv st))).2)).1 = true := b2i_n0.mp (by rw [← hb_13]; exact c24); have nc33 : ¬ (pTake T 44 ((pSum T (pTerm T d) ((pTake T 40 ((pAdv st))).2)).2)).1 = true := (by have q := b2i_0.mp (by rw [← hb_17]; exact c33); rw [q]; decide); unfold pWay; rw [if_pos nc16, if_pos nc24, if_neg nc33]; exact hp)⟩
      · refine lv_aload_n hx hb dP_wayTerm_36 rfl (lv_at hl 0 rfl) ?_
        refine lv_iload_n hx hb dP_wayTerm_37 rfl (lv_at hl 1 rfl) ?_
        refine x_calli (x_runV (n := 1) (As := [.int (nI (12 - d))]) (rest := []) ⟨hx, hb, hml, hown, hts⟩ (HS ws_19 ((pTake T 44 ((pSum T (pTerm T d) ((pTake T 40 ((pAdv st))).2)).2)).2) hp) tw_321 tw_323 ts_P_sum tw_4 tw_324 (by decide +kernel) rfl rfl (xR_ok (by omega) (by omega)) ⟨Nat.zero_le _, Nat.zero_le _⟩ (va_recv hK hP (ci := 1) (q0 := k) rfl q_200) hK hP hD hS hA hN rfl hl.1 rfl (lv_room (Nat.le_of_ble_eq_true rfl)) dP_wayTerm_38) hS (fun rb_22 ws_23 H locs hb_21 hP hD hS => ?_)
        obtain ⟨hb_21, hF9, hp⟩ := hb_21
        have hF := hF.tr hF9
        obtain ⟨q_240, q_24t, q_24p, q_24s, q_24a⟩ := id hp
        obtain ⟨fsTq_24, htoq_24⟩ := q_24t.obj
        obtain ⟨fsPq_24, hpoq_24⟩ := q_24p.obj
        refine lv_if_ne (tgt := 46) hx hb dP_wayTerm_41 (by decide) (fun c41 => ?_) (fun c41 => ?_)
        · refine lv_aload_n hx hb dP_wayTerm_46 rfl (lv_at hl 0 rfl) ?_
          refine lv_bipush (v := 8) hx hb dP_wayTerm_47 (by decide) ?_
          refine lv_iconst (v := 0) hx hb dP_wayTerm_49 (by decide) ?_
          refine x_callv (x_runV (n := 2) (As := [.int 8, .int 0]) (rest := []) ⟨hx, hb, hml, hown, hts⟩ (cP_emit l D tys A ws_23 cI hI ad k T ((pSum T (pTerm T d) ((pTake T 44 ((pSum T (pTerm T d) ((pTake T 40 ((pAdv st))).2)).2)).2)).2) 8 0 hp) tw_337 tw_339 ts_P_emit tw_4 tw_340 (by decide +kernel) rfl rfl (xR_ok (by omega) (by omega)) ⟨Nat.zero_le _, Nat.zero_le _⟩ (va_recv hK hP (ci := 1) (q0 := k) rfl q_240) hK hP hD hS hA hN rfl hl.1 rfl (lv_room (Nat.le_of_ble_eq_true rfl)) dP_wayTerm_50) hS (fun ws_26 H locs hv_25 hP hD hS => ?_)
          obtain ⟨hF9, hp⟩ := hv_25
          have hF := hF.tr hF9
          obtain ⟨q_270, q_27t, q_27p, q_27s, q_27a⟩ := id hp
          obtain ⟨fsTq_27, htoq_27⟩ := q_27t.obj
          obtain ⟨fsPq_27, hpoq_27⟩ := q_27p.obj
          refine lv_aload_n hx hb dP_wayTerm_53 rfl (lv_at hl 0 rfl) ?_
          refine lv_bipush (v := 41) hx hb dP_wayTerm_54 (by decide) ?_
          refine x_calli (x_runV (n := 1) (As := [.int 41]) (rest := []) ⟨hx, hb, hml, hown, hts⟩ (cP_take l D tys A ws_26 cI hI ad k T ((pEmit T 8 0 ((pSum T (pTerm T d) ((pTake T 44 ((pSum T (pTerm T d) ((pTake T 40 ((pAdv st))).2)).2)).2)).2))) 41 (by decide) hp) tw_354 tw_356 ts_P_take tw_4 tw_357 (by decide +kernel) rfl rfl (xR_ok (by omega) (by omega)) ⟨Nat.zero_le _, Nat.zero_le _⟩ (va_recv hK hP (ci := 1) (q0 := k) rfl q_270) hK hP hD hS hA hN rfl hl.1 rfl (lv_room (Nat.le_of_ble_eq_true rfl)) dP_wayTerm_56) hS (fun rb_29 ws_30 H locs hb_28 hP hD hS => ?_)
          obtain ⟨hb_28, hF9, hp⟩ := hb_28
          have hF := hF.tr hF9
          obtain ⟨q_310, q_31t, q_31p, q_31s, q_31a⟩ := id hp
          obtain ⟨fsTq_31, htoq_31⟩ := q_31t.obj
          obtain ⟨fsPq_31, hpoq_31⟩ := q_31p.obj
          exact x_zret hx hb hr (by rw [hb_28]; exact b2i_nar _) hlk hK hP hD hS dP_wayTerm_59 ⟨(by have nc16 : (pTake T 40 ((pAdv st))).1 = true := b2i_n0.mp (by rw [← hb_9]; exact c16); have nc24 : (pSum T (pTerm T d) ((pTake T 40 ((pAdv st))).2)).1 = true := b2i_n0.mp (by rw [← hb_13]; exact c24); have nc33 : (pTake T 44 ((pSum T (pTerm T d) ((pTake T 40 ((pAdv st))).2)).2)).1 = true := b2i_n0.mp (by rw [← hb_17]; exact c33); have nc41 : (pSum T (pTerm T d) ((pTake T 44 ((pSum T (pTerm T d) ((pTake T 40 ((pAdv st))).2)).2)).2)).1 = true := b2i_n0.mp (by rw [← hb_21]; exact c41); unfold pWay; rw [if_pos nc16, if_pos nc24, if_pos nc33, if_pos nc41]; unfold pEnd; exact hb_28), hF, (by have nc16 : (pTake T 40 ((pAdv st))).1 = true := b2i_n0.mp (by rw [← hb_9]; exact c16); have nc24 : (pSum T (pTerm T d) ((pTake T 40 ((pAdv st))).2)).1 = true := b2i_n0.mp (by rw [← hb_13]; exact c24); have nc33 : (pTake T 44 ((pSum T (pTerm T d) ((pTake T 40 ((pAdv st))).2)).2)).1 = true := b2i_n0.mp (by rw [← hb_17]; exact c33); have nc41 : (pSum T (pTerm T d) ((pTake T 44 ((pSum T (pTerm T d) ((pTake T 40 ((pAdv st))).2)).2)).2)).1 = true := b2i_n0.mp (by rw [← hb_21]; exact c41); unfold pWay; rw [if_pos nc16, if_pos nc24, if_pos nc33, if_pos nc41]; unfold pEnd; exact hp)⟩
        · refine lv_iconst (v := 0) hx hb dP_wayTerm_44 (by decide) ?_
          exact x_zret hx hb hr rfl hlk hK hP hD hS dP_wayTerm_45 ⟨(by have nc16 : (pTake T 40 ((pAdv st))).1 = true := b2i_n0.mp (by rw [← hb_9]; exact c16); have nc24 : (pSum T (pTerm T d) ((pTake T 40 ((pAdv st))).2)).1 = true := b2i_n0.mp (by rw [← hb_13]; exact c24); have nc33 : (pTake T 44 ((pSum T (pTerm T d) ((pTake T 40 ((pAdv st))).2)).2)).1 = true := b2i_n0.mp (by rw [← hb_17]; exact c33); have nc41 : ¬ (pSum T (pTerm T d) ((pTake T 44 ((pSum T (pTerm T d) ((pTake T 40 ((pAdv st))).2)).2)).2)).1 = true := (by have q := b2i_0.mp (by rw [← hb_21]; exact c41); rw [q]; decide); unfold pWay; rw [if_pos nc16, if_pos nc24, if_pos nc33, if_neg nc41]; rfl), hF, (by have nc16 : (pTake T 40 ((pAdv st))).1 = true := b2i_n0.mp (by rw [← hb_9]; exact c16); have nc24 : (pSum T (pTerm T d) ((pTake T 40 ((pAdv st))).2)).1 = true := b2i_n0.mp (by rw [← hb_13]; exact c24); have nc33 : (pTake T 44 ((pSum T (pTerm T d) ((pTake T 40 ((pAdv st))).2)).2)).1 = true := b2i_n0.mp (by rw [← hb_17]; exact c33); have nc41 : ¬ (pSum T (pTerm T d) ((pTake T 44 ((pSum T (pTerm T d) ((pTake T 40 ((pAdv st))).2)).2)).2)).1 = true := (by have q := b2i_0.mp (by rw [← hb_21]; exact c41); rw [q]; decide); unfold pWay; rw [if_pos nc16, if_pos nc24, if_pos nc33, if_neg nc41]; exact hp)⟩

set_option maxHeartbeats 4000000 in
set_option maxRecDepth 100000 in
/-- Parser.kindTerm(within) -/
theorem cP_kindTerm (l : Launch) (D : va_G) (tys : List (ClassId × FieldType)) (A : Nat → Prop) (cI : ClassId) (hI : tys[0]? = some (cI, .int)) (ad : Nat → Nat) (k : Nat) (T : List Tok) (d : Nat) (HS : SumC l D tys A cI ad k T d) (hd : d < 12) (ws : va_W) (st : PSt) (hkn : ¬ (tkAt T st).1 = 0) (hp : ParserAt cI ad ws k T st) : x_Mi l yP_kindTerm wP_kindTerm (xR (3 * d + 4)) D xCl tys A [.ref (ad k), .int (nI (12 - d))] ws (fun r ws1 => r = b2i (pKind T (pSum T (pTerm T d)) st).1 ∧ x_fr k (k + 10) ws ws1 ∧ ParserAt cI ad ws1 k T (pKind T (pSum T (pTerm T d)) st).2) := by
  have hF : x_fr k (k + 10) ws ws := x_fr.rf
  obtain ⟨q0, qt, qp, qs, qa⟩ := id hp
  obtain ⟨fsTq, htoq⟩ := qt.obj
  obtain ⟨fsPq, hpoq⟩ := qp.obj
  refine x_enter (by decide) rfl (Nat.le_of_ble_eq_true rfl) (fun p e s m args below meth c ls hx hb hr hlk hml hown hnm hts hK hP hD hS hA hN hl => ?_)
  have hl : lv_has ls 3 [(0, .ref (ad k)), (1, .int (nI (12 - d)))] := hl
  refine lv_aload_n hx hb dP_kindTerm_0 rfl (lv_at hl 0 rfl) ?_
  refine lv_dup hx hb dP_kindTerm_1 rfl ?_
  refine va_get (D := D) (cl := xCl) (ci := 1) (v := .int (nI st.1)) (C := rnP) (T := tbP) (N := 5) hx hb hts inP hown hK hP k q0 rfl 3 (by decide) (hts _ tw_100) (fun _ h9 => h9) rfl dP_kindTerm_2 ?_
  refine lv_iconst (v := 1) hx hb dP_kindTerm_5 (by decide) ?_
  refine lv_iadd hx hb dP_kindTerm_6 ?_
  refine lv_topi (fun v_1 ev_1 => ?_)
  refine va_put (D := D) (cl := xCl) (ci := 1) (v := .int v_1) (ty := .int) (C := rnP) (T := tbP) (N := 5) hx hb hts inP tyP toP nmP hown hK hP hD hS k q0 rfl 3 (by decide) (hts _ tw_100) (fun _ h9 => h9) rfl (by decide +kernel) rfl rfl (Nat.le_of_ble_eq_true rfl) dP_kindTerm_7 (fun H locs hP hD hS => ?_)
  obtain ⟨ws_3, hu_2, hP, hD⟩ := x_gen q0 hP hD
  have h_4 : ws_3[k]? = some (ad k, .inr (1, [.ref (ad (k + 1)), .ref (ad (k + 5)), .ref (ad (k + 9)), .int v_1, .int (nI st.2.2.2)])) := hu_2.1
  have h_5 := (hu_2.2 (k + 1) (by omega)).trans htoq
  have h_6 := (hu_2.2 (k + 5) (by omega)).trans hpoq
  have h_7 := (hu_2.2 (k + 9) (by omega)).trans qs
  have hp := hp.adv hu_2 ev_1 (hkn)
  have hF := hF.tr (hu_2.fr (a := k) (b := k + 10) (by omega) (by omega))
  obtain ⟨q_80, q_8t, q_8p, q_8s, q_8a⟩ := id hp
  obtain ⟨fsTq_8, htoq_8⟩ := q_8t.obj
  obtain ⟨fsPq_8, hpoq_8⟩ := q_8p.obj
  refine lv_aload_n hx hb dP_kindTerm_10 rfl (lv_at hl 0 rfl) ?_
  refine lv_bipush (v := 40) hx hb dP_kindTerm_11 (by decide) ?_
  refine x_calli (x_runV (n := 1) (As := [.int 40]) (rest := []) ⟨hx, hb, hml, hown, hts⟩ (cP_take l D tys A ws_3 cI hI ad k T ((pAdv st)) 40 (by decide) hp) tw_354 tw_356 ts_P_take tw_4 tw_357 (by decide +kernel) rfl rfl (xR_ok (by omega) (by omega)) ⟨Nat.zero_le _, Nat.zero_le _⟩ (va_recv hK hP (ci := 1) (q0 := k) rfl q_80) hK hP hD hS hA hN rfl hl.1 rfl (lv_room (Nat.le_of_ble_eq_true rfl)) dP_kindTerm_13) hS (fun rb_10 ws_11 H locs hb_9 hP hD hS => ?_)
  obtain ⟨hb_9, hF9, hp⟩ := hb_9
  have hF := hF.tr hF9
  obtain ⟨q_120, q_12t, q_12p, q_12s, q_12a⟩ := id hp
  obtain ⟨fsTq_12, htoq_12⟩ := q_12t.obj
  obtain ⟨fsPq_12, hpoq_12⟩ := q_12p.obj
  refine lv_if_ne (tgt := 21) hx hb dP_kindTerm_16 (by decide) (fun c16 => ?_) (fun c16 => ?_)
  · refine lv_aload_n hx hb dP_kindTerm_21 rfl (lv_at hl 0 rfl) ?_
    refine va_get (D := D) (cl := xCl) (ci := 1) (v := .ref (ad (k + 1))) (C := rnP) (T := tbP) (N := 5) hx hb hts inP hown hK hP k q_120 rfl 0 (by decide) (hts _ tw_97) (fun _ h9 => h9) rfl dP_kindTerm_22 ?_
    refine lv_aload_n hx hb dP_kindTerm_25 rfl (lv_at hl 0 rfl) ?_
    refine va_get (D := D) (cl := xCl) (ci := 1) (v := .int (nI ((pTake T 40 ((pAdv st))).2).1)) (C := rnP) (T := tbP) (N := 5) hx hb hts inP hown hK hP k q_120 rfl 3 (by decide) (hts _ tw_100) (fun _ h9 => h9) rfl dP_kindTerm_26 ?_
    refine x_calli (x_runV (n := 1) (As := [.int (nI ((pTake T 40 ((pAdv st))).2).1)]) (rest := []) ⟨hx, hb, hml, hown, hts⟩ (cT_valueAt l D tys A ws_11 cI hI ad (k + 1) T ((nI ((pTake T 40 ((pAdv st))).2).1)) q_12t) tw_333 tw_334 tw_335 tw_5 tw_336 (by decide +kernel) rfl rfl (xR_ok (by omega) (by omega)) ⟨Nat.zero_le _, Nat.zero_le _⟩ (va_recv hK hP (ci := 4) (q0 := k + 1) rfl htoq_12) hK hP hD hS hA hN rfl hl.1 rfl (lv_room (Nat.le_of_ble_eq_true rfl)) dP_kindTerm_29) hS (fun rvl ws_13 H locs hvl hP hD hS => ?_)
    obtain ⟨hvl, rfl⟩ := hvl
    rw [hp.tk] at hvl
    refine lv_istore_n (lv' := [(2, .int rvl), (0, .ref (ad k)), (1, .int (nI (12 - d)))]) hx hb dP_kindTerm_32 rfl hl (by decide) rfl (fun ls hl => ?_)
    refine lv_aload_n hx hb dP_kindTerm_33 rfl (lv_at hl 1 rfl) ?_
    refine lv_iconst (v := 4) hx hb dP_kindTerm_34 (by decide) ?_
    refine x_calli (x_runV (n := 1) (As := [.int 4]) (rest := []) ⟨hx, hb, hml, hown, hts⟩ (cP_take l D tys A ws_11 cI hI ad k T ((pTake T 40 ((pAdv st))).2) 4 (by decide) hp) tw_354 tw_356 ts_P_take tw_4 tw_357 (by decide +kernel) rfl rfl (xR_ok (by omega) (by omega)) ⟨Nat.zero_le _, Nat.zero_le _⟩ (va_recv hK hP (ci := 1) (q0 := k) rfl q_120) hK hP hD hS hA hN rfl hl.1 rfl (lv_room (Nat.le_of_ble_eq_true rfl)) dP_kindTerm_35) hS (fun rb_15 ws_16 H locs hb_14 hP hD hS => ?_)
    obtain ⟨hb_14, hF9, hp⟩ := hb_14
    have hF := hF.tr hF9
    obtain ⟨q_170, q_17t, q_17p, q_17s, q_17a⟩ := id hp
    obtain ⟨fsTq_17, htoq_17⟩ := q_17t.obj
    obtain ⟨fsPq_17, hpoq_17⟩ := q_17p.obj
    refine lv_if_eq (tgt := 58) hx hb dP_kindTerm_38 (by decide) (fun c38 => ?_) (fun c38 => ?_)
    · refine lv_iconst (v := 0) hx hb dP_kindTerm_58 (by decide) ?_
      exact x_zret hx hb hr rfl hlk hK hP hD hS dP_kindTerm_59 ⟨(by have nc16 : (pTake T 40 ((pAdv st))).1 = true := b2i_n0.mp (by rw [← hb_9]; exact c16); have nc38 : ¬ (pTake T 4 ((pTake T 40 ((pAdv st))).2)).1 = true := (by have q := b2i_0.mp (by rw [← hb_14]; exact c38); rw [q]; decide); unfold pKind; rw [if_pos nc16, if_neg nc38]; rfl), hF, (by have nc16 : (pTake T 40 ((pAdv st))).1 = true := b2i_n0.mp (by rw [← hb_9]; exact c16); have nc38 : ¬ (pTake T 4 ((pTake T 40 ((pAdv st))).2)).1 = true := (by have q := b2i_0.mp (by rw [← hb_14]; exact c38); rw [q]; decide); unfold pKind; rw [if_pos nc16, if_neg nc38]; exact hp)⟩
    · refine lv_aload_n hx hb dP_kindTerm_41 rfl (lv_at hl 1 rfl) ?_
      refine lv_bipush (v := 44) hx hb dP_kindTerm_42 (by decide) ?_
      refine x_calli (x_runV (n := 1) (As := [.int 44]) (rest := []) ⟨hx, hb, hml, hown, hts⟩ (cP_take l D tys A ws_16 cI hI ad k T ((pTake T 4 ((pTake T 40 ((pAdv st))).2)).2) 44 (by decide) hp) tw_354 tw_356 ts_P_take tw_4 tw_357 (by decide +kernel) rfl rfl (xR_ok (by omega) (by omega)) ⟨Nat.zero_le _, Nat.zero_le _⟩ (va_recv hK hP (ci := 1) (q0 := k) rfl q_170) hK hP hD hS hA hN rfl hl.1 rfl (lv_room (Nat.le_of_ble_eq_true rfl)) dP_kindTerm_44) hS (fun rb_19 ws_20 H locs hb_18 hP hD hS => ?_)
      obtain ⟨hb_18, hF9, hp⟩ := hb_18
      have hF := hF.tr hF9
      obtain ⟨q_210, q_21t, q_21p, q_21s, q_21a⟩ := id hp
      obtain ⟨fsTq_21, htoq_21⟩ := q_21t.obj
      obtain ⟨fsPq_21, hpoq_21⟩ := q_21p.obj
      refine lv_if_eq (tgt := 58) hx hb dP_kindTerm_47 (by decide) (fun c47 => ?_) (fun c47 => ?_)
      · refine lv_iconst (v := 0) hx hb dP_kindTerm_58 (by decide) ?_
        exact x_zret hx hb hr rfl hlk hK hP hD hS dP_kindTerm_59 ⟨(by have nc16 : (pTake T 40 ((pAdv st))).1 = true := b2i_n0.mp (by rw [← hb_9]; exact c16); have nc38 : (pTake T 4 ((pTake T 40 ((pAdv st))).2)).1 = true := b2i_n0.mp (by rw [← hb_14]; exact c38); have nc47 : ¬ (pTake T 44 ((pTake T 4 ((pTake T 40 ((pAdv st))).2)).2)).1 = true := (by have q := b2i_0.mp (by rw [← hb_18]; exact c47); rw [q]; decide); unfold pKind; rw [if_pos nc16, if_pos nc38, if_neg nc47]; rfl), hF, (by have nc16 : (pTake T 40 ((pAdv st))).1 = true := b2i_n0.mp (by rw [← hb_9]; exact c16); have nc38 : (pTake T 4 ((pTake T 40 ((pAdv st))).2)).1 = true := b2i_n0.mp (by rw [← hb_14]; exact c38); have nc47 : ¬ (pTake T 44 ((pTake T 4 ((pTake T 40 ((pAdv st))).2)).2)).1 = true := (by have q := b2i_0.mp (by rw [← hb_18]; exact c47); rw [q]; decide); unfold pKind; rw [if_pos nc16, if_pos nc38, if_neg nc47]; exact hp)⟩
      · refine lv_aload_n hx hb dP_kindTerm_50 rfl (lv_at hl 1 rfl) ?_
        refine lv_iload_n hx hb dP_kindTerm_51 rfl (lv_at hl 2 rfl) ?_
        refine x_calli (x_runV (n := 1) (As := [.int (nI (12 - d))]) (rest := []) ⟨hx, hb, hml, hown, hts⟩ (HS ws_20 ((pTake T 44 ((pTake T 4 ((pTake T 40 ((pAdv st))).2)).2)).2) hp) tw_321 tw_323 ts_P_sum tw_4 tw_324 (by decide +kernel) rfl rfl (xR_ok (by omega) (by omega)) ⟨Nat.zero_le _, Nat.zero_le _⟩ (va_recv hK hP (ci := 1) (q0 := k) rfl q_210) hK hP hD hS hA hN rfl hl.1 rfl (lv_room (Nat.le_of_ble_eq_true rfl)) dP_kindTerm_52) hS (fun rb_23 ws_24 H locs hb_22 hP hD hS => ?_)
        obtain ⟨hb_22, hF9, hp⟩ := hb_22
        have hF := hF.tr hF9
        obtain ⟨q_250, q_25t, q_25p, q_25s, q_25a⟩ := id hp
        obtain ⟨fsTq_25, htoq_25⟩ := q_25t.obj
        obtain ⟨fsPq_25, hpoq_25⟩ := q_25p.obj
        refine lv_if_ne (tgt := 60) hx hb dP_kindTerm_55 (by decide) (fun c55 => ?_) (fun c55 => ?_)
        · refine lv_aload_n hx hb dP_kindTerm_60 rfl (lv_at hl 1 rfl) ?_
          refine lv_bipush (v := 9) hx hb dP_kindTerm_61 (by decide) ?_
          refine lv_iload_n hx hb dP_kindTerm_63 rfl (lv_at hl 0 rfl) ?_
          refine x_callv (x_runV (n := 2) (As := [.int 9, .int rvl]) (rest := []) ⟨hx, hb, hml, hown, hts⟩ (cP_emit l D tys A ws_24 cI hI ad k T ((pSum T (pTerm T d) ((pTake T 44 ((pTake T 4 ((pTake T 40 ((pAdv st))).2)).2)).2)).2) 9 rvl hp) tw_337 tw_339 ts_P_emit tw_4 tw_340 (by decide +kernel) rfl rfl (xR_ok (by omega) (by omega)) ⟨Nat.zero_le _, Nat.zero_le _⟩ (va_recv hK hP (ci := 1) (q0 := k) rfl q_250) hK hP hD hS hA hN rfl hl.1 rfl (lv_room (Nat.le_of_ble_eq_true rfl)) dP_kindTerm_64) hS (fun ws_27 H locs hv_26 hP hD hS => ?_)
          obtain ⟨hF9, hp⟩ := hv_26
          have hF := hF.tr hF9
          obtain ⟨q_280, q_28t, q_28p, q_28s, q_28a⟩ := id hp
          obtain ⟨fsTq_28, htoq_28⟩ := q_28t.obj
          obtain ⟨fsPq_28, hpoq_28⟩ := q_28p.obj
          refine lv_aload_n hx hb dP_kindTerm_67 rfl (lv_at hl 1 rfl) ?_
          refine lv_bipush (v := 41) hx hb dP_kindTerm_68 (by decide) ?_
          refine x_calli (x_runV (n := 1) (As := [.int 41]) (rest := []) ⟨hx, hb, hml, hown, hts⟩ (cP_take l D tys A ws_27 cI hI ad k T ((pEmit T 9 rvl ((pSum T (pTerm T d) ((pTake T 44 ((pTake T 4 ((pTake T 40 ((pAdv st))).2)).2)).2)).2))) 41 (by decide) hp) tw_354 tw_356 ts_P_take tw_4 tw_357 (by decide +kernel) rfl rfl (xR_ok (by omega) (by omega)) ⟨Nat.zero_le _, Nat.zero_le _⟩ (va_recv hK hP (ci := 1) (q0 := k) rfl q_280) hK hP hD hS hA hN rfl hl.1 rfl (lv_room (Nat.le_of_ble_eq_true rfl)) dP_kindTerm_70) hS (fun rb_30 ws_31 H locs hb_29 hP hD hS => ?_)
          obtain ⟨hb_29, hF9, hp⟩ := hb_29
          have hF := hF.tr hF9
          obtain ⟨q_320, q_32t, q_32p, q_32s, q_32a⟩ := id hp
          obtain ⟨fsTq_32, htoq_32⟩ := q_32t.obj
          obtain ⟨fsPq_32, hpoq_32⟩ := q_32p.obj
          exact x_zret hx hb hr (by rw [hb_29]; exact b2i_nar _) hlk hK hP hD hS dP_kindTerm_73 ⟨(by have nc16 : (pTake T 40 ((pAdv st))).1 = true := b2i_n0.mp (by rw [← hb_9]; exact c16); have nc38 : (pTake T 4 ((pTake T 40 ((pAdv st))).2)).1 = true := b2i_n0.mp (by rw [← hb_14]; exact c38); have nc47 : (pTake T 44 ((pTake T 4 ((pTake T 40 ((pAdv st))).2)).2)).1 = true := b2i_n0.mp (by rw [← hb_18]; exact c47); have nc55 : (pSum T (pTerm T d) ((pTake T 44 ((pTake T 4 ((pTake T 40 ((pAdv st))).2)).2)).2)).1 = true := b2i_n0.mp (by rw [← hb_22]; exact c55); unfold pKind; rw [if_pos nc16, if_pos nc38, if_pos nc47, if_pos nc55, ← hvl]; unfold pEnd; exact hb_29), hF, (by have nc16 : (pTake T 40 ((pAdv st))).1 = true := b2i_n0.mp (by rw [← hb_9]; exact c16); have nc38 : (pTake T 4 ((pTake T 40 ((pAdv st))).2)).1 = true := b2i_n0.mp (by rw [← hb_14]; exact c38); have nc47 : (pTake T 44 ((pTake T 4 ((pTake T 40 ((pAdv st))).2)).2)).1 = true := b2i_n0.mp (by rw [← hb_18]; exact c47); have nc55 : (pSum T (pTerm T d) ((pTake T 44 ((pTake T 4 ((pTake T 40 ((pAdv st))).2)).2)).2)).1 = true := b2i_n0.mp (by rw [← hb_22]; exact c55); unfold pKind; rw [if_pos nc16, if_pos nc38, if_pos nc47, if_pos nc55, ← hvl]; unfold pEnd; exact hp)⟩
        · refine lv_iconst (v := 0) hx hb dP_kindTerm_58 (by decide) ?_
          exact x_zret hx hb hr rfl hlk hK hP hD hS dP_kindTerm_59 ⟨(by have nc16 : (pTake T 40 ((pAdv st))).1 = true := b2i_n0.mp (by rw [← hb_9]; exact c16); have nc38 : (pTake T 4 ((pTake T 40 ((pAdv st))).2)).1 = true := b2i_n0.mp (by rw [← hb_14]; exact c38); have nc47 : (pTake T 44 ((pTake T 4 ((pTake T 40 ((pAdv st))).2)).2)).1 = true := b2i_n0.mp (by rw [← hb_18]; exact c47); have nc55 : ¬ (pSum T (pTerm T d) ((pTake T 44 ((pTake T 4 ((pTake T 40 ((pAdv st))).2)).2)).2)).1 = true := (by have q := b2i_0.mp (by rw [← hb_22]; exact c55); rw [q]; decide); unfold pKind; rw [if_pos nc16, if_pos nc38, if_pos nc47, if_neg nc55]; rfl), hF, (by have nc16 : (pTake T 40 ((pAdv st))).1 = true := b2i_n0.mp (by rw [← hb_9]; exact c16); have nc38 : (pTake T 4 ((pTake T 40 ((pAdv st))).2)).1 = true := b2i_n0.mp (by rw [← hb_14]; exact c38); have nc47 : (pTake T 44 ((pTake T 4 ((pTake T 40 ((pAdv st))).2)).2)).1 = true := b2i_n0.mp (by rw [← hb_18]; exact c47); have nc55 : ¬ (pSum T (pTerm T d) ((pTake T 44 ((pTake T 4 ((pTake T 40 ((pAdv st))).2)).2)).2)).1 = true := (by have q := b2i_0.mp (by rw [← hb_22]; exact c55); rw [q]; decide); unfold pKind; rw [if_pos nc16, if_pos nc38, if_pos nc47, if_neg nc55]; exact hp)⟩
  · refine lv_iconst (v := 0) hx hb dP_kindTerm_19 (by decide) ?_
    exact x_zret hx hb hr rfl hlk hK hP hD hS dP_kindTerm_20 ⟨(by have nc16 : ¬ (pTake T 40 ((pAdv st))).1 = true := (by have q := b2i_0.mp (by rw [← hb_9]; exact c16); rw [q]; decide); unfold pKind; rw [if_neg nc16]; rfl), hF, (by have nc16 : ¬ (pTake T 40 ((pAdv st))).1 = true := (by have q := b2i_0.mp (by rw [← hb_9]; exact c16); rw [q]; decide); unfold pKind; rw [if_neg nc16]; exact hp)⟩

theorem jnI_lem {x : Int32} : isJnI x = decide (x = 43 ∨ x = 45 ∨ x = 38) := rfl

set_option maxHeartbeats 4000000 in
set_option maxRecDepth 100000 in
theorem cQ_isJoinI (l : Launch) (D : va_G) (tys : List (ClassId × FieldType)) (A : Nat → Prop) (ws : va_W) (x : Int32) : x_Mi l yQ_isJoin wQ_isJoin (xR 0) D xCl tys A [.int x] ws (fun r ws1 => r = b2i (isJnI x) ∧ ws = ws1) := by
  refine x_enter (by decide) rfl (Nat.le_of_ble_eq_true rfl) (fun p e s m args below meth c ls hx hb hr hlk hml hown hnm hts hK hP hD hS hA hN hl => ?_)
  have hl : lv_has ls 1 [(0, .int x)] := hl
  refine lv_iload_n hx hb dQ_isJoin_0 rfl (lv_at hl 0 rfl) ?_
  refine lv_bipush (v := 43) hx hb dQ_isJoin_1 (by decide) ?_
  refine lv_icmp_eq (tgt := 18) hx hb dQ_isJoin_3 (by decide) (fun c3 => ?_) (fun c3 => ?_)
  · refine lv_iconst (v := 1) hx hb dQ_isJoin_18 (by decide) ?_
    refine lv_goto (tgt := 23) hx hb dQ_isJoin_19 (by decide) ?_
    exact x_zret hx hb hr rfl hlk hK hP hD hS dQ_isJoin_23 ⟨by rw [show isJnI x = true from decide_eq_true (Or.inl c3)]; rfl, rfl⟩
  · refine lv_iload_n hx hb dQ_isJoin_6 rfl (lv_at hl 0 rfl) ?_
    refine lv_bipush (v := 45) hx hb dQ_isJoin_7 (by decide) ?_
    refine lv_icmp_eq (tgt := 18) hx hb dQ_isJoin_9 (by decide) (fun c9 => ?_) (fun c9 => ?_)
    · refine lv_iconst (v := 1) hx hb dQ_isJoin_18 (by decide) ?_
      refine lv_goto (tgt := 23) hx hb dQ_isJoin_19 (by decide) ?_
      exact x_zret hx hb hr rfl hlk hK hP hD hS dQ_isJoin_23 ⟨by rw [show isJnI x = true from decide_eq_true (Or.inr (Or.inl c9))]; rfl, rfl⟩
    · refine lv_iload_n hx hb dQ_isJoin_12 rfl (lv_at hl 0 rfl) ?_
      refine lv_bipush (v := 38) hx hb dQ_isJoin_13 (by decide) ?_
      refine lv_icmp_ne (tgt := 22) hx hb dQ_isJoin_15 (by decide) (fun c15 => ?_) (fun c15 => ?_)
      · refine lv_iconst (v := 0) hx hb dQ_isJoin_22 (by decide) ?_
        exact x_zret hx hb hr rfl hlk hK hP hD hS dQ_isJoin_23 ⟨by rw [show isJnI x = false from decide_eq_false (fun h => by rcases h with h | h | h; exact c3 h; exact c9 h; exact c15 h)]; rfl, rfl⟩
      · refine lv_iconst (v := 1) hx hb dQ_isJoin_18 (by decide) ?_
        refine lv_goto (tgt := 23) hx hb dQ_isJoin_19 (by decide) ?_
        exact x_zret hx hb hr rfl hlk hK hP hD hS dQ_isJoin_23 ⟨by rw [show isJnI x = true from decide_eq_true (Or.inr (Or.inr c15))]; rfl, rfl⟩

set_option maxHeartbeats 4000000 in
set_option maxRecDepth 100000 in
/-- Parser.sum(within) -/
theorem cP_sum (l : Launch) (D : va_G) (tys : List (ClassId × FieldType)) (A : Nat → Prop) (cI : ClassId) (hI : tys[0]? = some (cI, .int)) (ad : Nat → Nat) (k : Nat) (T : List Tok) (d : Nat) (HT : TermC l D tys A cI ad k T d) : SumC l D tys A cI ad k T d := by
  intro ws st hp
  have hF : x_fr k (k + 10) ws ws := x_fr.rf
  obtain ⟨q0, qt, qp, qs, qa⟩ := id hp
  obtain ⟨fsTq, htoq⟩ := qt.obj
  obtain ⟨fsPq, hpoq⟩ := qp.obj
  refine x_enter (by decide) rfl (Nat.le_of_ble_eq_true rfl) (fun p e s m args below meth c ls hx hb hr hlk hml hown hnm hts hK hP hD hS hA hN hl => ?_)
  have hl : lv_has ls 4 [(0, .ref (ad k)), (1, .int (nI (12 - d)))] := hl
  have loop_12 : ∀ (n : Nat) (i : Nat) (st1 : PSt) (hi : i ≤ 80) (ws1 : va_W) (H : Heap) (locs : List Loc) (ls : Array Slot), pMore T (pTerm T d) (80 - i) st1 = pMore T (pTerm T d) 80 (pTerm T d st).2 → (pTerm T d st).1 = true → x_fr k (k + 10) ws ws1 → ParserAt cI ad ws1 k T st1 → 80 - i < n → va_P D xCl ws1 H → va_D A ws1 → va_S A s.heap H locs → lv_has ls 4 [(0, .ref (ad k)), (1, .int (nI (12 - d))), (2, .int (nI i))] → W p l e (xR (3 * d + 3)) s m args below meth c H locs 0 0 (MQ below (va_Qi (fun r ws1 => r = b2i (pSum T (pTerm T d) st).1 ∧ x_fr k (k + 10) ws ws1 ∧ ParserAt cI ad ws1 k T (pSum T (pTerm T d) st).2) (x_B D xCl tys A) A) args s 0 0 A) (F0 m 12 ls []) := by
    intro n
    induction n with
    | zero => intro i st1 hi ws1 H locs ls hm ht1 hF hp hme; exact absurd hme (Nat.not_lt_zero _)
    | succ n ih =>
      intro i st1 hi ws1 H locs ls hm ht1 hF hp hme hP hD hS hl
      obtain ⟨q0, qt, qp, qs, qa⟩ := id hp
      obtain ⟨fsTq, htoq⟩ := qt.obj
      obtain ⟨fsPq, hpoq⟩ := qp.obj
      refine lv_iload_n hx hb dP_sum_12 rfl (lv_at hl 2 rfl) ?_
      refine lv_bipush (v := 80) hx hb dP_sum_13 (by decide) ?_
      refine lv_icmp_ge (tgt := 79) hx hb dP_sum_15 (by decide) (fun c15 => ?_) (fun c15 => ?_)
      · refine lv_iconst (v := 1) hx hb dP_sum_79 (by decide) ?_
        exact x_zret hx hb hr rfl hlk hK hP hD hS dP_sum_80 ⟨(by have e : pSum T (pTerm T d) st = (true, st1) := (by unfold pSum; have e9 : 80 - i = 0 := (by have c15 : nI 80 ≤ nI i := c15; rw [nI_leI (by omega) (by omega)] at c15; omega); rw [if_pos ht1, ← hm, e9]; rfl); rw [e]; rfl), hF, (by have e : pSum T (pTerm T d) st = (true, st1) := (by unfold pSum; have e9 : 80 - i = 0 := (by have c15 : nI 80 ≤ nI i := c15; rw [nI_leI (by omega) (by omega)] at c15; omega); rw [if_pos ht1, ← hm, e9]; rfl); rw [e]; exact hp)⟩
      · refine lv_aload_n hx hb dP_sum_18 rfl (lv_at hl 0 rfl) ?_
        refine va_get (D := D) (cl := xCl) (ci := 1) (v := .ref (ad (k + 1))) (C := rnP) (T := tbP) (N := 5) hx hb hts inP hown hK hP k q0 rfl 0 (by decide) (hts _ tw_97) (fun _ h9 => h9) rfl dP_sum_19 ?_
        refine lv_aload_n hx hb dP_sum_22 rfl (lv_at hl 0 rfl) ?_
        refine va_get (D := D) (cl := xCl) (ci := 1) (v := .int (nI st1.1)) (C := rnP) (T := tbP) (N := 5) hx hb hts inP hown hK hP k q0 rfl 3 (by decide) (hts _ tw_100) (fun _ h9 => h9) rfl dP_sum_23 ?_
        refine x_calli (x_runV (n := 1) (As := [.int (nI st1.1)]) (rest := []) ⟨hx, hb, hml, hown, hts⟩ (cT_kindAt l D tys A ws1 cI hI ad (k + 1) T ((nI st1.1)) qt) tw_329 tw_330 tw_331 tw_5 tw_332 (by decide +kernel) rfl rfl (xR_ok (by omega) (by omega)) ⟨Nat.zero_le _, Nat.zero_le _⟩ (va_recv hK hP (ci := 4) (q0 := k + 1) rfl htoq) hK hP hD hS hA hN rfl hl.1 rfl (lv_room (Nat.le_of_ble_eq_true rfl)) dP_sum_26) hS (fun rkd ws_1 H locs hkd hP hD hS => ?_)
        obtain ⟨hkd, rfl⟩ := hkd
        rw [hp.tk] at hkd
        refine x_calli (x_runSN (n := 1) (As := [.int rkd]) (rest := []) ⟨hx, hb, hml, hown, hts⟩ (cQ_isJoinI l D tys A ws1 rkd) (xN_382 hN) tw_318 tw_1 tw_319 (by decide +kernel) rfl rfl (xR_ok (by omega) (by omega)) ⟨Nat.zero_le _, Nat.zero_le _⟩ hK hP hD hS hA hN rfl hl.1 rfl (lv_room (Nat.le_of_ble_eq_true rfl)) dP_sum_29) hS (fun rj ws_2 H locs hj hP hD hS => ?_)
        obtain ⟨hj, rfl⟩ := hj
        refine lv_if_eq (tgt := 79) hx hb dP_sum_32 (by decide) (fun c32 => ?_) (fun c32 => ?_)
        · refine lv_iconst (v := 1) hx hb dP_sum_79 (by decide) ?_
          exact x_zret hx hb hr rfl hlk hK hP hD hS dP_sum_80 ⟨(by have e : pSum T (pTerm T d) st = (true, st1) := (by unfold pSum; rw [if_pos ht1, ← hm]; exact pMore_end (by rw [hj, b2i_0, hkd] at c32; exact c32)); rw [e]; rfl), hF, (by have e : pSum T (pTerm T d) st = (true, st1) := (by unfold pSum; rw [if_pos ht1, ← hm]; exact pMore_end (by rw [hj, b2i_0, hkd] at c32; exact c32)); rw [e]; exact hp)⟩
        · have hjt : isJnI (tkAt T st1).1 = true := by rw [hj, b2i_n0, hkd] at c32; exact c32
          have hi2 : i < 80 := by have c15 : ¬ nI 80 ≤ nI i := c15; rw [nI_leI (by omega) (by omega)] at c15; omega
          refine lv_aload_n hx hb dP_sum_35 rfl (lv_at hl 0 rfl) ?_
          refine va_get (D := D) (cl := xCl) (ci := 1) (v := .ref (ad (k + 1))) (C := rnP) (T := tbP) (N := 5) hx hb hts inP hown hK hP k q0 rfl 0 (by decide) (hts _ tw_97) (fun _ h9 => h9) rfl dP_sum_36 ?_
          refine lv_aload_n hx hb dP_sum_39 rfl (lv_at hl 0 rfl) ?_
          refine va_get (D := D) (cl := xCl) (ci := 1) (v := .int (nI st1.1)) (C := rnP) (T := tbP) (N := 5) hx hb hts inP hown hK hP k q0 rfl 3 (by decide) (hts _ tw_100) (fun _ h9 => h9) rfl dP_sum_40 ?_
          refine x_calli (x_runV (n := 1) (As := [.int (nI st1.1)]) (rest := []) ⟨hx, hb, hml, hown, hts⟩ (cT_kindAt l D tys A ws1 cI hI ad (k + 1) T ((nI st1.1)) qt) tw_329 tw_330 tw_331 tw_5 tw_332 (by decide +kernel) rfl rfl (xR_ok (by omega) (by omega)) ⟨Nat.zero_le _, Nat.zero_le _⟩ (va_recv hK hP (ci := 4) (q0 := k + 1) rfl htoq) hK hP hD hS hA hN rfl hl.1 rfl (lv_room (Nat.le_of_ble_eq_true rfl)) dP_sum_43) hS (fun rk2 ws_3 H locs hk2 hP hD hS => ?_)
          obtain ⟨hk2, rfl⟩ := hk2
          rw [hp.tk] at hk2
          refine lv_istore_n (lv' := [(3, .int rk2), (0, .ref (ad k)), (1, .int (nI (12 - d))), (2, .int (nI i))]) hx hb dP_sum_46 rfl hl (by decide) rfl (fun ls hl => ?_)
          refine lv_aload_n hx hb dP_sum_47 rfl (lv_at hl 1 rfl) ?_
          refine lv_dup hx hb dP_sum_48 rfl ?_
          refine va_get (D := D) (cl := xCl) (ci := 1) (v := .int (nI st1.1)) (C := rnP) (T := tbP) (N := 5) hx hb hts inP hown hK hP k q0 rfl 3 (by decide) (hts _ tw_100) (fun _ h9 => h9) rfl dP_sum_49 ?_
          refine lv_iconst (v := 1) hx hb dP_sum_52 (by decide) ?_
          refine lv_iadd hx hb dP_sum_53 ?_
          refine lv_topi (fun v_4 ev_4 => ?_)
          refine va_put (D := D) (cl := xCl) (ci := 1) (v := .int v_4) (ty := .int) (C := rnP) (T := tbP) (N := 5) hx hb hts inP tyP toP nmP hown hK hP hD hS k q0 rfl 3 (by decide) (hts _ tw_100) (fun _ h9 => h9) rfl (by decide +kernel) rfl rfl (Nat.le_of_ble_eq_true rfl) dP_sum_54 (fun H locs hP hD hS => ?_)
          obtain ⟨ws_6, hu_5, hP, hD⟩ := x_gen q0 hP hD
          have h_7 : ws_6[k]? = some (ad k, .inr (1, [.ref (ad (k + 1)), .ref (ad (k + 5)), .ref (ad (k + 9)), .int v_4, .int (nI st1.2.2.2)])) := hu_5.1
          have h_8 := (hu_5.2 (k + 1) (by omega)).trans htoq
          have h_9 := (hu_5.2 (k + 5) (by omega)).trans hpoq
          have h_10 := (hu_5.2 (k + 9) (by omega)).trans qs
          have hp := hp.adv hu_5 ev_4 (isJn_nz hjt)
          have hF := hF.tr (hu_5.fr (a := k) (b := k + 10) (by omega) (by omega))
          obtain ⟨q_110, q_11t, q_11p, q_11s, q_11a⟩ := id hp
          obtain ⟨fsTq_11, htoq_11⟩ := q_11t.obj
          obtain ⟨fsPq_11, hpoq_11⟩ := q_11p.obj
          refine lv_aload_n hx hb dP_sum_57 rfl (lv_at hl 1 rfl) ?_
          refine lv_iload_n hx hb dP_sum_58 rfl (lv_at hl 2 rfl) ?_
          refine x_calli (x_runV (n := 1) (As := [.int (nI (12 - d))]) (rest := []) ⟨hx, hb, hml, hown, hts⟩ (HT ws_6 ((pAdv st1)) hp) tw_325 tw_327 ts_P_term tw_4 tw_328 (by decide +kernel) rfl rfl (xR_ok (by omega) (by omega)) ⟨Nat.zero_le _, Nat.zero_le _⟩ (va_recv hK hP (ci := 1) (q0 := k) rfl q_110) hK hP hD hS hA hN rfl hl.1 rfl (lv_room (Nat.le_of_ble_eq_true rfl)) dP_sum_59) hS (fun rb_13 ws_14 H locs hb_12 hP hD hS => ?_)
          obtain ⟨hb_12, hF9, hp⟩ := hb_12
          have hF := hF.tr hF9
          obtain ⟨q_150, q_15t, q_15p, q_15s, q_15a⟩ := id hp
          obtain ⟨fsTq_15, htoq_15⟩ := q_15t.obj
          obtain ⟨fsPq_15, hpoq_15⟩ := q_15p.obj
          refine lv_if_ne (tgt := 67) hx hb dP_sum_62 (by decide) (fun c62 => ?_) (fun c62 => ?_)
          · refine lv_aload_n hx hb dP_sum_67 rfl (lv_at hl 1 rfl) ?_
            refine lv_iload_n hx hb dP_sum_68 rfl (lv_at hl 0 rfl) ?_
            refine lv_iconst (v := 0) hx hb dP_sum_69 (by decide) ?_
            refine x_callv (x_runV (n := 2) (As := [.int rk2, .int 0]) (rest := []) ⟨hx, hb, hml, hown, hts⟩ (cP_emit l D tys A ws_14 cI hI ad k T ((pTerm T d ((pAdv st1))).2) rk2 0 hp) tw_337 tw_339 ts_P_emit tw_4 tw_340 (by decide +kernel) rfl rfl (xR_ok (by omega) (by omega)) ⟨Nat.zero_le _, Nat.zero_le _⟩ (va_recv hK hP (ci := 1) (q0 := k) rfl q_150) hK hP hD hS hA hN rfl hl.1 rfl (lv_room (Nat.le_of_ble_eq_true rfl)) dP_sum_70) hS (fun ws_17 H locs hv_16 hP hD hS => ?_)
            obtain ⟨hF9, hp⟩ := hv_16
            have hF := hF.tr hF9
            obtain ⟨q_180, q_18t, q_18p, q_18s, q_18a⟩ := id hp
            obtain ⟨fsTq_18, htoq_18⟩ := q_18t.obj
            obtain ⟨fsPq_18, hpoq_18⟩ := q_18p.obj
            refine lv_iinc (v := (nI (i + 1))) (lv' := [(2, .int (nI (i + 1))), (3, .int rk2), (0, .ref (ad k)), (1, .int (nI (12 - d)))]) hx hb dP_sum_73 hl (k := 3) rfl (nI_1 _) (by decide) rfl (fun ls hl => ?_)
            refine lv_goto (tgt := 12) hx hb dP_sum_76 (by decide) ?_
            exact ih (i + 1) (pEmit T rk2 0 ((pTerm T d ((pAdv st1))).2)) (by omega) ws_17 _ _ _ (by have nc62 : (pTerm T d ((pAdv st1))).1 = true := b2i_n0.mp (by rw [← hb_12]; exact c62); rw [← hm, show 80 - i = (80 - (i + 1)) + 1 by omega]; show _ = (if isJnI _ = true then _ else _); rw [if_pos hjt, if_pos nc62, hk2]) ht1 hF hp (by omega) hP hD hS (lv_sub hl [2, 3, 0] rfl)
          · refine lv_iconst (v := 0) hx hb dP_sum_65 (by decide) ?_
            exact x_zret hx hb hr rfl hlk hK hP hD hS dP_sum_66 ⟨(by have e : pSum T (pTerm T d) st = (false, (pTerm T d (pAdv st1)).2) := (by have nc62 : ¬ (pTerm T d ((pAdv st1))).1 = true := (by have q := b2i_0.mp (by rw [← hb_12]; exact c62); rw [q]; decide); unfold pSum; rw [if_pos ht1, ← hm, show 80 - i = (79 - i) + 1 by omega]; show (if isJnI _ = true then _ else _) = _; rw [if_pos hjt, if_neg nc62]); rw [e]; rfl), hF, (by have e : pSum T (pTerm T d) st = (false, (pTerm T d (pAdv st1)).2) := (by have nc62 : ¬ (pTerm T d ((pAdv st1))).1 = true := (by have q := b2i_0.mp (by rw [← hb_12]; exact c62); rw [q]; decide); unfold pSum; rw [if_pos ht1, ← hm, show 80 - i = (79 - i) + 1 by omega]; show (if isJnI _ = true then _ else _) = _; rw [if_pos hjt, if_neg nc62]); rw [e]; exact hp)⟩
  refine lv_aload_n hx hb dP_sum_0 rfl (lv_at hl 0 rfl) ?_
  refine lv_iload_n hx hb dP_sum_1 rfl (lv_at hl 1 rfl) ?_
  refine x_calli (x_runV (n := 1) (As := [.int (nI (12 - d))]) (rest := []) ⟨hx, hb, hml, hown, hts⟩ (HT ws st hp) tw_325 tw_327 ts_P_term tw_4 tw_328 (by decide +kernel) rfl rfl (xR_ok (by omega) (by omega)) ⟨Nat.zero_le _, Nat.zero_le _⟩ (va_recv hK hP (ci := 1) (q0 := k) rfl q0) hK hP hD hS hA hN rfl hl.1 rfl (lv_room (Nat.le_of_ble_eq_true rfl)) dP_sum_2) hS (fun rb_20 ws_21 H locs hb_19 hP hD hS => ?_)
  obtain ⟨hb_19, hF9, hp⟩ := hb_19
  have hF := hF.tr hF9
  obtain ⟨q_220, q_22t, q_22p, q_22s, q_22a⟩ := id hp
  obtain ⟨fsTq_22, htoq_22⟩ := q_22t.obj
  obtain ⟨fsPq_22, hpoq_22⟩ := q_22p.obj
  refine lv_if_ne (tgt := 10) hx hb dP_sum_5 (by decide) (fun c5 => ?_) (fun c5 => ?_)
  · refine lv_iconst (v := 0) hx hb dP_sum_10 (by decide) ?_
    refine lv_istore_n (lv' := [(2, .int 0), (0, .ref (ad k)), (1, .int (nI (12 - d)))]) hx hb dP_sum_11 rfl hl (by decide) rfl (fun ls hl => ?_)
    exact loop_12 _ 0 (pTerm T d st).2 (Nat.zero_le _) ws_21 _ _ _ rfl (by have nc5 : (pTerm T d st).1 = true := b2i_n0.mp (by rw [← hb_19]; exact c5); exact nc5) hF hp (Nat.lt_succ_self _) hP hD hS (lv_sub hl [1, 2, 0] rfl)
  · refine lv_iconst (v := 0) hx hb dP_sum_8 (by decide) ?_
    exact x_zret hx hb hr rfl hlk hK hP hD hS dP_sum_9 ⟨(by have nc5 : ¬ (pTerm T d st).1 = true := (by have q := b2i_0.mp (by rw [← hb_19]; exact c5); rw [q]; decide); unfold pSum; rw [if_neg nc5]; rfl), hF, (by have nc5 : ¬ (pTerm T d st).1 = true := (by have q := b2i_0.mp (by rw [← hb_19]; exact c5); rw [q]; decide); unfold pSum; rw [if_neg nc5]; exact hp)⟩
end
section
-- ===== openLets comes back as it was =====
def PO (f : PSt → Bool × PSt) : Prop := ∀ st, (f st).2.2.2.2 = st.2.2.2
theorem PO_take (T : List Tok) (K : Int32) : PO (pTake T K) := by
  intro st
  unfold pTake
  split <;> rfl
theorem PO_end (T : List Tok) (K v : Int32) : PO (pEnd T K v) := fun st => PO_take T 41 _
theorem PO_more {T : List Tok} {t : PSt → Bool × PSt} (h : PO t) : ∀ n, PO (pMore T t n) := by
  intro n
  induction n with
  | zero => intro st; rfl
  | succ n ih =>
    intro st
    unfold pMore
    split
    · split
      · rw [ih]; exact h _
      · exact h _
    · rfl
theorem PO_sum {T : List Tok} {t : PSt → Bool × PSt} (h : PO t) : PO (pSum T t) := by
  intro st
  unfold pSum
  split
  · rw [PO_more h 80]; exact h _
  · exact h _
theorem PO_rounds {T : List Tok} {S : PSt → Bool × PSt} (h : PO S) (K : Int32) : PO (pRounds T S K) := by
  intro st
  unfold pRounds
  split
  · split
    · split
      · split
        · rw [PO_end, PO_take, PO_take, h, PO_take]; rfl
        · rw [PO_take, PO_take, h, PO_take]; rfl
      · rw [PO_end, PO_take, h, PO_take]; rfl
    · rw [h, PO_take]; rfl
  · rw [PO_take]; rfl
theorem PO_plain {T : List Tok} {S : PSt → Bool × PSt} (h : PO S) (K : Int32) : PO (pPlain T S K) := by
  intro st
  unfold pPlain
  split
  · split
    · rw [PO_end, h, PO_take]; rfl
    · rw [h, PO_take]; rfl
  · rw [PO_take]; rfl
theorem PO_way {T : List Tok} {S : PSt → Bool × PSt} (h : PO S) : PO (pWay T S) := by
  intro st
  unfold pWay
  split
  · split
    · split
      · split
        · rw [PO_end, h, PO_take, h, PO_take]; rfl
        · rw [h, PO_take, h, PO_take]; rfl
      · rw [PO_take, h, PO_take]; rfl
    · rw [h, PO_take]; rfl
  · rw [PO_take]; rfl
theorem PO_kind {T : List Tok} {S : PSt → Bool × PSt} (h : PO S) : PO (pKind T S) := by
  intro st
  unfold pKind
  split
  · split
    · split
      · split
        · rw [PO_end, h, PO_take, PO_take, PO_take]; rfl
        · rw [h, PO_take, PO_take, PO_take]; rfl
      · rw [PO_take, PO_take, PO_take]; rfl
    · rw [PO_take, PO_take]; rfl
  · rw [PO_take]; rfl
theorem PO_bound {T : List Tok} {S : PSt → Bool × PSt} (h : PO S) (v : Int32) : PO (pBound T S v) := by
  intro x
  show (S _).2.2.2.2 - 1 = _
  rw [h]
  rfl
theorem PO_let {T : List Tok} {S : PSt → Bool × PSt} (h : PO S) : PO (pLet T S) := by
  intro st
  unfold pLet
  split
  · split
    · split
      · split
        · rw [PO_bound h, PO_take, h, PO_take, PO_take]; rfl
        · rw [PO_take, h, PO_take, PO_take]; rfl
      · rw [h, PO_take, PO_take]; rfl
    · rw [PO_take, PO_take]; rfl
  · rw [PO_take]; rfl
theorem PO_paren {T : List Tok} {S : PSt → Bool × PSt} (h : PO S) : PO (pParen T S) := by
  intro st
  unfold pParen
  split
  · rw [PO_take, h]; rfl
  · rw [h]; rfl
theorem PO_letter (T : List Tok) : PO (pLetter T) := by
  intro st
  unfold pLetter
  split <;> rfl
theorem PO_term (T : List Tok) : ∀ d, PO (pTerm T d) := by
  intro d
  induction d with
  | zero => intro st; rfl
  | succ d ih =>
    intro st
    have hs := PO_sum (T := T) ih
    unfold pTerm
    split
    · rfl
    · split
      · exact PO_letter T st
      · split
        · exact PO_paren hs st
        · split
          · exact PO_rounds hs _ st
          · split
            · exact PO_plain hs _ st
            · split
              · exact PO_way hs st
              · split
                · exact PO_kind hs st
                · split
                  · exact PO_let hs st
                  · rfl

set_option maxHeartbeats 4000000 in
set_option maxRecDepth 100000 in
/-- Parser.letTerm(within) -/
theorem cP_letTerm (l : Launch) (D : va_G) (tys : List (ClassId × FieldType)) (A : Nat → Prop) (cI : ClassId) (hI : tys[0]? = some (cI, .int)) (ad : Nat → Nat) (k : Nat) (T : List Tok) (d : Nat) (HS : SumC l D tys A cI ad k T d) (hd : d < 12) (ws : va_W) (st : PSt) (hkn : ¬ (tkAt T st).1 = 0) (hp : ParserAt cI ad ws k T st) : x_Mi l yP_letTerm wP_letTerm (xR (3 * d + 4)) D xCl tys A [.ref (ad k), .int (nI (12 - d))] ws (fun r ws1 => r = b2i (pLet T (pSum T (pTerm T d)) st).1 ∧ x_fr k (k + 10) ws ws1 ∧ ParserAt cI ad ws1 k T (pLet T (pSum T (pTerm T d)) st).2) := by
  have hF : x_fr k (k + 10) ws ws := x_fr.rf
  obtain ⟨q0, qt, qp, qs, qa⟩ := id hp
  obtain ⟨fsTq, htoq⟩ := qt.obj
  obtain ⟨fsPq, hpoq⟩ := qp.obj
  refine x_enter (by decide) rfl (Nat.le_of_ble_eq_true rfl) (fun p e s m args below meth c ls hx hb hr hlk hml hown hnm hts hK hP hD hS hA hN hl => ?_)
  have hl : lv_has ls 5 [(0, .ref (ad k)), (1, .int (nI (12 - d)))] := hl
  refine lv_aload_n hx hb dP_letTerm_0 rfl (lv_at hl 0 rfl) ?_
  refine lv_dup hx hb dP_letTerm_1 rfl ?_
  refine va_get (D := D) (cl := xCl) (ci := 1) (v := .int (nI st.1)) (C := rnP) (T := tbP) (N := 5) hx hb hts inP hown hK hP k q0 rfl 3 (by decide) (hts _ tw_100) (fun _ h9 => h9) rfl dP_letTerm_2 ?_
  refine lv_iconst (v := 1) hx hb dP_letTerm_5 (by decide) ?_
  refine lv_iadd hx hb dP_letTerm_6 ?_
  refine lv_topi (fun v_1 ev_1 => ?_)
  refine va_put (D := D) (cl := xCl) (ci := 1) (v := .int v_1) (ty := .int) (C := rnP) (T := tbP) (N := 5) hx hb hts inP tyP toP nmP hown hK hP hD hS k q0 rfl 3 (by decide) (hts _ tw_100) (fun _ h9 => h9) rfl (by decide +kernel) rfl rfl (Nat.le_of_ble_eq_true rfl) dP_letTerm_7 (fun H locs hP hD hS => ?_)
  obtain ⟨ws_3, hu_2, hP, hD⟩ := x_gen q0 hP hD
  have h_4 : ws_3[k]? = some (ad k, .inr (1, [.ref (ad (k + 1)), .ref (ad (k + 5)), .ref (ad (k + 9)), .int v_1, .int (nI st.2.2.2)])) := hu_2.1
  have h_5 := (hu_2.2 (k + 1) (by omega)).trans htoq
  have h_6 := (hu_2.2 (k + 5) (by omega)).trans hpoq
  have h_7 := (hu_2.2 (k + 9) (by omega)).trans qs
  have hp := hp.adv hu_2 ev_1 (hkn)
  have hF := hF.tr (hu_2.fr (a := k) (b := k + 10) (by omega) (by omega))
  obtain ⟨q_80, q_8t, q_8p, q_8s, q_8a⟩ := id hp
  obtain ⟨fsTq_8, htoq_8⟩ := q_8t.obj
  obtain ⟨fsPq_8, hpoq_8⟩ := q_8p.obj
  refine lv_aload_n hx hb dP_letTerm_10 rfl (lv_at hl 0 rfl) ?_
  refine va_get (D := D) (cl := xCl) (ci := 1) (v := .ref (ad (k + 1))) (C := rnP) (T := tbP) (N := 5) hx hb hts inP hown hK hP k q_80 rfl 0 (by decide) (hts _ tw_97) (fun _ h9 => h9) rfl dP_letTerm_11 ?_
  refine lv_aload_n hx hb dP_letTerm_14 rfl (lv_at hl 0 rfl) ?_
  refine va_get (D := D) (cl := xCl) (ci := 1) (v := .int (nI ((pAdv st)).1)) (C := rnP) (T := tbP) (N := 5) hx hb hts inP hown hK hP k q_80 rfl 3 (by decide) (hts _ tw_100) (fun _ h9 => h9) rfl dP_letTerm_15 ?_
  refine x_calli (x_runV (n := 1) (As := [.int (nI ((pAdv st)).1)]) (rest := []) ⟨hx, hb, hml, hown, hts⟩ (cT_valueAt l D tys A ws_3 cI hI ad (k + 1) T ((nI ((pAdv st)).1)) q_8t) tw_333 tw_334 tw_335 tw_5 tw_336 (by decide +kernel) rfl rfl (xR_ok (by omega) (by omega)) ⟨Nat.zero_le _, Nat.zero_le _⟩ (va_recv hK hP (ci := 4) (q0 := k + 1) rfl htoq_8) hK hP hD hS hA hN rfl hl.1 rfl (lv_room (Nat.le_of_ble_eq_true rfl)) dP_letTerm_18) hS (fun rvl ws_9 H locs hvl hP hD hS => ?_)
  obtain ⟨hvl, rfl⟩ := hvl
  rw [hp.tk] at hvl
  refine lv_istore_n (lv' := [(2, .int rvl), (0, .ref (ad k)), (1, .int (nI (12 - d)))]) hx hb dP_letTerm_21 rfl hl (by decide) rfl (fun ls hl => ?_)
  refine lv_aload_n hx hb dP_letTerm_22 rfl (lv_at hl 1 rfl) ?_
  refine lv_iconst (v := 3) hx hb dP_letTerm_23 (by decide) ?_
  refine x_calli (x_runV (n := 1) (As := [.int 3]) (rest := []) ⟨hx, hb, hml, hown, hts⟩ (cP_take l D tys A ws_3 cI hI ad k T ((pAdv st)) 3 (by decide) hp) tw_354 tw_356 ts_P_take tw_4 tw_357 (by decide +kernel) rfl rfl (xR_ok (by omega) (by omega)) ⟨Nat.zero_le _, Nat.zero_le _⟩ (va_recv hK hP (ci := 1) (q0 := k) rfl q_80) hK hP hD hS hA hN rfl hl.1 rfl (lv_room (Nat.le_of_ble_eq_true rfl)) dP_letTerm_24) hS (fun rb_11 ws_12 H locs hb_10 hP hD hS => ?_)
  obtain ⟨hb_10, hF9, hp⟩ := hb_10
  have hF := hF.tr hF9
  obtain ⟨q_130, q_13t, q_13p, q_13s, q_13a⟩ := id hp
  obtain ⟨fsTq_13, htoq_13⟩ := q_13t.obj
  obtain ⟨fsPq_13, hpoq_13⟩ := q_13p.obj
  refine lv_if_eq (tgt := 56) hx hb dP_letTerm_27 (by decide) (fun c27 => ?_) (fun c27 => ?_)
  · refine lv_iconst (v := 0) hx hb dP_letTerm_56 (by decide) ?_
    exact x_zret hx hb hr rfl hlk hK hP hD hS dP_letTerm_57 ⟨(by have nc27 : ¬ (pTake T 3 ((pAdv st))).1 = true := (by have q := b2i_0.mp (by rw [← hb_10]; exact c27); rw [q]; decide); unfold pLet; rw [if_neg nc27]; rfl), hF, (by have nc27 : ¬ (pTake T 3 ((pAdv st))).1 = true := (by have q := b2i_0.mp (by rw [← hb_10]; exact c27); rw [q]; decide); unfold pLet; rw [if_neg nc27]; exact hp)⟩
  · refine lv_aload_n hx hb dP_letTerm_30 rfl (lv_at hl 1 rfl) ?_
    refine lv_bipush (v := 61) hx hb dP_letTerm_31 (by decide) ?_
    refine x_calli (x_runV (n := 1) (As := [.int 61]) (rest := []) ⟨hx, hb, hml, hown, hts⟩ (cP_take l D tys A ws_12 cI hI ad k T ((pTake T 3 ((pAdv st))).2) 61 (by decide) hp) tw_354 tw_356 ts_P_take tw_4 tw_357 (by decide +kernel) rfl rfl (xR_ok (by omega) (by omega)) ⟨Nat.zero_le _, Nat.zero_le _⟩ (va_recv hK hP (ci := 1) (q0 := k) rfl q_130) hK hP hD hS hA hN rfl hl.1 rfl (lv_room (Nat.le_of_ble_eq_true rfl)) dP_letTerm_33) hS (fun rb_15 ws_16 H locs hb_14 hP hD hS => ?_)
    obtain ⟨hb_14, hF9, hp⟩ := hb_14
    have hF := hF.tr hF9
    obtain ⟨q_170, q_17t, q_17p, q_17s, q_17a⟩ := id hp
    obtain ⟨fsTq_17, htoq_17⟩ := q_17t.obj
    obtain ⟨fsPq_17, hpoq_17⟩ := q_17p.obj
    refine lv_if_eq (tgt := 56) hx hb dP_letTerm_36 (by decide) (fun c36 => ?_) (fun c36 => ?_)
    · refine lv_iconst (v := 0) hx hb dP_letTerm_56 (by decide) ?_
      exact x_zret hx hb hr rfl hlk hK hP hD hS dP_letTerm_57 ⟨(by have nc27 : (pTake T 3 ((pAdv st))).1 = true := b2i_n0.mp (by rw [← hb_10]; exact c27); have nc36 : ¬ (pTake T 61 ((pTake T 3 ((pAdv st))).2)).1 = true := (by have q := b2i_0.mp (by rw [← hb_14]; exact c36); rw [q]; decide); unfold pLet; rw [if_pos nc27, if_neg nc36]; rfl), hF, (by have nc27 : (pTake T 3 ((pAdv st))).1 = true := b2i_n0.mp (by rw [← hb_10]; exact c27); have nc36 : ¬ (pTake T 61 ((pTake T 3 ((pAdv st))).2)).1 = true := (by have q := b2i_0.mp (by rw [← hb_14]; exact c36); rw [q]; decide); unfold pLet; rw [if_pos nc27, if_neg nc36]; exact hp)⟩
    · refine lv_aload_n hx hb dP_letTerm_39 rfl (lv_at hl 1 rfl) ?_
      refine lv_iload_n hx hb dP_letTerm_40 rfl (lv_at hl 2 rfl) ?_
      refine x_calli (x_runV (n := 1) (As := [.int (nI (12 - d))]) (rest := []) ⟨hx, hb, hml, hown, hts⟩ (HS ws_16 ((pTake T 61 ((pTake T 3 ((pAdv st))).2)).2) hp) tw_321 tw_323 ts_P_sum tw_4 tw_324 (by decide +kernel) rfl rfl (xR_ok (by omega) (by omega)) ⟨Nat.zero_le _, Nat.zero_le _⟩ (va_recv hK hP (ci := 1) (q0 := k) rfl q_170) hK hP hD hS hA hN rfl hl.1 rfl (lv_room (Nat.le_of_ble_eq_true rfl)) dP_letTerm_41) hS (fun rb_19 ws_20 H locs hb_18 hP hD hS => ?_)
      obtain ⟨hb_18, hF9, hp⟩ := hb_18
      have hF := hF.tr hF9
      obtain ⟨q_210, q_21t, q_21p, q_21s, q_21a⟩ := id hp
      obtain ⟨fsTq_21, htoq_21⟩ := q_21t.obj
      obtain ⟨fsPq_21, hpoq_21⟩ := q_21p.obj
      refine lv_if_eq (tgt := 56) hx hb dP_letTerm_44 (by decide) (fun c44 => ?_) (fun c44 => ?_)
      · refine lv_iconst (v := 0) hx hb dP_letTerm_56 (by decide) ?_
        exact x_zret hx hb hr rfl hlk hK hP hD hS dP_letTerm_57 ⟨(by have nc27 : (pTake T 3 ((pAdv st))).1 = true := b2i_n0.mp (by rw [← hb_10]; exact c27); have nc36 : (pTake T 61 ((pTake T 3 ((pAdv st))).2)).1 = true := b2i_n0.mp (by rw [← hb_14]; exact c36); have nc44 : ¬ (pSum T (pTerm T d) ((pTake T 61 ((pTake T 3 ((pAdv st))).2)).2)).1 = true := (by have q := b2i_0.mp (by rw [← hb_18]; exact c44); rw [q]; decide); unfold pLet; rw [if_pos nc27, if_pos nc36, if_neg nc44]; rfl), hF, (by have nc27 : (pTake T 3 ((pAdv st))).1 = true := b2i_n0.mp (by rw [← hb_10]; exact c27); have nc36 : (pTake T 61 ((pTake T 3 ((pAdv st))).2)).1 = true := b2i_n0.mp (by rw [← hb_14]; exact c36); have nc44 : ¬ (pSum T (pTerm T d) ((pTake T 61 ((pTake T 3 ((pAdv st))).2)).2)).1 = true := (by have q := b2i_0.mp (by rw [← hb_18]; exact c44); rw [q]; decide); unfold pLet; rw [if_pos nc27, if_pos nc36, if_neg nc44]; exact hp)⟩
      · refine lv_aload_n hx hb dP_letTerm_47 rfl (lv_at hl 1 rfl) ?_
        refine lv_bipush (v := 13) hx hb dP_letTerm_48 (by decide) ?_
        refine x_calli (x_runV (n := 1) (As := [.int 13]) (rest := []) ⟨hx, hb, hml, hown, hts⟩ (cP_take l D tys A ws_20 cI hI ad k T ((pSum T (pTerm T d) ((pTake T 61 ((pTake T 3 ((pAdv st))).2)).2)).2) 13 (by decide) hp) tw_354 tw_356 ts_P_take tw_4 tw_357 (by decide +kernel) rfl rfl (xR_ok (by omega) (by omega)) ⟨Nat.zero_le _, Nat.zero_le _⟩ (va_recv hK hP (ci := 1) (q0 := k) rfl q_210) hK hP hD hS hA hN rfl hl.1 rfl (lv_room (Nat.le_of_ble_eq_true rfl)) dP_letTerm_50) hS (fun rb_23 ws_24 H locs hb_22 hP hD hS => ?_)
        obtain ⟨hb_22, hF9, hp⟩ := hb_22
        have hF := hF.tr hF9
        obtain ⟨q_250, q_25t, q_25p, q_25s, q_25a⟩ := id hp
        obtain ⟨fsTq_25, htoq_25⟩ := q_25t.obj
        obtain ⟨fsPq_25, hpoq_25⟩ := q_25p.obj
        refine lv_if_ne (tgt := 58) hx hb dP_letTerm_53 (by decide) (fun c53 => ?_) (fun c53 => ?_)
        · refine lv_aload_n hx hb dP_letTerm_58 rfl (lv_at hl 1 rfl) ?_
          refine lv_iload_n hx hb dP_letTerm_59 rfl (lv_at hl 0 rfl) ?_
          refine x_calli (x_runV (n := 1) (As := [.int rvl]) (rest := []) ⟨hx, hb, hml, hown, hts⟩ (cP_slotOf l D tys A ws_24 cI hI ad k T ((pTake T 13 ((pSum T (pTerm T d) ((pTake T 61 ((pTake T 3 ((pAdv st))).2)).2)).2)).2) rvl hp) tw_350 tw_352 ts_P_slotOf tw_4 tw_353 (by decide +kernel) rfl rfl (xR_ok (by omega) (by omega)) ⟨Nat.zero_le _, Nat.zero_le _⟩ (va_recv hK hP (ci := 1) (q0 := k) rfl q_250) hK hP hD hS hA hN rfl hl.1 rfl (lv_room (Nat.le_of_ble_eq_true rfl)) dP_letTerm_60) hS (fun rsl ws_26 H locs hsl hP hD hS => ?_)
          obtain ⟨hsl, rfl⟩ := hsl
          refine lv_istore_n (lv' := [(3, .int rsl), (2, .int rvl), (0, .ref (ad k)), (1, .int (nI (12 - d)))]) hx hb dP_letTerm_63 rfl hl (by decide) rfl (fun ls hl => ?_)
          refine lv_aload_n hx hb dP_letTerm_64 rfl (lv_at hl 2 rfl) ?_
          refine lv_bipush (v := 12) hx hb dP_letTerm_65 (by decide) ?_
          refine lv_aload_n hx hb dP_letTerm_67 rfl (lv_at hl 2 rfl) ?_
          refine va_get (D := D) (cl := xCl) (ci := 1) (v := .int (nI ((pTake T 13 ((pSum T (pTerm T d) ((pTake T 61 ((pTake T 3 ((pAdv st))).2)).2)).2)).2).2.2.2)) (C := rnP) (T := tbP) (N := 5) hx hb hts inP hown hK hP k q_250 rfl 4 (by decide) (hts _ tw_101) (fun _ h9 => h9) rfl dP_letTerm_68 ?_
          refine x_callv (x_runV (n := 2) (As := [.int 12, .int (nI ((pTake T 13 ((pSum T (pTerm T d) ((pTake T 61 ((pTake T 3 ((pAdv st))).2)).2)).2)).2).2.2.2)]) (rest := []) ⟨hx, hb, hml, hown, hts⟩ (cP_emit l D tys A ws_24 cI hI ad k T ((pTake T 13 ((pSum T (pTerm T d) ((pTake T 61 ((pTake T 3 ((pAdv st))).2)).2)).2)).2) 12 ((nI ((pTake T 13 ((pSum T (pTerm T d) ((pTake T 61 ((pTake T 3 ((pAdv st))).2)).2)).2)).2).2.2.2)) hp) tw_337 tw_339 ts_P_emit tw_4 tw_340 (by decide +kernel) rfl rfl (xR_ok (by omega) (by omega)) ⟨Nat.zero_le _, Nat.zero_le _⟩ (va_recv hK hP (ci := 1) (q0 := k) rfl q_250) hK hP hD hS hA hN rfl hl.1 rfl (lv_room (Nat.le_of_ble_eq_true rfl)) dP_letTerm_71) hS (fun ws_28 H locs hv_27 hP hD hS => ?_)
          obtain ⟨hF9, hp⟩ := hv_27
          have hF := hF.tr hF9
          obtain ⟨q_290, q_29t, q_29p, q_29s, q_29a⟩ := id hp
          obtain ⟨fsTq_29, htoq_29⟩ := q_29t.obj
          obtain ⟨fsPq_29, hpoq_29⟩ := q_29p.obj
          refine lv_aload_n hx hb dP_letTerm_74 rfl (lv_at hl 2 rfl) ?_
          refine lv_iload_n hx hb dP_letTerm_75 rfl (lv_at hl 1 rfl) ?_
          refine lv_aload_n hx hb dP_letTerm_76 rfl (lv_at hl 2 rfl) ?_
          refine va_get (D := D) (cl := xCl) (ci := 1) (v := .int (nI ((pEmit T 12 ((nI ((pTake T 13 ((pSum T (pTerm T d) ((pTake T 61 ((pTake T 3 ((pAdv st))).2)).2)).2)).2).2.2.2)) ((pTake T 13 ((pSum T (pTerm T d) ((pTake T 61 ((pTake T 3 ((pAdv st))).2)).2)).2)).2))).2.2.2)) (C := rnP) (T := tbP) (N := 5) hx hb hts inP hown hK hP k q_290 rfl 4 (by decide) (hts _ tw_101) (fun _ h9 => h9) rfl dP_letTerm_77 ?_
          refine x_callv (x_runV (n := 2) (As := [.int rvl, .int (nI ((pEmit T 12 ((nI ((pTake T 13 ((pSum T (pTerm T d) ((pTake T 61 ((pTake T 3 ((pAdv st))).2)).2)).2)).2).2.2.2)) ((pTake T 13 ((pSum T (pTerm T d) ((pTake T 61 ((pTake T 3 ((pAdv st))).2)).2)).2)).2))).2.2.2)]) (rest := []) ⟨hx, hb, hml, hown, hts⟩ (cP_setSlot l D tys A ws_28 cI hI ad k T ((pEmit T 12 ((nI ((pTake T 13 ((pSum T (pTerm T d) ((pTake T 61 ((pTake T 3 ((pAdv st))).2)).2)).2)).2).2.2.2)) ((pTake T 13 ((pSum T (pTerm T d) ((pTake T 61 ((pTake T 3 ((pAdv st))).2)).2)).2)).2))) rvl ((nI ((pEmit T 12 ((nI ((pTake T 13 ((pSum T (pTerm T d) ((pTake T 61 ((pTake T 3 ((pAdv st))).2)).2)).2)).2).2.2.2)) ((pTake T 13 ((pSum T (pTerm T d) ((pTake T 61 ((pTake T 3 ((pAdv st))).2)).2)).2)).2))).2.2.2)) hp) tw_378 tw_380 ts_P_setSlot tw_4 tw_381 (by decide +kernel) rfl rfl (xR_ok (by omega) (by omega)) ⟨Nat.zero_le _, Nat.zero_le _⟩ (va_recv hK hP (ci := 1) (q0 := k) rfl q_290) hK hP hD hS hA hN rfl hl.1 rfl (lv_room (Nat.le_of_ble_eq_true rfl)) dP_letTerm_80) hS (fun ws_31 H locs hv_30 hP hD hS => ?_)
          obtain ⟨hF9, hp⟩ := hv_30
          have hF := hF.tr hF9
          obtain ⟨q_320, q_32t, q_32p, q_32s, q_32a⟩ := id hp
          obtain ⟨fsTq_32, htoq_32⟩ := q_32t.obj
          obtain ⟨fsPq_32, hpoq_32⟩ := q_32p.obj
          refine lv_aload_n hx hb dP_letTerm_83 rfl (lv_at hl 2 rfl) ?_
          refine lv_dup hx hb dP_letTerm_84 rfl ?_
          refine va_get (D := D) (cl := xCl) (ci := 1) (v := .int (nI ((pSet rvl ((nI ((pEmit T 12 ((nI ((pTake T 13 ((pSum T (pTerm T d) ((pTake T 61 ((pTake T 3 ((pAdv st))).2)).2)).2)).2).2.2.2)) ((pTake T 13 ((pSum T (pTerm T d) ((pTake T 61 ((pTake T 3 ((pAdv st))).2)).2)).2)).2))).2.2.2)) ((pEmit T 12 ((nI ((pTake T 13 ((pSum T (pTerm T d) ((pTake T 61 ((pTake T 3 ((pAdv st))).2)).2)).2)).2).2.2.2)) ((pTake T 13 ((pSum T (pTerm T d) ((pTake T 61 ((pTake T 3 ((pAdv st))).2)).2)).2)).2))))).2.2.2)) (C := rnP) (T := tbP) (N := 5) hx hb hts inP hown hK hP k q_320 rfl 4 (by decide) (hts _ tw_101) (fun _ h9 => h9) rfl dP_letTerm_85 ?_
          refine lv_iconst (v := 1) hx hb dP_letTerm_88 (by decide) ?_
          refine lv_iadd hx hb dP_letTerm_89 ?_
          refine lv_topi (fun v_33 ev_33 => ?_)
          refine va_put (D := D) (cl := xCl) (ci := 1) (v := .int v_33) (ty := .int) (C := rnP) (T := tbP) (N := 5) hx hb hts inP tyP toP nmP hown hK hP hD hS k q_320 rfl 4 (by decide) (hts _ tw_101) (fun _ h9 => h9) rfl (by decide +kernel) rfl rfl (Nat.le_of_ble_eq_true rfl) dP_letTerm_90 (fun H locs hP hD hS => ?_)
          obtain ⟨ws_35, hu_34, hP, hD⟩ := x_gen q_320 hP hD
          have h_36 : ws_35[k]? = some (ad k, .inr (1, [.ref (ad (k + 1)), .ref (ad (k + 5)), .ref (ad (k + 9)), .int (nI ((pSet rvl ((nI ((pEmit T 12 ((nI ((pTake T 13 ((pSum T (pTerm T d) ((pTake T 61 ((pTake T 3 ((pAdv st))).2)).2)).2)).2).2.2.2)) ((pTake T 13 ((pSum T (pTerm T d) ((pTake T 61 ((pTake T 3 ((pAdv st))).2)).2)).2)).2))).2.2.2)) ((pEmit T 12 ((nI ((pTake T 13 ((pSum T (pTerm T d) ((pTake T 61 ((pTake T 3 ((pAdv st))).2)).2)).2)).2).2.2.2)) ((pTake T 13 ((pSum T (pTerm T d) ((pTake T 61 ((pTake T 3 ((pAdv st))).2)).2)).2)).2))))).1), .int v_33])) := hu_34.1
          have h_37 := (hu_34.2 (k + 1) (by omega)).trans htoq_32
          have h_38 := (hu_34.2 (k + 5) (by omega)).trans hpoq_32
          have h_39 := (hu_34.2 (k + 9) (by omega)).trans q_32s
          have hp := hp.opn (n := ((pTake T 13 ((pSum T (pTerm T d) ((pTake T 61 ((pTake T 3 ((pAdv st))).2)).2)).2)).2).2.2.2 + 1) hu_34 (by rw [ev_33, nI_1]; rfl)
          have hF := hF.tr (hu_34.fr (a := k) (b := k + 10) (by omega) (by omega))
          obtain ⟨q_400, q_40t, q_40p, q_40s, q_40a⟩ := id hp
          obtain ⟨fsTq_40, htoq_40⟩ := q_40t.obj
          obtain ⟨fsPq_40, hpoq_40⟩ := q_40p.obj
          refine lv_aload_n hx hb dP_letTerm_93 rfl (lv_at hl 2 rfl) ?_
          refine lv_iload_n hx hb dP_letTerm_94 rfl (lv_at hl 3 rfl) ?_
          refine x_calli (x_runV (n := 1) (As := [.int (nI (12 - d))]) (rest := []) ⟨hx, hb, hml, hown, hts⟩ (HS ws_35 ((pOpen (((pTake T 13 ((pSum T (pTerm T d) ((pTake T 61 ((pTake T 3 ((pAdv st))).2)).2)).2)).2).2.2.2 + 1) ((pSet rvl ((nI ((pEmit T 12 ((nI ((pTake T 13 ((pSum T (pTerm T d) ((pTake T 61 ((pTake T 3 ((pAdv st))).2)).2)).2)).2).2.2.2)) ((pTake T 13 ((pSum T (pTerm T d) ((pTake T 61 ((pTake T 3 ((pAdv st))).2)).2)).2)).2))).2.2.2)) ((pEmit T 12 ((nI ((pTake T 13 ((pSum T (pTerm T d) ((pTake T 61 ((pTake T 3 ((pAdv st))).2)).2)).2)).2).2.2.2)) ((pTake T 13 ((pSum T (pTerm T d) ((pTake T 61 ((pTake T 3 ((pAdv st))).2)).2)).2)).2))))))) hp) tw_321 tw_323 ts_P_sum tw_4 tw_324 (by decide +kernel) rfl rfl (xR_ok (by omega) (by omega)) ⟨Nat.zero_le _, Nat.zero_le _⟩ (va_recv hK hP (ci := 1) (q0 := k) rfl q_400) hK hP hD hS hA hN rfl hl.1 rfl (lv_room (Nat.le_of_ble_eq_true rfl)) dP_letTerm_95) hS (fun rb_42 ws_43 H locs hb_41 hP hD hS => ?_)
          obtain ⟨hb_41, hF9, hp⟩ := hb_41
          have hF := hF.tr hF9
          obtain ⟨q_440, q_44t, q_44p, q_44s, q_44a⟩ := id hp
          obtain ⟨fsTq_44, htoq_44⟩ := q_44t.obj
          obtain ⟨fsPq_44, hpoq_44⟩ := q_44p.obj
          refine lv_istore (lv' := [(4, .int rb_42), (3, .int rsl), (2, .int rvl), (0, .ref (ad k)), (1, .int (nI (12 - d)))]) hx hb dP_letTerm_98 hl (by decide) rfl (fun ls hl => ?_)
          refine lv_aload_n hx hb dP_letTerm_100 rfl (lv_at hl 3 rfl) ?_
          refine lv_dup hx hb dP_letTerm_101 rfl ?_
          refine va_get (D := D) (cl := xCl) (ci := 1) (v := .int (nI ((pSum T (pTerm T d) ((pOpen (((pTake T 13 ((pSum T (pTerm T d) ((pTake T 61 ((pTake T 3 ((pAdv st))).2)).2)).2)).2).2.2.2 + 1) ((pSet rvl ((nI ((pEmit T 12 ((nI ((pTake T 13 ((pSum T (pTerm T d) ((pTake T 61 ((pTake T 3 ((pAdv st))).2)).2)).2)).2).2.2.2)) ((pTake T 13 ((pSum T (pTerm T d) ((pTake T 61 ((pTake T 3 ((pAdv st))).2)).2)).2)).2))).2.2.2)) ((pEmit T 12 ((nI ((pTake T 13 ((pSum T (pTerm T d) ((pTake T 61 ((pTake T 3 ((pAdv st))).2)).2)).2)).2).2.2.2)) ((pTake T 13 ((pSum T (pTerm T d) ((pTake T 61 ((pTake T 3 ((pAdv st))).2)).2)).2)).2)))))))).2).2.2.2)) (C := rnP) (T := tbP) (N := 5) hx hb hts inP hown hK hP k q_440 rfl 4 (by decide) (hts _ tw_101) (fun _ h9 => h9) rfl dP_letTerm_102 ?_
          refine lv_iconst (v := 1) hx hb dP_letTerm_105 (by decide) ?_
          refine lv_isub hx hb dP_letTerm_106 ?_
          refine lv_topi (fun v_45 ev_45 => ?_)
          refine va_put (D := D) (cl := xCl) (ci := 1) (v := .int v_45) (ty := .int) (C := rnP) (T := tbP) (N := 5) hx hb hts inP tyP toP nmP hown hK hP hD hS k q_440 rfl 4 (by decide) (hts _ tw_101) (fun _ h9 => h9) rfl (by decide +kernel) rfl rfl (Nat.le_of_ble_eq_true rfl) dP_letTerm_107 (fun H locs hP hD hS => ?_)
          obtain ⟨ws_47, hu_46, hP, hD⟩ := x_gen q_440 hP hD
          have h_48 : ws_47[k]? = some (ad k, .inr (1, [.ref (ad (k + 1)), .ref (ad (k + 5)), .ref (ad (k + 9)), .int (nI ((pSum T (pTerm T d) ((pOpen (((pTake T 13 ((pSum T (pTerm T d) ((pTake T 61 ((pTake T 3 ((pAdv st))).2)).2)).2)).2).2.2.2 + 1) ((pSet rvl ((nI ((pEmit T 12 ((nI ((pTake T 13 ((pSum T (pTerm T d) ((pTake T 61 ((pTake T 3 ((pAdv st))).2)).2)).2)).2).2.2.2)) ((pTake T 13 ((pSum T (pTerm T d) ((pTake T 61 ((pTake T 3 ((pAdv st))).2)).2)).2)).2))).2.2.2)) ((pEmit T 12 ((nI ((pTake T 13 ((pSum T (pTerm T d) ((pTake T 61 ((pTake T 3 ((pAdv st))).2)).2)).2)).2).2.2.2)) ((pTake T 13 ((pSum T (pTerm T d) ((pTake T 61 ((pTake T 3 ((pAdv st))).2)).2)).2)).2)))))))).2).1), .int v_45])) := hu_46.1
          have h_49 := (hu_46.2 (k + 1) (by omega)).trans htoq_44
          have h_50 := (hu_46.2 (k + 5) (by omega)).trans hpoq_44
          have h_51 := (hu_46.2 (k + 9) (by omega)).trans q_44s
          have hpo9 : ((pSum T (pTerm T d) ((pOpen (((pTake T 13 ((pSum T (pTerm T d) ((pTake T 61 ((pTake T 3 ((pAdv st))).2)).2)).2)).2).2.2.2 + 1) ((pSet rvl ((nI ((pEmit T 12 ((nI ((pTake T 13 ((pSum T (pTerm T d) ((pTake T 61 ((pTake T 3 ((pAdv st))).2)).2)).2)).2).2.2.2)) ((pTake T 13 ((pSum T (pTerm T d) ((pTake T 61 ((pTake T 3 ((pAdv st))).2)).2)).2)).2))).2.2.2)) ((pEmit T 12 ((nI ((pTake T 13 ((pSum T (pTerm T d) ((pTake T 61 ((pTake T 3 ((pAdv st))).2)).2)).2)).2).2.2.2)) ((pTake T 13 ((pSum T (pTerm T d) ((pTake T 61 ((pTake T 3 ((pAdv st))).2)).2)).2)).2)))))))).2).2.2.2 = ((pTake T 13 ((pSum T (pTerm T d) ((pTake T 61 ((pTake T 3 ((pAdv st))).2)).2)).2)).2).2.2.2 + 1 := PO_sum (PO_term T d) _
          have hp := hp.opn (n := ((pSum T (pTerm T d) ((pOpen (((pTake T 13 ((pSum T (pTerm T d) ((pTake T 61 ((pTake T 3 ((pAdv st))).2)).2)).2)).2).2.2.2 + 1) ((pSet rvl ((nI ((pEmit T 12 ((nI ((pTake T 13 ((pSum T (pTerm T d) ((pTake T 61 ((pTake T 3 ((pAdv st))).2)).2)).2)).2).2.2.2)) ((pTake T 13 ((pSum T (pTerm T d) ((pTake T 61 ((pTake T 3 ((pAdv st))).2)).2)).2)).2))).2.2.2)) ((pEmit T 12 ((nI ((pTake T 13 ((pSum T (pTerm T d) ((pTake T 61 ((pTake T 3 ((pAdv st))).2)).2)).2)).2).2.2.2)) ((pTake T 13 ((pSum T (pTerm T d) ((pTake T 61 ((pTake T 3 ((pAdv st))).2)).2)).2)).2)))))))).2).2.2.2 - 1) hu_46 (by rw [ev_45, hpo9]; exact nI_pred _)
          have hF := hF.tr (hu_46.fr (a := k) (b := k + 10) (by omega) (by omega))
          obtain ⟨q_520, q_52t, q_52p, q_52s, q_52a⟩ := id hp
          obtain ⟨fsTq_52, htoq_52⟩ := q_52t.obj
          obtain ⟨fsPq_52, hpoq_52⟩ := q_52p.obj
          refine lv_aload_n hx hb dP_letTerm_110 rfl (lv_at hl 3 rfl) ?_
          refine lv_iload_n hx hb dP_letTerm_111 rfl (lv_at hl 2 rfl) ?_
          refine lv_iload_n hx hb dP_letTerm_112 rfl (lv_at hl 1 rfl) ?_
          refine x_callv (x_runV (n := 2) (As := [.int rvl, .int rsl]) (rest := []) ⟨hx, hb, hml, hown, hts⟩ (cP_setSlot l D tys A ws_47 cI hI ad k T ((pOpen (((pSum T (pTerm T d) ((pOpen (((pTake T 13 ((pSum T (pTerm T d) ((pTake T 61 ((pTake T 3 ((pAdv st))).2)).2)).2)).2).2.2.2 + 1) ((pSet rvl ((nI ((pEmit T 12 ((nI ((pTake T 13 ((pSum T (pTerm T d) ((pTake T 61 ((pTake T 3 ((pAdv st))).2)).2)).2)).2).2.2.2)) ((pTake T 13 ((pSum T (pTerm T d) ((pTake T 61 ((pTake T 3 ((pAdv st))).2)).2)).2)).2))).2.2.2)) ((pEmit T 12 ((nI ((pTake T 13 ((pSum T (pTerm T d) ((pTake T 61 ((pTake T 3 ((pAdv st))).2)).2)).2)).2).2.2.2)) ((pTake T 13 ((pSum T (pTerm T d) ((pTake T 61 ((pTake T 3 ((pAdv st))).2)).2)).2)).2)))))))).2).2.2.2 - 1) ((pSum T (pTerm T d) ((pOpen (((pTake T 13 ((pSum T (pTerm T d) ((pTake T 61 ((pTake T 3 ((pAdv st))).2)).2)).2)).2).2.2.2 + 1) ((pSet rvl ((nI ((pEmit T 12 ((nI ((pTake T 13 ((pSum T (pTerm T d) ((pTake T 61 ((pTake T 3 ((pAdv st))).2)).2)).2)).2).2.2.2)) ((pTake T 13 ((pSum T (pTerm T d) ((pTake T 61 ((pTake T 3 ((pAdv st))).2)).2)).2)).2))).2.2.2)) ((pEmit T 12 ((nI ((pTake T 13 ((pSum T (pTerm T d) ((pTake T 61 ((pTake T 3 ((pAdv st))).2)).2)).2)).2).2.2.2)) ((pTake T 13 ((pSum T (pTerm T d) ((pTake T 61 ((pTake T 3 ((pAdv st))).2)).2)).2)).2)))))))).2))) rvl rsl hp) tw_378 tw_380 ts_P_setSlot tw_4 tw_381 (by decide +kernel) rfl rfl (xR_ok (by omega) (by omega)) ⟨Nat.zero_le _, Nat.zero_le _⟩ (va_recv hK hP (ci := 1) (q0 := k) rfl q_520) hK hP hD hS hA hN rfl hl.1 rfl (lv_room (Nat.le_of_ble_eq_true rfl)) dP_letTerm_113) hS (fun ws_54 H locs hv_53 hP hD hS => ?_)
          obtain ⟨hF9, hp⟩ := hv_53
          have hF := hF.tr hF9
          obtain ⟨q_550, q_55t, q_55p, q_55s, q_55a⟩ := id hp
          obtain ⟨fsTq_55, htoq_55⟩ := q_55t.obj
          obtain ⟨fsPq_55, hpoq_55⟩ := q_55p.obj
          refine lv_iload hx hb dP_letTerm_116 (lv_at hl 0 rfl) ?_
          exact x_zret hx hb hr (by rw [hb_41]; exact b2i_nar _) hlk hK hP hD hS dP_letTerm_118 ⟨(by have nc27 : (pTake T 3 ((pAdv st))).1 = true := b2i_n0.mp (by rw [← hb_10]; exact c27); have nc36 : (pTake T 61 ((pTake T 3 ((pAdv st))).2)).1 = true := b2i_n0.mp (by rw [← hb_14]; exact c36); have nc44 : (pSum T (pTerm T d) ((pTake T 61 ((pTake T 3 ((pAdv st))).2)).2)).1 = true := b2i_n0.mp (by rw [← hb_18]; exact c44); have nc53 : (pTake T 13 ((pSum T (pTerm T d) ((pTake T 61 ((pTake T 3 ((pAdv st))).2)).2)).2)).1 = true := b2i_n0.mp (by rw [← hb_22]; exact c53); unfold pLet; rw [if_pos nc27, if_pos nc36, if_pos nc44, if_pos nc53, ← hvl]; unfold pBound; exact hb_41), hF, (by have nc27 : (pTake T 3 ((pAdv st))).1 = true := b2i_n0.mp (by rw [← hb_10]; exact c27); have nc36 : (pTake T 61 ((pTake T 3 ((pAdv st))).2)).1 = true := b2i_n0.mp (by rw [← hb_14]; exact c36); have nc44 : (pSum T (pTerm T d) ((pTake T 61 ((pTake T 3 ((pAdv st))).2)).2)).1 = true := b2i_n0.mp (by rw [← hb_18]; exact c44); have nc53 : (pTake T 13 ((pSum T (pTerm T d) ((pTake T 61 ((pTake T 3 ((pAdv st))).2)).2)).2)).1 = true := b2i_n0.mp (by rw [← hb_22]; exact c53); unfold pLet; rw [if_pos nc27, if_pos nc36, if_pos nc44, if_pos nc53, ← hvl]; unfold pBound; rw [← hsl]; exact hp)⟩
        · refine lv_iconst (v := 0) hx hb dP_letTerm_56 (by decide) ?_
          exact x_zret hx hb hr rfl hlk hK hP hD hS dP_letTerm_57 ⟨(by have nc27 : (pTake T 3 ((pAdv st))).1 = true := b2i_n0.mp (by rw [← hb_10]; exact c27); have nc36 : (pTake T 61 ((pTake T 3 ((pAdv st))).2)).1 = true := b2i_n0.mp (by rw [← hb_14]; exact c36); have nc44 : (pSum T (pTerm T d) ((pTake T 61 ((pTake T 3 ((pAdv st))).2)).2)).1 = true := b2i_n0.mp (by rw [← hb_18]; exact c44); have nc53 : ¬ (pTake T 13 ((pSum T (pTerm T d) ((pTake T 61 ((pTake T 3 ((pAdv st))).2)).2)).2)).1 = true := (by have q := b2i_0.mp (by rw [← hb_22]; exact c53); rw [q]; decide); unfold pLet; rw [if_pos nc27, if_pos nc36, if_pos nc44, if_neg nc53]; rfl), hF, (by have nc27 : (pTake T 3 ((pAdv st))).1 = true := b2i_n0.mp (by rw [← hb_10]; exact c27); have nc36 : (pTake T 61 ((pTake T 3 ((pAdv st))).2)).1 = true := b2i_n0.mp (by rw [← hb_14]; exact c36); have nc44 : (pSum T (pTerm T d) ((pTake T 61 ((pTake T 3 ((pAdv st))).2)).2)).1 = true := b2i_n0.mp (by rw [← hb_18]; exact c44); have nc53 : ¬ (pTake T 13 ((pSum T (pTerm T d) ((pTake T 61 ((pTake T 3 ((pAdv st))).2)).2)).2)).1 = true := (by have q := b2i_0.mp (by rw [← hb_22]; exact c53); rw [q]; decide); unfold pLet; rw [if_pos nc27, if_pos nc36, if_pos nc44, if_neg nc53]; exact hp)⟩

theorem sw_term (x : Int32) : x = 2 ∨ x = 3 ∨ x = 5 ∨ x = 6 ∨ x = 7 ∨ x = 8 ∨ x = 9 ∨ x = 10 ∨ x = 11 ∨ x = 12 ∨ x = 40 ∨ (¬ x = 2 ∧ ¬ x = 3 ∧ ¬ x = 5 ∧ ¬ x = 6 ∧ ¬ x = 7 ∧ ¬ x = 8 ∧ ¬ x = 9 ∧ ¬ x = 10 ∧ ¬ x = 11 ∧ ¬ x = 12 ∧ ¬ x = 40) := by
  by_cases h2 : x = 2
  · exact Or.inl h2
  by_cases h3 : x = 3
  · exact Or.inr (Or.inl h3)
  by_cases h5 : x = 5
  · exact Or.inr (Or.inr (Or.inl h5))
  by_cases h6 : x = 6
  · exact Or.inr (Or.inr (Or.inr (Or.inl h6)))
  by_cases h7 : x = 7
  · exact Or.inr (Or.inr (Or.inr (Or.inr (Or.inl h7))))
  by_cases h8 : x = 8
  · exact Or.inr (Or.inr (Or.inr (Or.inr (Or.inr (Or.inl h8)))))
  by_cases h9 : x = 9
  · exact Or.inr (Or.inr (Or.inr (Or.inr (Or.inr (Or.inr (Or.inl h9))))))
  by_cases h10 : x = 10
  · exact Or.inr (Or.inr (Or.inr (Or.inr (Or.inr (Or.inr (Or.inr (Or.inl h10)))))))
  by_cases h11 : x = 11
  · exact Or.inr (Or.inr (Or.inr (Or.inr (Or.inr (Or.inr (Or.inr (Or.inr (Or.inl h11))))))))
  by_cases h12 : x = 12
  · exact Or.inr (Or.inr (Or.inr (Or.inr (Or.inr (Or.inr (Or.inr (Or.inr (Or.inr (Or.inl h12)))))))))
  by_cases h40 : x = 40
  · exact Or.inr (Or.inr (Or.inr (Or.inr (Or.inr (Or.inr (Or.inr (Or.inr (Or.inr (Or.inr (Or.inl h40))))))))))
  exact Or.inr (Or.inr (Or.inr (Or.inr (Or.inr (Or.inr (Or.inr (Or.inr (Or.inr (Or.inr (Or.inr (⟨h2, h3, h5, h6, h7, h8, h9, h10, h11, h12, h40⟩)))))))))))
theorem sw_offs : ∀ n, n < 39 → (¬ n = 0 ∧ ¬ n = 1 ∧ ¬ n = 3 ∧ ¬ n = 4 ∧ ¬ n = 5 ∧ ¬ n = 6 ∧ ¬ n = 7 ∧ ¬ n = 8 ∧ ¬ n = 9 ∧ ¬ n = 10 ∧ ¬ n = 38) → (#[171, 199, 281, 171, 239, 239, 257, 265, 248, 248, 273, 281, 281, 281, 281, 281, 281, 281, 281, 281, 281, 281, 281, 281, 281, 281, 281, 281, 281, 281, 281, 281, 281, 281, 281, 281, 281, 281, 204] : Array Int)[n]? = some 281 := by decide +kernel
theorem pTerm_no {T : List Tok} {d : Nat} {st : PSt} {x : Int32} (e : x = (tkAt T st).1) (h : ¬ x = 2 ∧ ¬ x = 3 ∧ ¬ x = 5 ∧ ¬ x = 6 ∧ ¬ x = 7 ∧ ¬ x = 8 ∧ ¬ x = 9 ∧ ¬ x = 10 ∧ ¬ x = 11 ∧ ¬ x = 12 ∧ ¬ x = 40) : pTerm T (d + 1) st = (false, st) := by
  obtain ⟨h2, h3, h5, h6, h7, h8, h9, h10, h11, h12, h40⟩ := h
  unfold pTerm
  rw [← e, if_neg (not_or.mpr ⟨h2, h5⟩), if_neg h3, if_neg h40, if_neg (not_or.mpr ⟨h6, h7⟩), if_neg (not_or.mpr ⟨h10, h11⟩), if_neg h8, if_neg h9, if_neg h12]

theorem b2i_f9 {b : Bool} (h : ¬ b = true) : b2i b = 0 := by cases b; rfl; exact absurd rfl h
theorem b2i_t9 {b : Bool} (h : b = true) : b2i b = 1 := by rw [h]; rfl

set_option maxHeartbeats 4000000 in
set_option maxRecDepth 100000 in
theorem cP_term_s (l : Launch) (D : va_G) (tys : List (ClassId × FieldType)) (A : Nat → Prop) (cI : ClassId) (hI : tys[0]? = some (cI, .int)) (ad : Nat → Nat) (k : Nat) (T : List Tok) (d : Nat) (HS : SumC l D tys A cI ad k T d) (hd : d < 12) : TermC l D tys A cI ad k T (d + 1) := by
  intro ws st hp
  have hF : x_fr k (k + 10) ws ws := x_fr.rf
  obtain ⟨q0, qt, qp, qs, qa⟩ := id hp
  obtain ⟨fsTq, htoq⟩ := qt.obj
  obtain ⟨fsPq, hpoq⟩ := qp.obj
  refine x_enter (by decide) rfl (Nat.le_of_ble_eq_true rfl) (fun p e s m args below meth c ls hx hb hr hlk hml hown hnm hts hK hP hD hS hA hN hl => ?_)
  have hl : lv_has ls 3 [(0, .ref (ad k)), (1, .int (nI (12 - (d + 1))))] := hl
  refine lv_iload_n hx hb dP_term_0 rfl (lv_at hl 1 rfl) ?_
  refine lv_bipush (v := 12) hx hb dP_term_1 (by decide) ?_
  refine lv_icmp_lt (tgt := 8) hx hb dP_term_3 (by decide) (fun c3 => ?_) (fun c3 => ?_)
  · refine lv_aload_n hx hb dP_term_8 rfl (lv_at hl 0 rfl) ?_
    refine va_get (D := D) (cl := xCl) (ci := 1) (v := .ref (ad (k + 1))) (C := rnP) (T := tbP) (N := 5) hx hb hts inP hown hK hP k q0 rfl 0 (by decide) (hts _ tw_97) (fun _ h9 => h9) rfl dP_term_9 ?_
    refine lv_aload_n hx hb dP_term_12 rfl (lv_at hl 0 rfl) ?_
    refine va_get (D := D) (cl := xCl) (ci := 1) (v := .int (nI st.1)) (C := rnP) (T := tbP) (N := 5) hx hb hts inP hown hK hP k q0 rfl 3 (by decide) (hts _ tw_100) (fun _ h9 => h9) rfl dP_term_13 ?_
    refine x_calli (x_runV (n := 1) (As := [.int (nI st.1)]) (rest := []) ⟨hx, hb, hml, hown, hts⟩ (cT_kindAt l D tys A ws cI hI ad (k + 1) T ((nI st.1)) qt) tw_329 tw_330 tw_331 tw_5 tw_332 (by decide +kernel) rfl rfl (xR_ok (by omega) (by omega)) ⟨Nat.zero_le _, Nat.zero_le _⟩ (va_recv hK hP (ci := 4) (q0 := k + 1) rfl htoq) hK hP hD hS hA hN rfl hl.1 rfl (lv_room (Nat.le_of_ble_eq_true rfl)) dP_term_16) hS (fun rkd ws_1 H locs hkd hP hD hS => ?_)
    obtain ⟨hkd, rfl⟩ := hkd
    rw [hp.tk] at hkd
    refine lv_istore_n (lv' := [(2, .int rkd), (0, .ref (ad k)), (1, .int (nI (12 - (d + 1))))]) hx hb dP_term_19 rfl hl (by decide) rfl (fun ls hl => ?_)
    refine lv_iload_n hx hb dP_term_20 rfl (lv_at hl 0 rfl) ?_
    rcases sw_term rkd with rfl | rfl | rfl | rfl | rfl | rfl | rfl | rfl | rfl | rfl | rfl | hno
    · have hkn : ¬ (tkAt T st).1 = 0 := by rw [← hkd]; decide
      refine lv_tableIn (tgt := 192) hx hb dP_term_21 (by decide) (by decide) rfl (by decide) ?_
      refine lv_aload_n hx hb dP_term_192 rfl (lv_at hl 1 rfl) ?_
      refine lv_iload_n hx hb dP_term_193 rfl (lv_at hl 0 rfl) ?_
      refine lv_aload_n hx hb dP_term_194 rfl (lv_at hl 1 rfl) ?_
      refine va_get (D := D) (cl := xCl) (ci := 1) (v := .ref (ad (k + 1))) (C := rnP) (T := tbP) (N := 5) hx hb hts inP hown hK hP k q0 rfl 0 (by decide) (hts _ tw_97) (fun _ h9 => h9) rfl dP_term_195 ?_
      refine lv_aload_n hx hb dP_term_198 rfl (lv_at hl 1 rfl) ?_
      refine va_get (D := D) (cl := xCl) (ci := 1) (v := .int (nI st.1)) (C := rnP) (T := tbP) (N := 5) hx hb hts inP hown hK hP k q0 rfl 3 (by decide) (hts _ tw_100) (fun _ h9 => h9) rfl dP_term_199 ?_
      refine x_calli (x_runV (n := 1) (As := [.int (nI st.1)]) (rest := [.int 2, .ref (ad k)]) ⟨hx, hb, hml, hown, hts⟩ (cT_valueAt l D tys A ws cI hI ad (k + 1) T ((nI st.1)) qt) tw_333 tw_334 tw_335 tw_5 tw_336 (by decide +kernel) rfl rfl (xR_ok (by omega) (by omega)) ⟨Nat.zero_le _, Nat.zero_le _⟩ (va_recv hK hP (ci := 4) (q0 := k + 1) rfl htoq) hK hP hD hS hA hN rfl hl.1 rfl (lv_room (Nat.le_of_ble_eq_true rfl)) dP_term_202) hS (fun rvl ws_2 H locs hvl hP hD hS => ?_)
      obtain ⟨hvl, rfl⟩ := hvl
      rw [hp.tk] at hvl
      refine x_callv (x_runV (n := 2) (As := [.int 2, .int rvl]) (rest := []) ⟨hx, hb, hml, hown, hts⟩ (cP_emit l D tys A ws cI hI ad k T st 2 rvl hp) tw_337 tw_339 ts_P_emit tw_4 tw_340 (by decide +kernel) rfl rfl (xR_ok (by omega) (by omega)) ⟨Nat.zero_le _, Nat.zero_le _⟩ (va_recv hK hP (ci := 1) (q0 := k) rfl q0) hK hP hD hS hA hN rfl hl.1 rfl (lv_room (Nat.le_of_ble_eq_true rfl)) dP_term_205) hS (fun ws_4 H locs hv_3 hP hD hS => ?_)
      obtain ⟨hF9, hp⟩ := hv_3
      have hF := hF.tr hF9
      obtain ⟨q_50, q_5t, q_5p, q_5s, q_5a⟩ := id hp
      obtain ⟨fsTq_5, htoq_5⟩ := q_5t.obj
      obtain ⟨fsPq_5, hpoq_5⟩ := q_5p.obj
      refine lv_aload_n hx hb dP_term_208 rfl (lv_at hl 1 rfl) ?_
      refine lv_dup hx hb dP_term_209 rfl ?_
      refine va_get (D := D) (cl := xCl) (ci := 1) (v := .int (nI ((pEmit T 2 rvl st)).1)) (C := rnP) (T := tbP) (N := 5) hx hb hts inP hown hK hP k q_50 rfl 3 (by decide) (hts _ tw_100) (fun _ h9 => h9) rfl dP_term_210 ?_
      refine lv_iconst (v := 1) hx hb dP_term_213 (by decide) ?_
      refine lv_iadd hx hb dP_term_214 ?_
      refine lv_topi (fun v_6 ev_6 => ?_)
      refine va_put (D := D) (cl := xCl) (ci := 1) (v := .int v_6) (ty := .int) (C := rnP) (T := tbP) (N := 5) hx hb hts inP tyP toP nmP hown hK hP hD hS k q_50 rfl 3 (by decide) (hts _ tw_100) (fun _ h9 => h9) rfl (by decide +kernel) rfl rfl (Nat.le_of_ble_eq_true rfl) dP_term_215 (fun H locs hP hD hS => ?_)
      obtain ⟨ws_8, hu_7, hP, hD⟩ := x_gen q_50 hP hD
      have h_9 : ws_8[k]? = some (ad k, .inr (1, [.ref (ad (k + 1)), .ref (ad (k + 5)), .ref (ad (k + 9)), .int v_6, .int (nI ((pEmit T 2 rvl st)).2.2.2)])) := hu_7.1
      have h_10 := (hu_7.2 (k + 1) (by omega)).trans htoq_5
      have h_11 := (hu_7.2 (k + 5) (by omega)).trans hpoq_5
      have h_12 := (hu_7.2 (k + 9) (by omega)).trans q_5s
      have hp := hp.adv hu_7 ev_6 (hkn)
      have hF := hF.tr (hu_7.fr (a := k) (b := k + 10) (by omega) (by omega))
      obtain ⟨q_130, q_13t, q_13p, q_13s, q_13a⟩ := id hp
      obtain ⟨fsTq_13, htoq_13⟩ := q_13t.obj
      obtain ⟨fsPq_13, hpoq_13⟩ := q_13p.obj
      refine lv_iconst (v := 1) hx hb dP_term_218 (by decide) ?_
      exact x_zret hx hb hr rfl hlk hK hP hD hS dP_term_219 ⟨(by unfold pTerm; rw [← hkd, if_pos (by decide)]; rfl), hF, (by unfold pTerm; rw [← hkd, if_pos (by decide)]; rw [← hvl]; exact hp)⟩
    · have hkn : ¬ (tkAt T st).1 = 0 := by rw [← hkd]; decide
      refine lv_tableIn (tgt := 220) hx hb dP_term_21 (by decide) (by decide) rfl (by decide) ?_
      refine lv_aload_n hx hb dP_term_220 rfl (lv_at hl 1 rfl) ?_
      refine x_calli (x_runV (n := 0) (As := []) (rest := []) ⟨hx, hb, hml, hown, hts⟩ (cP_letterTerm l D tys A ws cI hI ad k T st hkn hp) tw_346 tw_348 ts_P_letterTerm tw_4 tw_349 (by decide +kernel) rfl rfl (xR_ok (by omega) (by omega)) ⟨Nat.zero_le _, Nat.zero_le _⟩ (va_recv hK hP (ci := 1) (q0 := k) rfl q0) hK hP hD hS hA hN rfl hl.1 rfl (lv_room (Nat.le_of_ble_eq_true rfl)) dP_term_221) hS (fun rb_15 ws_16 H locs hb_14 hP hD hS => ?_)
      obtain ⟨hb_14, hF9, hp⟩ := hb_14
      have hF := hF.tr hF9
      obtain ⟨q_170, q_17t, q_17p, q_17s, q_17a⟩ := id hp
      obtain ⟨fsTq_17, htoq_17⟩ := q_17t.obj
      obtain ⟨fsPq_17, hpoq_17⟩ := q_17p.obj
      exact x_zret hx hb hr (by rw [hb_14]; exact b2i_nar _) hlk hK hP hD hS dP_term_224 ⟨(by unfold pTerm; rw [← hkd, if_neg (by decide), if_pos (by decide)]; exact hb_14), hF, (by unfold pTerm; rw [← hkd, if_neg (by decide), if_pos (by decide)]; exact hp)⟩
    · have hkn : ¬ (tkAt T st).1 = 0 := by rw [← hkd]; decide
      refine lv_tableIn (tgt := 192) hx hb dP_term_21 (by decide) (by decide) rfl (by decide) ?_
      refine lv_aload_n hx hb dP_term_192 rfl (lv_at hl 1 rfl) ?_
      refine lv_iload_n hx hb dP_term_193 rfl (lv_at hl 0 rfl) ?_
      refine lv_aload_n hx hb dP_term_194 rfl (lv_at hl 1 rfl) ?_
      refine va_get (D := D) (cl := xCl) (ci := 1) (v := .ref (ad (k + 1))) (C := rnP) (T := tbP) (N := 5) hx hb hts inP hown hK hP k q0 rfl 0 (by decide) (hts _ tw_97) (fun _ h9 => h9) rfl dP_term_195 ?_
      refine lv_aload_n hx hb dP_term_198 rfl (lv_at hl 1 rfl) ?_
      refine va_get (D := D) (cl := xCl) (ci := 1) (v := .int (nI st.1)) (C := rnP) (T := tbP) (N := 5) hx hb hts inP hown hK hP k q0 rfl 3 (by decide) (hts _ tw_100) (fun _ h9 => h9) rfl dP_term_199 ?_
      refine x_calli (x_runV (n := 1) (As := [.int (nI st.1)]) (rest := [.int 5, .ref (ad k)]) ⟨hx, hb, hml, hown, hts⟩ (cT_valueAt l D tys A ws cI hI ad (k + 1) T ((nI st.1)) qt) tw_333 tw_334 tw_335 tw_5 tw_336 (by decide +kernel) rfl rfl (xR_ok (by omega) (by omega)) ⟨Nat.zero_le _, Nat.zero_le _⟩ (va_recv hK hP (ci := 4) (q0 := k + 1) rfl htoq) hK hP hD hS hA hN rfl hl.1 rfl (lv_room (Nat.le_of_ble_eq_true rfl)) dP_term_202) hS (fun rvl ws_18 H locs hvl hP hD hS => ?_)
      obtain ⟨hvl, rfl⟩ := hvl
      rw [hp.tk] at hvl
      refine x_callv (x_runV (n := 2) (As := [.int 5, .int rvl]) (rest := []) ⟨hx, hb, hml, hown, hts⟩ (cP_emit l D tys A ws cI hI ad k T st 5 rvl hp) tw_337 tw_339 ts_P_emit tw_4 tw_340 (by decide +kernel) rfl rfl (xR_ok (by omega) (by omega)) ⟨Nat.zero_le _, Nat.zero_le _⟩ (va_recv hK hP (ci := 1) (q0 := k) rfl q0) hK hP hD hS hA hN rfl hl.1 rfl (lv_room (Nat.le_of_ble_eq_true rfl)) dP_term_205) hS (fun ws_20 H locs hv_19 hP hD hS => ?_)
      obtain ⟨hF9, hp⟩ := hv_19
      have hF := hF.tr hF9
      obtain ⟨q_210, q_21t, q_21p, q_21s, q_21a⟩ := id hp
      obtain ⟨fsTq_21, htoq_21⟩ := q_21t.obj
      obtain ⟨fsPq_21, hpoq_21⟩ := q_21p.obj
      refine lv_aload_n hx hb dP_term_208 rfl (lv_at hl 1 rfl) ?_
      refine lv_dup hx hb dP_term_209 rfl ?_
      refine va_get (D := D) (cl := xCl) (ci := 1) (v := .int (nI ((pEmit T 5 rvl st)).1)) (C := rnP) (T := tbP) (N := 5) hx hb hts inP hown hK hP k q_210 rfl 3 (by decide) (hts _ tw_100) (fun _ h9 => h9) rfl dP_term_210 ?_
      refine lv_iconst (v := 1) hx hb dP_term_213 (by decide) ?_
      refine lv_iadd hx hb dP_term_214 ?_
      refine lv_topi (fun v_22 ev_22 => ?_)
      refine va_put (D := D) (cl := xCl) (ci := 1) (v := .int v_22) (ty := .int) (C := rnP) (T := tbP) (N := 5) hx hb hts inP tyP toP nmP hown hK hP hD hS k q_210 rfl 3 (by decide) (hts _ tw_100) (fun _ h9 => h9) rfl (by decide +kernel) rfl rfl (Nat.le_of_ble_eq_true rfl) dP_term_215 (fun H locs hP hD hS => ?_)
      obtain ⟨ws_24, hu_23, hP, hD⟩ := x_gen q_210 hP hD
      have h_25 : ws_24[k]? = some (ad k, .inr (1, [.ref (ad (k + 1)), .ref (ad (k + 5)), .ref (ad (k + 9)), .int v_22, .int (nI ((pEmit T 5 rvl st)).2.2.2)])) := hu_23.1
      have h_26 := (hu_23.2 (k + 1) (by omega)).trans htoq_21
      have h_27 := (hu_23.2 (k + 5) (by omega)).trans hpoq_21
      have h_28 := (hu_23.2 (k + 9) (by omega)).trans q_21s
      have hp := hp.adv hu_23 ev_22 (hkn)
      have hF := hF.tr (hu_23.fr (a := k) (b := k + 10) (by omega) (by omega))
      obtain ⟨q_290, q_29t, q_29p, q_29s, q_29a⟩ := id hp
      obtain ⟨fsTq_29, htoq_29⟩ := q_29t.obj
      obtain ⟨fsPq_29, hpoq_29⟩ := q_29p.obj
      refine lv_iconst (v := 1) hx hb dP_term_218 (by decide) ?_
      exact x_zret hx hb hr rfl hlk hK hP hD hS dP_term_219 ⟨(by unfold pTerm; rw [← hkd, if_pos (by decide)]; rfl), hF, (by unfold pTerm; rw [← hkd, if_pos (by decide)]; rw [← hvl]; exact hp)⟩
    · have hkn : ¬ (tkAt T st).1 = 0 := by rw [← hkd]; decide
      refine lv_tableIn (tgt := 260) hx hb dP_term_21 (by decide) (by decide) rfl (by decide) ?_
      refine lv_aload_n hx hb dP_term_260 rfl (lv_at hl 1 rfl) ?_
      refine lv_iload_n hx hb dP_term_261 rfl (lv_at hl 0 rfl) ?_
      refine lv_iload_n hx hb dP_term_262 rfl (lv_at hl 2 rfl) ?_
      refine lv_iconst (v := 1) hx hb dP_term_263 (by decide) ?_
      refine lv_iadd hx hb dP_term_264 ?_
      refine lv_topi (fun v_30 ev_30 => ?_)
      obtain rfl : v_30 = nI (12 - d) := by rw [ev_30, nI_1, show 12 - (d + 1) + 1 = 12 - d by omega]
      refine x_calli (x_runV (n := 2) (As := [.int 6, .int (nI (12 - d))]) (rest := []) ⟨hx, hb, hml, hown, hts⟩ (cP_roundsTerm l D tys A cI hI ad k T d HS hd ws st 6 hkn hp) tw_358 tw_360 ts_P_roundsTerm tw_4 tw_361 (by decide +kernel) rfl rfl (xR_ok (by omega) (by omega)) ⟨Nat.zero_le _, Nat.zero_le _⟩ (va_recv hK hP (ci := 1) (q0 := k) rfl q0) hK hP hD hS hA hN rfl hl.1 rfl (lv_room (Nat.le_of_ble_eq_true rfl)) dP_term_265) hS (fun rb_32 ws_33 H locs hb_31 hP hD hS => ?_)
      obtain ⟨hb_31, hF9, hp⟩ := hb_31
      have hF := hF.tr hF9
      obtain ⟨q_340, q_34t, q_34p, q_34s, q_34a⟩ := id hp
      obtain ⟨fsTq_34, htoq_34⟩ := q_34t.obj
      obtain ⟨fsPq_34, hpoq_34⟩ := q_34p.obj
      exact x_zret hx hb hr (by rw [hb_31]; exact b2i_nar _) hlk hK hP hD hS dP_term_268 ⟨(by unfold pTerm; rw [← hkd, if_neg (by decide), if_neg (by decide), if_neg (by decide), if_pos (by decide)]; exact hb_31), hF, (by unfold pTerm; rw [← hkd, if_neg (by decide), if_neg (by decide), if_neg (by decide), if_pos (by decide)]; exact hp)⟩
    · have hkn : ¬ (tkAt T st).1 = 0 := by rw [← hkd]; decide
      refine lv_tableIn (tgt := 260) hx hb dP_term_21 (by decide) (by decide) rfl (by decide) ?_
      refine lv_aload_n hx hb dP_term_260 rfl (lv_at hl 1 rfl) ?_
      refine lv_iload_n hx hb dP_term_261 rfl (lv_at hl 0 rfl) ?_
      refine lv_iload_n hx hb dP_term_262 rfl (lv_at hl 2 rfl) ?_
      refine lv_iconst (v := 1) hx hb dP_term_263 (by decide) ?_
      refine lv_iadd hx hb dP_term_264 ?_
      refine lv_topi (fun v_35 ev_35 => ?_)
      obtain rfl : v_35 = nI (12 - d) := by rw [ev_35, nI_1, show 12 - (d + 1) + 1 = 12 - d by omega]
      refine x_calli (x_runV (n := 2) (As := [.int 7, .int (nI (12 - d))]) (rest := []) ⟨hx, hb, hml, hown, hts⟩ (cP_roundsTerm l D tys A cI hI ad k T d HS hd ws st 7 hkn hp) tw_358 tw_360 ts_P_roundsTerm tw_4 tw_361 (by decide +kernel) rfl rfl (xR_ok (by omega) (by omega)) ⟨Nat.zero_le _, Nat.zero_le _⟩ (va_recv hK hP (ci := 1) (q0 := k) rfl q0) hK hP hD hS hA hN rfl hl.1 rfl (lv_room (Nat.le_of_ble_eq_true rfl)) dP_term_265) hS (fun rb_37 ws_38 H locs hb_36 hP hD hS => ?_)
      obtain ⟨hb_36, hF9, hp⟩ := hb_36
      have hF := hF.tr hF9
      obtain ⟨q_390, q_39t, q_39p, q_39s, q_39a⟩ := id hp
      obtain ⟨fsTq_39, htoq_39⟩ := q_39t.obj
      obtain ⟨fsPq_39, hpoq_39⟩ := q_39p.obj
      exact x_zret hx hb hr (by rw [hb_36]; exact b2i_nar _) hlk hK hP hD hS dP_term_268 ⟨(by unfold pTerm; rw [← hkd, if_neg (by decide), if_neg (by decide), if_neg (by decide), if_pos (by decide)]; exact hb_36), hF, (by unfold pTerm; rw [← hkd, if_neg (by decide), if_neg (by decide), if_neg (by decide), if_pos (by decide)]; exact hp)⟩
    · have hkn : ¬ (tkAt T st).1 = 0 := by rw [← hkd]; decide
      refine lv_tableIn (tgt := 278) hx hb dP_term_21 (by decide) (by decide) rfl (by decide) ?_
      refine lv_aload_n hx hb dP_term_278 rfl (lv_at hl 1 rfl) ?_
      refine lv_iload_n hx hb dP_term_279 rfl (lv_at hl 2 rfl) ?_
      refine lv_iconst (v := 1) hx hb dP_term_280 (by decide) ?_
      refine lv_iadd hx hb dP_term_281 ?_
      refine lv_topi (fun v_40 ev_40 => ?_)
      obtain rfl : v_40 = nI (12 - d) := by rw [ev_40, nI_1, show 12 - (d + 1) + 1 = 12 - d by omega]
      refine x_calli (x_runV (n := 1) (As := [.int (nI (12 - d))]) (rest := []) ⟨hx, hb, hml, hown, hts⟩ (cP_wayTerm l D tys A cI hI ad k T d HS hd ws st hkn hp) tw_366 tw_368 ts_P_wayTerm tw_4 tw_369 (by decide +kernel) rfl rfl (xR_ok (by omega) (by omega)) ⟨Nat.zero_le _, Nat.zero_le _⟩ (va_recv hK hP (ci := 1) (q0 := k) rfl q0) hK hP hD hS hA hN rfl hl.1 rfl (lv_room (Nat.le_of_ble_eq_true rfl)) dP_term_282) hS (fun rb_42 ws_43 H locs hb_41 hP hD hS => ?_)
      obtain ⟨hb_41, hF9, hp⟩ := hb_41
      have hF := hF.tr hF9
      obtain ⟨q_440, q_44t, q_44p, q_44s, q_44a⟩ := id hp
      obtain ⟨fsTq_44, htoq_44⟩ := q_44t.obj
      obtain ⟨fsPq_44, hpoq_44⟩ := q_44p.obj
      exact x_zret hx hb hr (by rw [hb_41]; exact b2i_nar _) hlk hK hP hD hS dP_term_285 ⟨(by unfold pTerm; rw [← hkd, if_neg (by decide), if_neg (by decide), if_neg (by decide), if_neg (by decide), if_neg (by decide), if_pos (by decide)]; exact hb_41), hF, (by unfold pTerm; rw [← hkd, if_neg (by decide), if_neg (by decide), if_neg (by decide), if_neg (by decide), if_neg (by decide), if_pos (by decide)]; exact hp)⟩
    · have hkn : ¬ (tkAt T st).1 = 0 := by rw [← hkd]; decide
      refine lv_tableIn (tgt := 286) hx hb dP_term_21 (by decide) (by decide) rfl (by decide) ?_
      refine lv_aload_n hx hb dP_term_286 rfl (lv_at hl 1 rfl) ?_
      refine lv_iload_n hx hb dP_term_287 rfl (lv_at hl 2 rfl) ?_
      refine lv_iconst (v := 1) hx hb dP_term_288 (by decide) ?_
      refine lv_iadd hx hb dP_term_289 ?_
      refine lv_topi (fun v_45 ev_45 => ?_)
      obtain rfl : v_45 = nI (12 - d) := by rw [ev_45, nI_1, show 12 - (d + 1) + 1 = 12 - d by omega]
      refine x_calli (x_runV (n := 1) (As := [.int (nI (12 - d))]) (rest := []) ⟨hx, hb, hml, hown, hts⟩ (cP_kindTerm l D tys A cI hI ad k T d HS hd ws st hkn hp) tw_370 tw_372 ts_P_kindTerm tw_4 tw_373 (by decide +kernel) rfl rfl (xR_ok (by omega) (by omega)) ⟨Nat.zero_le _, Nat.zero_le _⟩ (va_recv hK hP (ci := 1) (q0 := k) rfl q0) hK hP hD hS hA hN rfl hl.1 rfl (lv_room (Nat.le_of_ble_eq_true rfl)) dP_term_290) hS (fun rb_47 ws_48 H locs hb_46 hP hD hS => ?_)
      obtain ⟨hb_46, hF9, hp⟩ := hb_46
      have hF := hF.tr hF9
      obtain ⟨q_490, q_49t, q_49p, q_49s, q_49a⟩ := id hp
      obtain ⟨fsTq_49, htoq_49⟩ := q_49t.obj
      obtain ⟨fsPq_49, hpoq_49⟩ := q_49p.obj
      exact x_zret hx hb hr (by rw [hb_46]; exact b2i_nar _) hlk hK hP hD hS dP_term_293 ⟨(by unfold pTerm; rw [← hkd, if_neg (by decide), if_neg (by decide), if_neg (by decide), if_neg (by decide), if_neg (by decide), if_neg (by decide), if_pos (by decide)]; exact hb_46), hF, (by unfold pTerm; rw [← hkd, if_neg (by decide), if_neg (by decide), if_neg (by decide), if_neg (by decide), if_neg (by decide), if_neg (by decide), if_pos (by decide)]; exact hp)⟩
    · have hkn : ¬ (tkAt T st).1 = 0 := by rw [← hkd]; decide
      refine lv_tableIn (tgt := 269) hx hb dP_term_21 (by decide) (by decide) rfl (by decide) ?_
      refine lv_aload_n hx hb dP_term_269 rfl (lv_at hl 1 rfl) ?_
      refine lv_iload_n hx hb dP_term_270 rfl (lv_at hl 0 rfl) ?_
      refine lv_iload_n hx hb dP_term_271 rfl (lv_at hl 2 rfl) ?_
      refine lv_iconst (v := 1) hx hb dP_term_272 (by decide) ?_
      refine lv_iadd hx hb dP_term_273 ?_
      refine lv_topi (fun v_50 ev_50 => ?_)
      obtain rfl : v_50 = nI (12 - d) := by rw [ev_50, nI_1, show 12 - (d + 1) + 1 = 12 - d by omega]
      refine x_calli (x_runV (n := 2) (As := [.int 10, .int (nI (12 - d))]) (rest := []) ⟨hx, hb, hml, hown, hts⟩ (cP_plainTerm l D tys A cI hI ad k T d HS hd ws st 10 hkn hp) tw_362 tw_364 ts_P_plainTerm tw_4 tw_365 (by decide +kernel) rfl rfl (xR_ok (by omega) (by omega)) ⟨Nat.zero_le _, Nat.zero_le _⟩ (va_recv hK hP (ci := 1) (q0 := k) rfl q0) hK hP hD hS hA hN rfl hl.1 rfl (lv_room (Nat.le_of_ble_eq_true rfl)) dP_term_274) hS (fun rb_52 ws_53 H locs hb_51 hP hD hS => ?_)
      obtain ⟨hb_51, hF9, hp⟩ := hb_51
      have hF := hF.tr hF9
      obtain ⟨q_540, q_54t, q_54p, q_54s, q_54a⟩ := id hp
      obtain ⟨fsTq_54, htoq_54⟩ := q_54t.obj
      obtain ⟨fsPq_54, hpoq_54⟩ := q_54p.obj
      exact x_zret hx hb hr (by rw [hb_51]; exact b2i_nar _) hlk hK hP hD hS dP_term_277 ⟨(by unfold pTerm; rw [← hkd, if_neg (by decide), if_neg (by decide), if_neg (by decide), if_neg (by decide), if_pos (by decide)]; exact hb_51), hF, (by unfold pTerm; rw [← hkd, if_neg (by decide), if_neg (by decide), if_neg (by decide), if_neg (by decide), if_pos (by decide)]; exact hp)⟩
    · have hkn : ¬ (tkAt T st).1 = 0 := by rw [← hkd]; decide
      refine lv_tableIn (tgt := 269) hx hb dP_term_21 (by decide) (by decide) rfl (by decide) ?_
      refine lv_aload_n hx hb dP_term_269 rfl (lv_at hl 1 rfl) ?_
      refine lv_iload_n hx hb dP_term_270 rfl (lv_at hl 0 rfl) ?_
      refine lv_iload_n hx hb dP_term_271 rfl (lv_at hl 2 rfl) ?_
      refine lv_iconst (v := 1) hx hb dP_term_272 (by decide) ?_
      refine lv_iadd hx hb dP_term_273 ?_
      refine lv_topi (fun v_55 ev_55 => ?_)
      obtain rfl : v_55 = nI (12 - d) := by rw [ev_55, nI_1, show 12 - (d + 1) + 1 = 12 - d by omega]
      refine x_calli (x_runV (n := 2) (As := [.int 11, .int (nI (12 - d))]) (rest := []) ⟨hx, hb, hml, hown, hts⟩ (cP_plainTerm l D tys A cI hI ad k T d HS hd ws st 11 hkn hp) tw_362 tw_364 ts_P_plainTerm tw_4 tw_365 (by decide +kernel) rfl rfl (xR_ok (by omega) (by omega)) ⟨Nat.zero_le _, Nat.zero_le _⟩ (va_recv hK hP (ci := 1) (q0 := k) rfl q0) hK hP hD hS hA hN rfl hl.1 rfl (lv_room (Nat.le_of_ble_eq_true rfl)) dP_term_274) hS (fun rb_57 ws_58 H locs hb_56 hP hD hS => ?_)
      obtain ⟨hb_56, hF9, hp⟩ := hb_56
      have hF := hF.tr hF9
      obtain ⟨q_590, q_59t, q_59p, q_59s, q_59a⟩ := id hp
      obtain ⟨fsTq_59, htoq_59⟩ := q_59t.obj
      obtain ⟨fsPq_59, hpoq_59⟩ := q_59p.obj
      exact x_zret hx hb hr (by rw [hb_56]; exact b2i_nar _) hlk hK hP hD hS dP_term_277 ⟨(by unfold pTerm; rw [← hkd, if_neg (by decide), if_neg (by decide), if_neg (by decide), if_neg (by decide), if_pos (by decide)]; exact hb_56), hF, (by unfold pTerm; rw [← hkd, if_neg (by decide), if_neg (by decide), if_neg (by decide), if_neg (by decide), if_pos (by decide)]; exact hp)⟩
    · have hkn : ¬ (tkAt T st).1 = 0 := by rw [← hkd]; decide
      refine lv_tableIn (tgt := 294) hx hb dP_term_21 (by decide) (by decide) rfl (by decide) ?_
      refine lv_aload_n hx hb dP_term_294 rfl (lv_at hl 1 rfl) ?_
      refine lv_iload_n hx hb dP_term_295 rfl (lv_at hl 2 rfl) ?_
      refine lv_iconst (v := 1) hx hb dP_term_296 (by decide) ?_
      refine lv_iadd hx hb dP_term_297 ?_
      refine lv_topi (fun v_60 ev_60 => ?_)
      obtain rfl : v_60 = nI (12 - d) := by rw [ev_60, nI_1, show 12 - (d + 1) + 1 = 12 - d by omega]
      refine x_calli (x_runV (n := 1) (As := [.int (nI (12 - d))]) (rest := []) ⟨hx, hb, hml, hown, hts⟩ (cP_letTerm l D tys A cI hI ad k T d HS hd ws st hkn hp) tw_374 tw_376 ts_P_letTerm tw_4 tw_377 (by decide +kernel) rfl rfl (xR_ok (by omega) (by omega)) ⟨Nat.zero_le _, Nat.zero_le _⟩ (va_recv hK hP (ci := 1) (q0 := k) rfl q0) hK hP hD hS hA hN rfl hl.1 rfl (lv_room (Nat.le_of_ble_eq_true rfl)) dP_term_298) hS (fun rb_62 ws_63 H locs hb_61 hP hD hS => ?_)
      obtain ⟨hb_61, hF9, hp⟩ := hb_61
      have hF := hF.tr hF9
      obtain ⟨q_640, q_64t, q_64p, q_64s, q_64a⟩ := id hp
      obtain ⟨fsTq_64, htoq_64⟩ := q_64t.obj
      obtain ⟨fsPq_64, hpoq_64⟩ := q_64p.obj
      exact x_zret hx hb hr (by rw [hb_61]; exact b2i_nar _) hlk hK hP hD hS dP_term_301 ⟨(by unfold pTerm; rw [← hkd, if_neg (by decide), if_neg (by decide), if_neg (by decide), if_neg (by decide), if_neg (by decide), if_neg (by decide), if_neg (by decide), if_pos (by decide)]; exact hb_61), hF, (by unfold pTerm; rw [← hkd, if_neg (by decide), if_neg (by decide), if_neg (by decide), if_neg (by decide), if_neg (by decide), if_neg (by decide), if_neg (by decide), if_pos (by decide)]; exact hp)⟩
    · have hkn : ¬ (tkAt T st).1 = 0 := by rw [← hkd]; decide
      refine lv_tableIn (tgt := 225) hx hb dP_term_21 (by decide) (by decide) rfl (by decide) ?_
      refine lv_aload_n hx hb dP_term_225 rfl (lv_at hl 1 rfl) ?_
      refine lv_dup hx hb dP_term_226 rfl ?_
      refine va_get (D := D) (cl := xCl) (ci := 1) (v := .int (nI st.1)) (C := rnP) (T := tbP) (N := 5) hx hb hts inP hown hK hP k q0 rfl 3 (by decide) (hts _ tw_100) (fun _ h9 => h9) rfl dP_term_227 ?_
      refine lv_iconst (v := 1) hx hb dP_term_230 (by decide) ?_
      refine lv_iadd hx hb dP_term_231 ?_
      refine lv_topi (fun v_65 ev_65 => ?_)
      refine va_put (D := D) (cl := xCl) (ci := 1) (v := .int v_65) (ty := .int) (C := rnP) (T := tbP) (N := 5) hx hb hts inP tyP toP nmP hown hK hP hD hS k q0 rfl 3 (by decide) (hts _ tw_100) (fun _ h9 => h9) rfl (by decide +kernel) rfl rfl (Nat.le_of_ble_eq_true rfl) dP_term_232 (fun H locs hP hD hS => ?_)
      obtain ⟨ws_67, hu_66, hP, hD⟩ := x_gen q0 hP hD
      have h_68 : ws_67[k]? = some (ad k, .inr (1, [.ref (ad (k + 1)), .ref (ad (k + 5)), .ref (ad (k + 9)), .int v_65, .int (nI st.2.2.2)])) := hu_66.1
      have h_69 := (hu_66.2 (k + 1) (by omega)).trans htoq
      have h_70 := (hu_66.2 (k + 5) (by omega)).trans hpoq
      have h_71 := (hu_66.2 (k + 9) (by omega)).trans qs
      have hp := hp.adv hu_66 ev_65 (hkn)
      have hF := hF.tr (hu_66.fr (a := k) (b := k + 10) (by omega) (by omega))
      obtain ⟨q_720, q_72t, q_72p, q_72s, q_72a⟩ := id hp
      obtain ⟨fsTq_72, htoq_72⟩ := q_72t.obj
      obtain ⟨fsPq_72, hpoq_72⟩ := q_72p.obj
      refine lv_aload_n hx hb dP_term_235 rfl (lv_at hl 1 rfl) ?_
      refine lv_iload_n hx hb dP_term_236 rfl (lv_at hl 2 rfl) ?_
      refine lv_iconst (v := 1) hx hb dP_term_237 (by decide) ?_
      refine lv_iadd hx hb dP_term_238 ?_
      refine lv_topi (fun v_73 ev_73 => ?_)
      obtain rfl : v_73 = nI (12 - d) := by rw [ev_73, nI_1, show 12 - (d + 1) + 1 = 12 - d by omega]
      refine x_calli (x_runV (n := 1) (As := [.int (nI (12 - d))]) (rest := []) ⟨hx, hb, hml, hown, hts⟩ (HS ws_67 ((pAdv st)) hp) tw_321 tw_323 ts_P_sum tw_4 tw_324 (by decide +kernel) rfl rfl (xR_ok (by omega) (by omega)) ⟨Nat.zero_le _, Nat.zero_le _⟩ (va_recv hK hP (ci := 1) (q0 := k) rfl q_720) hK hP hD hS hA hN rfl hl.1 rfl (lv_room (Nat.le_of_ble_eq_true rfl)) dP_term_239) hS (fun rb_75 ws_76 H locs hb_74 hP hD hS => ?_)
      obtain ⟨hb_74, hF9, hp⟩ := hb_74
      have hF := hF.tr hF9
      obtain ⟨q_770, q_77t, q_77p, q_77s, q_77a⟩ := id hp
      obtain ⟨fsTq_77, htoq_77⟩ := q_77t.obj
      obtain ⟨fsPq_77, hpoq_77⟩ := q_77p.obj
      refine lv_if_eq (tgt := 258) hx hb dP_term_242 (by decide) (fun c242 => ?_) (fun c242 => ?_)
      · refine lv_iconst (v := 0) hx hb dP_term_258 (by decide) ?_
        exact x_zret hx hb hr rfl hlk hK hP hD hS dP_term_259 ⟨(by have nc242 : ¬ (pSum T (pTerm T d) ((pAdv st))).1 = true := (by have q := b2i_0.mp (by rw [← hb_74]; exact c242); rw [q]; decide); unfold pTerm; rw [← hkd, if_neg (by decide), if_neg (by decide), if_pos (by decide)]; unfold pParen; rw [if_neg nc242]; rfl), hF, (by have nc242 : ¬ (pSum T (pTerm T d) ((pAdv st))).1 = true := (by have q := b2i_0.mp (by rw [← hb_74]; exact c242); rw [q]; decide); unfold pTerm; rw [← hkd, if_neg (by decide), if_neg (by decide), if_pos (by decide)]; unfold pParen; rw [if_neg nc242]; exact hp)⟩
      · refine lv_aload_n hx hb dP_term_245 rfl (lv_at hl 1 rfl) ?_
        refine lv_bipush (v := 41) hx hb dP_term_246 (by decide) ?_
        refine x_calli (x_runV (n := 1) (As := [.int 41]) (rest := []) ⟨hx, hb, hml, hown, hts⟩ (cP_take l D tys A ws_76 cI hI ad k T ((pSum T (pTerm T d) ((pAdv st))).2) 41 (by decide) hp) tw_354 tw_356 ts_P_take tw_4 tw_357 (by decide +kernel) rfl rfl (xR_ok (by omega) (by omega)) ⟨Nat.zero_le _, Nat.zero_le _⟩ (va_recv hK hP (ci := 1) (q0 := k) rfl q_770) hK hP hD hS hA hN rfl hl.1 rfl (lv_room (Nat.le_of_ble_eq_true rfl)) dP_term_248) hS (fun rb_79 ws_80 H locs hb_78 hP hD hS => ?_)
        obtain ⟨hb_78, hF9, hp⟩ := hb_78
        have hF := hF.tr hF9
        obtain ⟨q_810, q_81t, q_81p, q_81s, q_81a⟩ := id hp
        obtain ⟨fsTq_81, htoq_81⟩ := q_81t.obj
        obtain ⟨fsPq_81, hpoq_81⟩ := q_81p.obj
        refine lv_if_eq (tgt := 258) hx hb dP_term_251 (by decide) (fun c251 => ?_) (fun c251 => ?_)
        · refine lv_iconst (v := 0) hx hb dP_term_258 (by decide) ?_
          exact x_zret hx hb hr rfl hlk hK hP hD hS dP_term_259 ⟨(by have nc242 : (pSum T (pTerm T d) ((pAdv st))).1 = true := b2i_n0.mp (by rw [← hb_74]; exact c242); have nc251 : ¬ (pTake T 41 ((pSum T (pTerm T d) ((pAdv st))).2)).1 = true := (by have q := b2i_0.mp (by rw [← hb_78]; exact c251); rw [q]; decide); unfold pTerm; rw [← hkd, if_neg (by decide), if_neg (by decide), if_pos (by decide)]; unfold pParen; rw [if_pos nc242]; exact (b2i_f9 nc251).symm), hF, (by have nc242 : (pSum T (pTerm T d) ((pAdv st))).1 = true := b2i_n0.mp (by rw [← hb_74]; exact c242); have nc251 : ¬ (pTake T 41 ((pSum T (pTerm T d) ((pAdv st))).2)).1 = true := (by have q := b2i_0.mp (by rw [← hb_78]; exact c251); rw [q]; decide); unfold pTerm; rw [← hkd, if_neg (by decide), if_neg (by decide), if_pos (by decide)]; unfold pParen; rw [if_pos nc242]; exact hp)⟩
        · refine lv_iconst (v := 1) hx hb dP_term_254 (by decide) ?_
          refine lv_goto (tgt := 259) hx hb dP_term_255 (by decide) ?_
          exact x_zret hx hb hr rfl hlk hK hP hD hS dP_term_259 ⟨(by have nc242 : (pSum T (pTerm T d) ((pAdv st))).1 = true := b2i_n0.mp (by rw [← hb_74]; exact c242); have nc251 : (pTake T 41 ((pSum T (pTerm T d) ((pAdv st))).2)).1 = true := b2i_n0.mp (by rw [← hb_78]; exact c251); unfold pTerm; rw [← hkd, if_neg (by decide), if_neg (by decide), if_pos (by decide)]; unfold pParen; rw [if_pos nc242]; exact (b2i_t9 nc251).symm), hF, (by have nc242 : (pSum T (pTerm T d) ((pAdv st))).1 = true := b2i_n0.mp (by rw [← hb_74]; exact c242); have nc251 : (pTake T 41 ((pSum T (pTerm T d) ((pAdv st))).2)).1 = true := b2i_n0.mp (by rw [← hb_78]; exact c251); unfold pTerm; rw [← hkd, if_neg (by decide), if_neg (by decide), if_pos (by decide)]; unfold pParen; rw [if_pos nc242]; exact hp)⟩
    · by_cases hr9 : rkd.toInt < 2 ∨ 40 < rkd.toInt
      · refine lv_tableOut (tgt := 302) hx hb dP_term_21 hr9 (by decide) ?_
        refine lv_iconst (v := 0) hx hb dP_term_302 (by decide) ?_
        exact x_zret hx hb hr rfl hlk hK hP hD hS dP_term_303 ⟨(by rw [pTerm_no hkd hno]; rfl), hF, (by rw [pTerm_no hkd hno]; exact hp)⟩
      · obtain ⟨n9, hn9, en9⟩ : ∃ n : Nat, n < 39 ∧ rkd.toInt = (n : Int) + 2 := ⟨(rkd.toInt - 2).toNat, by omega, by omega⟩
        refine lv_tableIn (off := 281) (tgt := 302) hx hb dP_term_21 (by omega) (by omega) (by rw [show (rkd.toInt - 2).toNat = n9 by omega]; exact sw_offs n9 hn9 ⟨fun q => hno.1 (by rw [i32_eq, en9, q]; rfl), fun q => hno.2.1 (by rw [i32_eq, en9, q]; rfl), fun q => hno.2.2.1 (by rw [i32_eq, en9, q]; rfl), fun q => hno.2.2.2.1 (by rw [i32_eq, en9, q]; rfl), fun q => hno.2.2.2.2.1 (by rw [i32_eq, en9, q]; rfl), fun q => hno.2.2.2.2.2.1 (by rw [i32_eq, en9, q]; rfl), fun q => hno.2.2.2.2.2.2.1 (by rw [i32_eq, en9, q]; rfl), fun q => hno.2.2.2.2.2.2.2.1 (by rw [i32_eq, en9, q]; rfl), fun q => hno.2.2.2.2.2.2.2.2.1 (by rw [i32_eq, en9, q]; rfl), fun q => hno.2.2.2.2.2.2.2.2.2.1 (by rw [i32_eq, en9, q]; rfl), fun q => hno.2.2.2.2.2.2.2.2.2.2 (by rw [i32_eq, en9, q]; rfl)⟩) (by decide) ?_
        refine lv_iconst (v := 0) hx hb dP_term_302 (by decide) ?_
        exact x_zret hx hb hr rfl hlk hK hP hD hS dP_term_303 ⟨(by rw [pTerm_no hkd hno]; rfl), hF, (by rw [pTerm_no hkd hno]; exact hp)⟩
  · exact absurd (nI_lt (a := 12 - (d + 1)) (b := 12) (by omega) (by omega)) c3

set_option maxHeartbeats 4000000 in
set_option maxRecDepth 100000 in
theorem cP_term_0 (l : Launch) (D : va_G) (tys : List (ClassId × FieldType)) (A : Nat → Prop) (cI : ClassId) (hI : tys[0]? = some (cI, .int)) (ad : Nat → Nat) (k : Nat) (T : List Tok) : TermC l D tys A cI ad k T 0 := by
  intro ws st hp
  have hF : x_fr k (k + 10) ws ws := x_fr.rf
  obtain ⟨q0, qt, qp, qs, qa⟩ := id hp
  obtain ⟨fsTq, htoq⟩ := qt.obj
  obtain ⟨fsPq, hpoq⟩ := qp.obj
  refine x_enter (by decide) rfl (Nat.le_of_ble_eq_true rfl) (fun p e s m args below meth c ls hx hb hr hlk hml hown hnm hts hK hP hD hS hA hN hl => ?_)
  have hl : lv_has ls 3 [(0, .ref (ad k)), (1, .int (nI (12 - 0)))] := hl
  refine lv_iload_n hx hb dP_term_0 rfl (lv_at hl 1 rfl) ?_
  refine lv_bipush (v := 12) hx hb dP_term_1 (by decide) ?_
  refine lv_icmp_lt (tgt := 8) hx hb dP_term_3 (by decide) (fun c3 => ?_) (fun c3 => ?_)
  · exact absurd c3 (by decide)
  · refine lv_iconst (v := 0) hx hb dP_term_6 (by decide) ?_
    exact x_zret hx hb hr rfl hlk hK hP hD hS dP_term_7 ⟨rfl, hF, hp⟩

theorem cP_all (l : Launch) (D : va_G) (tys : List (ClassId × FieldType)) (A : Nat → Prop) (cI : ClassId) (hI : tys[0]? = some (cI, .int)) (ad : Nat → Nat) (k : Nat) (T : List Tok) : ∀ d, d ≤ 12 → TermC l D tys A cI ad k T d := by
  intro d
  induction d with
  | zero => intro _; exact cP_term_0 l D tys A cI hI ad k T
  | succ d ih => intro h; exact cP_term_s l D tys A cI hI ad k T d (cP_sum l D tys A cI hI ad k T d (ih (by omega))) (by omega)
/-- Parser.sum(0): the whole text -/
theorem cP_sum12 (l : Launch) (D : va_G) (tys : List (ClassId × FieldType)) (A : Nat → Prop) (cI : ClassId) (hI : tys[0]? = some (cI, .int)) (ad : Nat → Nat) (k : Nat) (T : List Tok) : SumC l D tys A cI ad k T 12 := cP_sum l D tys A cI hI ad k T 12 (cP_all l D tys A cI hI ad k T 12 (Nat.le_refl _))
end
