-- ===== PART A: goes FIRST, ahead of the names: the tables' words, and 'selects' of the private methods out of them =====
/-- a private method of a class that the tables say can be made, by its rows of tables_1 -/
def lw_okq (q : MethodName × Nat) : Prop := (q.1.cls ≠ "java/lang/invoke/MethodHandle" ∧ q.1.cls ≠ "java/lang/invoke/VarHandle") ∧ Cond.instantiable q.1.cls q.2 ∈ tables_1 ∧ Cond.privateMethod q.1 ∈ tables_1 ∧ Cond.instanceMethod q.1 ∈ tables_1
theorem lw_p0 : lw_okq (⟨"ThousandLeaflets$Book", "forgetDrawn", "()V"⟩, 7) := ⟨⟨by decide +kernel, by decide +kernel⟩, List.mem_of_getElem? (i := 283) (by decide +kernel), List.mem_of_getElem? (i := 392) (by decide +kernel), List.mem_of_getElem? (i := 393) (by decide +kernel)⟩
theorem lw_p1 : lw_okq (⟨"ThousandLeaflets", "forgetMarks", "()V"⟩, 14) := ⟨⟨by decide +kernel, by decide +kernel⟩, List.mem_of_getElem? (i := 27) (by decide +kernel), List.mem_of_getElem? (i := 403) (by decide +kernel), List.mem_of_getElem? (i := 404) (by decide +kernel)⟩
theorem lw_p2 : lw_okq (⟨"ThousandLeaflets", "isTold", "(I)Z"⟩, 14) := ⟨⟨by decide +kernel, by decide +kernel⟩, List.mem_of_getElem? (i := 27) (by decide +kernel), List.mem_of_getElem? (i := 411) (by decide +kernel), List.mem_of_getElem? (i := 412) (by decide +kernel)⟩
theorem lw_p3 : lw_okq (⟨"ThousandLeaflets", "isTouched", "(I)Z"⟩, 14) := ⟨⟨by decide +kernel, by decide +kernel⟩, List.mem_of_getElem? (i := 27) (by decide +kernel), List.mem_of_getElem? (i := 416) (by decide +kernel), List.mem_of_getElem? (i := 417) (by decide +kernel)⟩
theorem lw_p4 : lw_okq (⟨"ThousandLeaflets$Tape", "takeRun", "(II)V"⟩, 6) := ⟨⟨by decide +kernel, by decide +kernel⟩, List.mem_of_getElem? (i := 45) (by decide +kernel), List.mem_of_getElem? (i := 449) (by decide +kernel), List.mem_of_getElem? (i := 450) (by decide +kernel)⟩
theorem lw_p5 : lw_okq (⟨"ThousandLeaflets$Tape", "numberHere", "()I"⟩, 6) := ⟨⟨by decide +kernel, by decide +kernel⟩, List.mem_of_getElem? (i := 45) (by decide +kernel), List.mem_of_getElem? (i := 453) (by decide +kernel), List.mem_of_getElem? (i := 454) (by decide +kernel)⟩
theorem lw_p6 : lw_okq (⟨"ThousandLeaflets$DrawReader", "statementFault", "(I)I"⟩, 2) := ⟨⟨by decide +kernel, by decide +kernel⟩, List.mem_of_getElem? (i := 39) (by decide +kernel), List.mem_of_getElem? (i := 457) (by decide +kernel), List.mem_of_getElem? (i := 458) (by decide +kernel)⟩
theorem lw_p7 : lw_okq (⟨"ThousandLeaflets$DrawReader", "oddsFault", "()I"⟩, 2) := ⟨⟨by decide +kernel, by decide +kernel⟩, List.mem_of_getElem? (i := 39) (by decide +kernel), List.mem_of_getElem? (i := 514) (by decide +kernel), List.mem_of_getElem? (i := 515) (by decide +kernel)⟩
theorem lw_p8 : lw_okq (⟨"ThousandLeaflets$DrawReader", "numberFault", "(II)I"⟩, 2) := ⟨⟨by decide +kernel, by decide +kernel⟩, List.mem_of_getElem? (i := 39) (by decide +kernel), List.mem_of_getElem? (i := 518) (by decide +kernel), List.mem_of_getElem? (i := 519) (by decide +kernel)⟩
theorem lw_p9 : lw_okq (⟨"ThousandLeaflets$DrawReader", "wrong", "(I)I"⟩, 2) := ⟨⟨by decide +kernel, by decide +kernel⟩, List.mem_of_getElem? (i := 39) (by decide +kernel), List.mem_of_getElem? (i := 522) (by decide +kernel), List.mem_of_getElem? (i := 523) (by decide +kernel)⟩
theorem lw_p10 : lw_okq (⟨"ThousandLeaflets$DrawReader", "endFault", "()I"⟩, 2) := ⟨⟨by decide +kernel, by decide +kernel⟩, List.mem_of_getElem? (i := 39) (by decide +kernel), List.mem_of_getElem? (i := 526) (by decide +kernel), List.mem_of_getElem? (i := 527) (by decide +kernel)⟩
theorem lw_p11 : lw_okq (⟨"ThousandLeaflets$DrawReader", "firstFault", "()I"⟩, 2) := ⟨⟨by decide +kernel, by decide +kernel⟩, List.mem_of_getElem? (i := 39) (by decide +kernel), List.mem_of_getElem? (i := 531) (by decide +kernel), List.mem_of_getElem? (i := 532) (by decide +kernel)⟩
theorem lw_p12 : lw_okq (⟨"ThousandLeaflets$DrawReader", "sumFault", "(I)I"⟩, 2) := ⟨⟨by decide +kernel, by decide +kernel⟩, List.mem_of_getElem? (i := 39) (by decide +kernel), List.mem_of_getElem? (i := 536) (by decide +kernel), List.mem_of_getElem? (i := 537) (by decide +kernel)⟩
theorem lw_p13 : lw_okq (⟨"ThousandLeaflets$DrawReader", "sealFault", "()I"⟩, 2) := ⟨⟨by decide +kernel, by decide +kernel⟩, List.mem_of_getElem? (i := 39) (by decide +kernel), List.mem_of_getElem? (i := 541) (by decide +kernel), List.mem_of_getElem? (i := 542) (by decide +kernel)⟩
theorem lw_p14 : lw_okq (⟨"ThousandLeaflets", "isLeaflet", "(II)Z"⟩, 14) := ⟨⟨by decide +kernel, by decide +kernel⟩, List.mem_of_getElem? (i := 27) (by decide +kernel), List.mem_of_getElem? (i := 561) (by decide +kernel), List.mem_of_getElem? (i := 562) (by decide +kernel)⟩
theorem lw_p15 : lw_okq (⟨"ThousandLeaflets$Book", "castDegree", "(I)I"⟩, 7) := ⟨⟨by decide +kernel, by decide +kernel⟩, List.mem_of_getElem? (i := 283) (by decide +kernel), List.mem_of_getElem? (i := 581) (by decide +kernel), List.mem_of_getElem? (i := 582) (by decide +kernel)⟩
def lw_privs_1 : List (MethodName × Nat) := [(⟨"ThousandLeaflets$Book", "forgetDrawn", "()V"⟩, 7), (⟨"ThousandLeaflets", "forgetMarks", "()V"⟩, 14), (⟨"ThousandLeaflets", "isTold", "(I)Z"⟩, 14), (⟨"ThousandLeaflets", "isTouched", "(I)Z"⟩, 14), (⟨"ThousandLeaflets$Tape", "takeRun", "(II)V"⟩, 6), (⟨"ThousandLeaflets$Tape", "numberHere", "()I"⟩, 6), (⟨"ThousandLeaflets$DrawReader", "statementFault", "(I)I"⟩, 2), (⟨"ThousandLeaflets$DrawReader", "oddsFault", "()I"⟩, 2), (⟨"ThousandLeaflets$DrawReader", "numberFault", "(II)I"⟩, 2), (⟨"ThousandLeaflets$DrawReader", "wrong", "(I)I"⟩, 2), (⟨"ThousandLeaflets$DrawReader", "endFault", "()I"⟩, 2), (⟨"ThousandLeaflets$DrawReader", "firstFault", "()I"⟩, 2), (⟨"ThousandLeaflets$DrawReader", "sumFault", "(I)I"⟩, 2), (⟨"ThousandLeaflets$DrawReader", "sealFault", "()I"⟩, 2), (⟨"ThousandLeaflets", "isLeaflet", "(II)Z"⟩, 14), (⟨"ThousandLeaflets$Book", "castDegree", "(I)I"⟩, 7)]
theorem lw_r1 : ∀ q ∈ lw_privs_1, lw_okq q := List.forall_mem_cons.mpr ⟨lw_p0, List.forall_mem_cons.mpr ⟨lw_p1, List.forall_mem_cons.mpr ⟨lw_p2, List.forall_mem_cons.mpr ⟨lw_p3, List.forall_mem_cons.mpr ⟨lw_p4, List.forall_mem_cons.mpr ⟨lw_p5, List.forall_mem_cons.mpr ⟨lw_p6, List.forall_mem_cons.mpr ⟨lw_p7, List.forall_mem_cons.mpr ⟨lw_p8, List.forall_mem_cons.mpr ⟨lw_p9, List.forall_mem_cons.mpr ⟨lw_p10, List.forall_mem_cons.mpr ⟨lw_p11, List.forall_mem_cons.mpr ⟨lw_p12, List.forall_mem_cons.mpr ⟨lw_p13, List.forall_mem_cons.mpr ⟨lw_p14, List.forall_mem_cons.mpr ⟨lw_p15, fun _ h => absurd h List.not_mem_nil⟩⟩⟩⟩⟩⟩⟩⟩⟩⟩⟩⟩⟩⟩⟩⟩
theorem lw_p16 : lw_okq (⟨"ThousandLeaflets$Book", "cast", "(I)I"⟩, 7) := ⟨⟨by decide +kernel, by decide +kernel⟩, List.mem_of_getElem? (i := 283) (by decide +kernel), List.mem_of_getElem? (i := 585) (by decide +kernel), List.mem_of_getElem? (i := 586) (by decide +kernel)⟩
theorem lw_p17 : lw_okq (⟨"ThousandLeaflets$Book", "howMany", "(I)I"⟩, 7) := ⟨⟨by decide +kernel, by decide +kernel⟩, List.mem_of_getElem? (i := 283) (by decide +kernel), List.mem_of_getElem? (i := 591) (by decide +kernel), List.mem_of_getElem? (i := 592) (by decide +kernel)⟩
theorem lw_p18 : lw_okq (⟨"ThousandLeaflets$Book", "weightOf", "(I)I"⟩, 7) := ⟨⟨by decide +kernel, by decide +kernel⟩, List.mem_of_getElem? (i := 283) (by decide +kernel), List.mem_of_getElem? (i := 599) (by decide +kernel), List.mem_of_getElem? (i := 600) (by decide +kernel)⟩
theorem lw_p19 : lw_okq (⟨"ThousandLeaflets$Book", "pickBeside", "(III)I"⟩, 7) := ⟨⟨by decide +kernel, by decide +kernel⟩, List.mem_of_getElem? (i := 283) (by decide +kernel), List.mem_of_getElem? (i := 603) (by decide +kernel), List.mem_of_getElem? (i := 604) (by decide +kernel)⟩
theorem lw_p20 : lw_okq (⟨"ThousandLeaflets", "isPageOf", "(II)Z"⟩, 14) := ⟨⟨by decide +kernel, by decide +kernel⟩, List.mem_of_getElem? (i := 27) (by decide +kernel), List.mem_of_getElem? (i := 629) (by decide +kernel), List.mem_of_getElem? (i := 630) (by decide +kernel)⟩
theorem lw_p21 : lw_okq (⟨"ThousandLeaflets$Heap", "unnamed", "()I"⟩, 2) := ⟨⟨by decide +kernel, by decide +kernel⟩, List.mem_of_getElem? (i := 319) (by decide +kernel), List.mem_of_getElem? (i := 692) (by decide +kernel), List.mem_of_getElem? (i := 693) (by decide +kernel)⟩
theorem lw_p22 : lw_okq (⟨"ThousandLeaflets", "send", "(ILThousandLeaflets$Book;III)I"⟩, 14) := ⟨⟨by decide +kernel, by decide +kernel⟩, List.mem_of_getElem? (i := 27) (by decide +kernel), List.mem_of_getElem? (i := 700) (by decide +kernel), List.mem_of_getElem? (i := 701) (by decide +kernel)⟩
theorem lw_p23 : lw_okq (⟨"ThousandLeaflets", "paperAt", "(II)LThousandLeaflets$Paper;"⟩, 14) := ⟨⟨by decide +kernel, by decide +kernel⟩, List.mem_of_getElem? (i := 27) (by decide +kernel), List.mem_of_getElem? (i := 719) (by decide +kernel), List.mem_of_getElem? (i := 720) (by decide +kernel)⟩
theorem lw_p24 : lw_okq (⟨"ThousandLeaflets", "gather", "(III)LThousandLeaflets$Equations;"⟩, 14) := ⟨⟨by decide +kernel, by decide +kernel⟩, List.mem_of_getElem? (i := 27) (by decide +kernel), List.mem_of_getElem? (i := 738) (by decide +kernel), List.mem_of_getElem? (i := 739) (by decide +kernel)⟩
theorem lw_p25 : lw_okq (⟨"ThousandLeaflets$Equations", "firstWithOneUnknown", "(I)I"⟩, 6) := ⟨⟨by decide +kernel, by decide +kernel⟩, List.mem_of_getElem? (i := 138) (by decide +kernel), List.mem_of_getElem? (i := 767) (by decide +kernel), List.mem_of_getElem? (i := 768) (by decide +kernel)⟩
theorem lw_p26 : lw_okq (⟨"ThousandLeaflets$Equations", "unknownOf", "(II)I"⟩, 6) := ⟨⟨by decide +kernel, by decide +kernel⟩, List.mem_of_getElem? (i := 138) (by decide +kernel), List.mem_of_getElem? (i := 771) (by decide +kernel), List.mem_of_getElem? (i := 772) (by decide +kernel)⟩
theorem lw_p27 : lw_okq (⟨"ThousandLeaflets$Equations", "restOf", "(II)I"⟩, 6) := ⟨⟨by decide +kernel, by decide +kernel⟩, List.mem_of_getElem? (i := 138) (by decide +kernel), List.mem_of_getElem? (i := 779) (by decide +kernel), List.mem_of_getElem? (i := 780) (by decide +kernel)⟩
theorem lw_p28 : lw_okq (⟨"ThousandLeaflets$Basis", "reduce", "(I)I"⟩, 4) := ⟨⟨by decide +kernel, by decide +kernel⟩, List.mem_of_getElem? (i := 171) (by decide +kernel), List.mem_of_getElem? (i := 808) (by decide +kernel), List.mem_of_getElem? (i := 809) (by decide +kernel)⟩
theorem lw_p29 : lw_okq (⟨"ThousandLeaflets", "readOctet", "(IIIII)I"⟩, 14) := ⟨⟨by decide +kernel, by decide +kernel⟩, List.mem_of_getElem? (i := 27) (by decide +kernel), List.mem_of_getElem? (i := 828) (by decide +kernel), List.mem_of_getElem? (i := 829) (by decide +kernel)⟩
theorem lw_p30 : lw_okq (⟨"ThousandLeaflets", "soonPeeled", "(III)I"⟩, 14) := ⟨⟨by decide +kernel, by decide +kernel⟩, List.mem_of_getElem? (i := 27) (by decide +kernel), List.mem_of_getElem? (i := 837) (by decide +kernel), List.mem_of_getElem? (i := 838) (by decide +kernel)⟩
theorem lw_p31 : lw_okq (⟨"ThousandLeaflets", "spreadWith", "(LThousandLeaflets$Paper;III)I"⟩, 14) := ⟨⟨by decide +kernel, by decide +kernel⟩, List.mem_of_getElem? (i := 27) (by decide +kernel), List.mem_of_getElem? (i := 841) (by decide +kernel), List.mem_of_getElem? (i := 842) (by decide +kernel)⟩
def lw_privs_2 : List (MethodName × Nat) := [(⟨"ThousandLeaflets$Book", "cast", "(I)I"⟩, 7), (⟨"ThousandLeaflets$Book", "howMany", "(I)I"⟩, 7), (⟨"ThousandLeaflets$Book", "weightOf", "(I)I"⟩, 7), (⟨"ThousandLeaflets$Book", "pickBeside", "(III)I"⟩, 7), (⟨"ThousandLeaflets", "isPageOf", "(II)Z"⟩, 14), (⟨"ThousandLeaflets$Heap", "unnamed", "()I"⟩, 2), (⟨"ThousandLeaflets", "send", "(ILThousandLeaflets$Book;III)I"⟩, 14), (⟨"ThousandLeaflets", "paperAt", "(II)LThousandLeaflets$Paper;"⟩, 14), (⟨"ThousandLeaflets", "gather", "(III)LThousandLeaflets$Equations;"⟩, 14), (⟨"ThousandLeaflets$Equations", "firstWithOneUnknown", "(I)I"⟩, 6), (⟨"ThousandLeaflets$Equations", "unknownOf", "(II)I"⟩, 6), (⟨"ThousandLeaflets$Equations", "restOf", "(II)I"⟩, 6), (⟨"ThousandLeaflets$Basis", "reduce", "(I)I"⟩, 4), (⟨"ThousandLeaflets", "readOctet", "(IIIII)I"⟩, 14), (⟨"ThousandLeaflets", "soonPeeled", "(III)I"⟩, 14), (⟨"ThousandLeaflets", "spreadWith", "(LThousandLeaflets$Paper;III)I"⟩, 14)]
theorem lw_r2 : ∀ q ∈ lw_privs_2, lw_okq q := List.forall_mem_cons.mpr ⟨lw_p16, List.forall_mem_cons.mpr ⟨lw_p17, List.forall_mem_cons.mpr ⟨lw_p18, List.forall_mem_cons.mpr ⟨lw_p19, List.forall_mem_cons.mpr ⟨lw_p20, List.forall_mem_cons.mpr ⟨lw_p21, List.forall_mem_cons.mpr ⟨lw_p22, List.forall_mem_cons.mpr ⟨lw_p23, List.forall_mem_cons.mpr ⟨lw_p24, List.forall_mem_cons.mpr ⟨lw_p25, List.forall_mem_cons.mpr ⟨lw_p26, List.forall_mem_cons.mpr ⟨lw_p27, List.forall_mem_cons.mpr ⟨lw_p28, List.forall_mem_cons.mpr ⟨lw_p29, List.forall_mem_cons.mpr ⟨lw_p30, List.forall_mem_cons.mpr ⟨lw_p31, fun _ h => absurd h List.not_mem_nil⟩⟩⟩⟩⟩⟩⟩⟩⟩⟩⟩⟩⟩⟩⟩⟩
theorem lw_p32 : lw_okq (⟨"ThousandLeaflets", "soonSolved", "(III)I"⟩, 14) := ⟨⟨by decide +kernel, by decide +kernel⟩, List.mem_of_getElem? (i := 27) (by decide +kernel), List.mem_of_getElem? (i := 849) (by decide +kernel), List.mem_of_getElem? (i := 850) (by decide +kernel)⟩
theorem lw_p33 : lw_okq (⟨"ThousandLeaflets$Equations", "touchPapers", "(LThousandLeaflets$Book;)V"⟩, 6) := ⟨⟨by decide +kernel, by decide +kernel⟩, List.mem_of_getElem? (i := 138) (by decide +kernel), List.mem_of_getElem? (i := 874) (by decide +kernel), List.mem_of_getElem? (i := 875) (by decide +kernel)⟩
theorem lw_p34 : lw_okq (⟨"ThousandLeaflets$Equations", "fewestTouched", "(JI)I"⟩, 6) := ⟨⟨by decide +kernel, by decide +kernel⟩, List.mem_of_getElem? (i := 138) (by decide +kernel), List.mem_of_getElem? (i := 879) (by decide +kernel), List.mem_of_getElem? (i := 880) (by decide +kernel)⟩
theorem lw_p35 : lw_okq (⟨"ThousandLeaflets$Coming", "seek", "(III)V"⟩, 7) := ⟨⟨by decide +kernel, by decide +kernel⟩, List.mem_of_getElem? (i := 223) (by decide +kernel), List.mem_of_getElem? (i := 904) (by decide +kernel), List.mem_of_getElem? (i := 905) (by decide +kernel)⟩
theorem lw_p36 : lw_okq (⟨"ThousandLeaflets$Sets", "walk", "(III)V"⟩, 8) := ⟨⟨by decide +kernel, by decide +kernel⟩, List.mem_of_getElem? (i := 132) (by decide +kernel), List.mem_of_getElem? (i := 935) (by decide +kernel), List.mem_of_getElem? (i := 936) (by decide +kernel)⟩
theorem lw_p37 : lw_okq (⟨"ThousandLeaflets$Sets", "addAllWith", "(II)V"⟩, 8) := ⟨⟨by decide +kernel, by decide +kernel⟩, List.mem_of_getElem? (i := 132) (by decide +kernel), List.mem_of_getElem? (i := 939) (by decide +kernel), List.mem_of_getElem? (i := 940) (by decide +kernel)⟩
theorem lw_p38 : lw_okq (⟨"ThousandLeaflets$Ways", "allAgree", "()Z"⟩, 6) := ⟨⟨by decide +kernel, by decide +kernel⟩, List.mem_of_getElem? (i := 255) (by decide +kernel), List.mem_of_getElem? (i := 984) (by decide +kernel), List.mem_of_getElem? (i := 985) (by decide +kernel)⟩
theorem lw_p39 : lw_okq (⟨"ThousandLeaflets$Ways", "give", "(II)V"⟩, 6) := ⟨⟨by decide +kernel, by decide +kernel⟩, List.mem_of_getElem? (i := 255) (by decide +kernel), List.mem_of_getElem? (i := 988) (by decide +kernel), List.mem_of_getElem? (i := 989) (by decide +kernel)⟩
theorem lw_p40 : lw_okq (⟨"ThousandLeaflets$Ways", "tryBook", "(IILThousandLeaflets$Paper;I)V"⟩, 6) := ⟨⟨by decide +kernel, by decide +kernel⟩, List.mem_of_getElem? (i := 255) (by decide +kernel), List.mem_of_getElem? (i := 992) (by decide +kernel), List.mem_of_getElem? (i := 993) (by decide +kernel)⟩
theorem lw_p41 : lw_okq (⟨"ThousandLeaflets", "isRoomAnywhere", "()Z"⟩, 14) := ⟨⟨by decide +kernel, by decide +kernel⟩, List.mem_of_getElem? (i := 27) (by decide +kernel), List.mem_of_getElem? (i := 1012) (by decide +kernel), List.mem_of_getElem? (i := 1013) (by decide +kernel)⟩
theorem lw_p42 : lw_okq (⟨"ThousandLeaflets", "throwOne", "(LThousandLeaflets$Book;I)I"⟩, 14) := ⟨⟨by decide +kernel, by decide +kernel⟩, List.mem_of_getElem? (i := 27) (by decide +kernel), List.mem_of_getElem? (i := 1016) (by decide +kernel), List.mem_of_getElem? (i := 1017) (by decide +kernel)⟩
theorem lw_p43 : lw_okq (⟨"ThousandLeaflets", "falls", "(LThousandLeaflets$Book;II)Z"⟩, 14) := ⟨⟨by decide +kernel, by decide +kernel⟩, List.mem_of_getElem? (i := 27) (by decide +kernel), List.mem_of_getElem? (i := 1020) (by decide +kernel), List.mem_of_getElem? (i := 1021) (by decide +kernel)⟩
theorem lw_p44 : lw_okq (⟨"ThousandLeaflets", "neededIn", "(ILThousandLeaflets$Book;)I"⟩, 14) := ⟨⟨by decide +kernel, by decide +kernel⟩, List.mem_of_getElem? (i := 27) (by decide +kernel), List.mem_of_getElem? (i := 1036) (by decide +kernel), List.mem_of_getElem? (i := 1037) (by decide +kernel)⟩
theorem lw_p45 : lw_okq (⟨"ThousandLeaflets", "allHouses", "()I"⟩, 14) := ⟨⟨by decide +kernel, by decide +kernel⟩, List.mem_of_getElem? (i := 27) (by decide +kernel), List.mem_of_getElem? (i := 1044) (by decide +kernel), List.mem_of_getElem? (i := 1045) (by decide +kernel)⟩
theorem lw_p46 : lw_okq (⟨"ThousandLeaflets", "housesServed", "(I)I"⟩, 14) := ⟨⟨by decide +kernel, by decide +kernel⟩, List.mem_of_getElem? (i := 27) (by decide +kernel), List.mem_of_getElem? (i := 1048) (by decide +kernel), List.mem_of_getElem? (i := 1049) (by decide +kernel)⟩
theorem lw_p47 : lw_okq (⟨"java/lang/Throwable", "fillInStackTrace", "(I)Ljava/lang/Throwable;"⟩, 6) := ⟨⟨by decide +kernel, by decide +kernel⟩, List.mem_of_getElem? (i := 1112) (by decide +kernel), List.mem_of_getElem? (i := 1110) (by decide +kernel), List.mem_of_getElem? (i := 1111) (by decide +kernel)⟩
def lw_privs_3 : List (MethodName × Nat) := [(⟨"ThousandLeaflets", "soonSolved", "(III)I"⟩, 14), (⟨"ThousandLeaflets$Equations", "touchPapers", "(LThousandLeaflets$Book;)V"⟩, 6), (⟨"ThousandLeaflets$Equations", "fewestTouched", "(JI)I"⟩, 6), (⟨"ThousandLeaflets$Coming", "seek", "(III)V"⟩, 7), (⟨"ThousandLeaflets$Sets", "walk", "(III)V"⟩, 8), (⟨"ThousandLeaflets$Sets", "addAllWith", "(II)V"⟩, 8), (⟨"ThousandLeaflets$Ways", "allAgree", "()Z"⟩, 6), (⟨"ThousandLeaflets$Ways", "give", "(II)V"⟩, 6), (⟨"ThousandLeaflets$Ways", "tryBook", "(IILThousandLeaflets$Paper;I)V"⟩, 6), (⟨"ThousandLeaflets", "isRoomAnywhere", "()Z"⟩, 14), (⟨"ThousandLeaflets", "throwOne", "(LThousandLeaflets$Book;I)I"⟩, 14), (⟨"ThousandLeaflets", "falls", "(LThousandLeaflets$Book;II)Z"⟩, 14), (⟨"ThousandLeaflets", "neededIn", "(ILThousandLeaflets$Book;)I"⟩, 14), (⟨"ThousandLeaflets", "allHouses", "()I"⟩, 14), (⟨"ThousandLeaflets", "housesServed", "(I)I"⟩, 14), (⟨"java/lang/Throwable", "fillInStackTrace", "(I)Ljava/lang/Throwable;"⟩, 6)]
theorem lw_r3 : ∀ q ∈ lw_privs_3, lw_okq q := List.forall_mem_cons.mpr ⟨lw_p32, List.forall_mem_cons.mpr ⟨lw_p33, List.forall_mem_cons.mpr ⟨lw_p34, List.forall_mem_cons.mpr ⟨lw_p35, List.forall_mem_cons.mpr ⟨lw_p36, List.forall_mem_cons.mpr ⟨lw_p37, List.forall_mem_cons.mpr ⟨lw_p38, List.forall_mem_cons.mpr ⟨lw_p39, List.forall_mem_cons.mpr ⟨lw_p40, List.forall_mem_cons.mpr ⟨lw_p41, List.forall_mem_cons.mpr ⟨lw_p42, List.forall_mem_cons.mpr ⟨lw_p43, List.forall_mem_cons.mpr ⟨lw_p44, List.forall_mem_cons.mpr ⟨lw_p45, List.forall_mem_cons.mpr ⟨lw_p46, List.forall_mem_cons.mpr ⟨lw_p47, fun _ h => absurd h List.not_mem_nil⟩⟩⟩⟩⟩⟩⟩⟩⟩⟩⟩⟩⟩⟩⟩⟩
theorem lw_p48 : lw_okq (⟨"ThousandLeaflets", "unknownPages", "(ILThousandLeaflets$Paper;)I"⟩, 14) := ⟨⟨by decide +kernel, by decide +kernel⟩, List.mem_of_getElem? (i := 27) (by decide +kernel), List.mem_of_getElem? (i := 1137) (by decide +kernel), List.mem_of_getElem? (i := 1138) (by decide +kernel)⟩
theorem lw_p49 : lw_okq (⟨"ThousandLeafletsModel", "lay", "(J)V"⟩, 48) := ⟨⟨by decide +kernel, by decide +kernel⟩, List.mem_of_getElem? (i := 1149) (by decide +kernel), List.mem_of_getElem? (i := 1147) (by decide +kernel), List.mem_of_getElem? (i := 1148) (by decide +kernel)⟩
theorem lw_p50 : lw_okq (⟨"ThousandLeafletsModel", "forgetsDraw", "(I)V"⟩, 48) := ⟨⟨by decide +kernel, by decide +kernel⟩, List.mem_of_getElem? (i := 1149) (by decide +kernel), List.mem_of_getElem? (i := 1313) (by decide +kernel), List.mem_of_getElem? (i := 1314) (by decide +kernel)⟩
theorem lw_p51 : lw_okq (⟨"ThousandLeafletsModel", "takesOut", "(II)V"⟩, 48) := ⟨⟨by decide +kernel, by decide +kernel⟩, List.mem_of_getElem? (i := 1149) (by decide +kernel), List.mem_of_getElem? (i := 1317) (by decide +kernel), List.mem_of_getElem? (i := 1318) (by decide +kernel)⟩
theorem lw_p52 : lw_okq (⟨"ThousandLeafletsModel", "moves", "(II)V"⟩, 48) := ⟨⟨by decide +kernel, by decide +kernel⟩, List.mem_of_getElem? (i := 1149) (by decide +kernel), List.mem_of_getElem? (i := 1321) (by decide +kernel), List.mem_of_getElem? (i := 1322) (by decide +kernel)⟩
theorem lw_p53 : lw_okq (⟨"ThousandLeafletsModel", "forgetsMarks", "()V"⟩, 48) := ⟨⟨by decide +kernel, by decide +kernel⟩, List.mem_of_getElem? (i := 1149) (by decide +kernel), List.mem_of_getElem? (i := 1325) (by decide +kernel), List.mem_of_getElem? (i := 1326) (by decide +kernel)⟩
theorem lw_p54 : lw_okq (⟨"ThousandLeafletsModel", "isBook", "(I)Z"⟩, 48) := ⟨⟨by decide +kernel, by decide +kernel⟩, List.mem_of_getElem? (i := 1149) (by decide +kernel), List.mem_of_getElem? (i := 1333) (by decide +kernel), List.mem_of_getElem? (i := 1334) (by decide +kernel)⟩
theorem lw_p55 : lw_okq (⟨"ThousandLeafletsModel", "isOut", "(I)Z"⟩, 48) := ⟨⟨by decide +kernel, by decide +kernel⟩, List.mem_of_getElem? (i := 1149) (by decide +kernel), List.mem_of_getElem? (i := 1338) (by decide +kernel), List.mem_of_getElem? (i := 1339) (by decide +kernel)⟩
theorem lw_p56 : lw_okq (⟨"ThousandLeafletsModel", "cutAll", "()V"⟩, 48) := ⟨⟨by decide +kernel, by decide +kernel⟩, List.mem_of_getElem? (i := 1149) (by decide +kernel), List.mem_of_getElem? (i := 1346) (by decide +kernel), List.mem_of_getElem? (i := 1347) (by decide +kernel)⟩
theorem lw_p57 : lw_okq (⟨"ThousandLeafletsModel", "readLine", "()V"⟩, 48) := ⟨⟨by decide +kernel, by decide +kernel⟩, List.mem_of_getElem? (i := 1149) (by decide +kernel), List.mem_of_getElem? (i := 1365) (by decide +kernel), List.mem_of_getElem? (i := 1366) (by decide +kernel)⟩
theorem lw_p58 : lw_okq (⟨"ThousandLeafletsModel", "isWord", "(I)Z"⟩, 48) := ⟨⟨by decide +kernel, by decide +kernel⟩, List.mem_of_getElem? (i := 1149) (by decide +kernel), List.mem_of_getElem? (i := 1369) (by decide +kernel), List.mem_of_getElem? (i := 1370) (by decide +kernel)⟩
theorem lw_p59 : lw_okq (⟨"ThousandLeafletsModel", "wrong", "(I)V"⟩, 48) := ⟨⟨by decide +kernel, by decide +kernel⟩, List.mem_of_getElem? (i := 1149) (by decide +kernel), List.mem_of_getElem? (i := 1373) (by decide +kernel), List.mem_of_getElem? (i := 1374) (by decide +kernel)⟩
theorem lw_p60 : lw_okq (⟨"ThousandLeafletsModel", "hasWord", "(I)Z"⟩, 48) := ⟨⟨by decide +kernel, by decide +kernel⟩, List.mem_of_getElem? (i := 1149) (by decide +kernel), List.mem_of_getElem? (i := 1377) (by decide +kernel), List.mem_of_getElem? (i := 1378) (by decide +kernel)⟩
theorem lw_p61 : lw_okq (⟨"ThousandLeafletsModel", "readOdds", "()V"⟩, 48) := ⟨⟨by decide +kernel, by decide +kernel⟩, List.mem_of_getElem? (i := 1149) (by decide +kernel), List.mem_of_getElem? (i := 1381) (by decide +kernel), List.mem_of_getElem? (i := 1382) (by decide +kernel)⟩
theorem lw_p62 : lw_okq (⟨"ThousandLeafletsModel", "takeNumber", "(II)I"⟩, 48) := ⟨⟨by decide +kernel, by decide +kernel⟩, List.mem_of_getElem? (i := 1149) (by decide +kernel), List.mem_of_getElem? (i := 1386) (by decide +kernel), List.mem_of_getElem? (i := 1387) (by decide +kernel)⟩
theorem lw_p63 : lw_okq (⟨"ThousandLeafletsModel", "readSum", "()V"⟩, 48) := ⟨⟨by decide +kernel, by decide +kernel⟩, List.mem_of_getElem? (i := 1149) (by decide +kernel), List.mem_of_getElem? (i := 1390) (by decide +kernel), List.mem_of_getElem? (i := 1391) (by decide +kernel)⟩
def lw_privs_4 : List (MethodName × Nat) := [(⟨"ThousandLeaflets", "unknownPages", "(ILThousandLeaflets$Paper;)I"⟩, 14), (⟨"ThousandLeafletsModel", "lay", "(J)V"⟩, 48), (⟨"ThousandLeafletsModel", "forgetsDraw", "(I)V"⟩, 48), (⟨"ThousandLeafletsModel", "takesOut", "(II)V"⟩, 48), (⟨"ThousandLeafletsModel", "moves", "(II)V"⟩, 48), (⟨"ThousandLeafletsModel", "forgetsMarks", "()V"⟩, 48), (⟨"ThousandLeafletsModel", "isBook", "(I)Z"⟩, 48), (⟨"ThousandLeafletsModel", "isOut", "(I)Z"⟩, 48), (⟨"ThousandLeafletsModel", "cutAll", "()V"⟩, 48), (⟨"ThousandLeafletsModel", "readLine", "()V"⟩, 48), (⟨"ThousandLeafletsModel", "isWord", "(I)Z"⟩, 48), (⟨"ThousandLeafletsModel", "wrong", "(I)V"⟩, 48), (⟨"ThousandLeafletsModel", "hasWord", "(I)Z"⟩, 48), (⟨"ThousandLeafletsModel", "readOdds", "()V"⟩, 48), (⟨"ThousandLeafletsModel", "takeNumber", "(II)I"⟩, 48), (⟨"ThousandLeafletsModel", "readSum", "()V"⟩, 48)]
theorem lw_r4 : ∀ q ∈ lw_privs_4, lw_okq q := List.forall_mem_cons.mpr ⟨lw_p48, List.forall_mem_cons.mpr ⟨lw_p49, List.forall_mem_cons.mpr ⟨lw_p50, List.forall_mem_cons.mpr ⟨lw_p51, List.forall_mem_cons.mpr ⟨lw_p52, List.forall_mem_cons.mpr ⟨lw_p53, List.forall_mem_cons.mpr ⟨lw_p54, List.forall_mem_cons.mpr ⟨lw_p55, List.forall_mem_cons.mpr ⟨lw_p56, List.forall_mem_cons.mpr ⟨lw_p57, List.forall_mem_cons.mpr ⟨lw_p58, List.forall_mem_cons.mpr ⟨lw_p59, List.forall_mem_cons.mpr ⟨lw_p60, List.forall_mem_cons.mpr ⟨lw_p61, List.forall_mem_cons.mpr ⟨lw_p62, List.forall_mem_cons.mpr ⟨lw_p63, fun _ h => absurd h List.not_mem_nil⟩⟩⟩⟩⟩⟩⟩⟩⟩⟩⟩⟩⟩⟩⟩⟩
theorem lw_p64 : lw_okq (⟨"ThousandLeafletsModel", "takeSign", "(I)V"⟩, 48) := ⟨⟨by decide +kernel, by decide +kernel⟩, List.mem_of_getElem? (i := 1149) (by decide +kernel), List.mem_of_getElem? (i := 1394) (by decide +kernel), List.mem_of_getElem? (i := 1395) (by decide +kernel)⟩
theorem lw_p65 : lw_okq (⟨"ThousandLeafletsModel", "isSign", "(I)Z"⟩, 48) := ⟨⟨by decide +kernel, by decide +kernel⟩, List.mem_of_getElem? (i := 1149) (by decide +kernel), List.mem_of_getElem? (i := 1398) (by decide +kernel), List.mem_of_getElem? (i := 1399) (by decide +kernel)⟩
theorem lw_p66 : lw_okq (⟨"ThousandLeafletsModel", "setOf", "(II)I"⟩, 48) := ⟨⟨by decide +kernel, by decide +kernel⟩, List.mem_of_getElem? (i := 1149) (by decide +kernel), List.mem_of_getElem? (i := 1409) (by decide +kernel), List.mem_of_getElem? (i := 1410) (by decide +kernel)⟩
theorem lw_p67 : lw_okq (⟨"ThousandLeafletsModel", "howMany", "(I)I"⟩, 48) := ⟨⟨by decide +kernel, by decide +kernel⟩, List.mem_of_getElem? (i := 1149) (by decide +kernel), List.mem_of_getElem? (i := 1416) (by decide +kernel), List.mem_of_getElem? (i := 1417) (by decide +kernel)⟩
theorem lw_p68 : lw_okq (⟨"ThousandLeafletsModel", "allOf", "(I)I"⟩, 48) := ⟨⟨by decide +kernel, by decide +kernel⟩, List.mem_of_getElem? (i := 1149) (by decide +kernel), List.mem_of_getElem? (i := 1420) (by decide +kernel), List.mem_of_getElem? (i := 1421) (by decide +kernel)⟩
theorem lw_p69 : lw_okq (⟨"ThousandLeafletsModel", "oddsOf", "(II)I"⟩, 48) := ⟨⟨by decide +kernel, by decide +kernel⟩, List.mem_of_getElem? (i := 1149) (by decide +kernel), List.mem_of_getElem? (i := 1424) (by decide +kernel), List.mem_of_getElem? (i := 1425) (by decide +kernel)⟩
theorem lw_p70 : lw_okq (⟨"ThousandLeafletsModel", "drawn", "()I"⟩, 48) := ⟨⟨by decide +kernel, by decide +kernel⟩, List.mem_of_getElem? (i := 1149) (by decide +kernel), List.mem_of_getElem? (i := 1428) (by decide +kernel), List.mem_of_getElem? (i := 1429) (by decide +kernel)⟩
theorem lw_p71 : lw_okq (⟨"ThousandLeafletsModel", "weightOf", "(II)I"⟩, 48) := ⟨⟨by decide +kernel, by decide +kernel⟩, List.mem_of_getElem? (i := 1149) (by decide +kernel), List.mem_of_getElem? (i := 1435) (by decide +kernel), List.mem_of_getElem? (i := 1436) (by decide +kernel)⟩
theorem lw_p72 : lw_okq (⟨"ThousandLeafletsModel", "sumOf", "(II)I"⟩, 48) := ⟨⟨by decide +kernel, by decide +kernel⟩, List.mem_of_getElem? (i := 1149) (by decide +kernel), List.mem_of_getElem? (i := 1442) (by decide +kernel), List.mem_of_getElem? (i := 1443) (by decide +kernel)⟩
theorem lw_p73 : lw_okq (⟨"ThousandLeafletsModel", "sealOf", "(III)I"⟩, 48) := ⟨⟨by decide +kernel, by decide +kernel⟩, List.mem_of_getElem? (i := 1149) (by decide +kernel), List.mem_of_getElem? (i := 1446) (by decide +kernel), List.mem_of_getElem? (i := 1447) (by decide +kernel)⟩
theorem lw_p74 : lw_okq (⟨"ThousandLeafletsModel", "valueOf", "(II)I"⟩, 48) := ⟨⟨by decide +kernel, by decide +kernel⟩, List.mem_of_getElem? (i := 1149) (by decide +kernel), List.mem_of_getElem? (i := 1454) (by decide +kernel), List.mem_of_getElem? (i := 1455) (by decide +kernel)⟩
theorem lw_p75 : lw_okq (⟨"ThousandLeafletsModel", "lays", "(IIIIII)I"⟩, 48) := ⟨⟨by decide +kernel, by decide +kernel⟩, List.mem_of_getElem? (i := 1149) (by decide +kernel), List.mem_of_getElem? (i := 1469) (by decide +kernel), List.mem_of_getElem? (i := 1470) (by decide +kernel)⟩
theorem lw_p76 : lw_okq (⟨"ThousandLeafletsModel", "laysIf", "(IIIII)I"⟩, 48) := ⟨⟨by decide +kernel, by decide +kernel⟩, List.mem_of_getElem? (i := 1149) (by decide +kernel), List.mem_of_getElem? (i := 1477) (by decide +kernel), List.mem_of_getElem? (i := 1478) (by decide +kernel)⟩
theorem lw_p77 : lw_okq (⟨"ThousandLeafletsModel", "namelessIn", "(I)I"⟩, 48) := ⟨⟨by decide +kernel, by decide +kernel⟩, List.mem_of_getElem? (i := 1149) (by decide +kernel), List.mem_of_getElem? (i := 1489) (by decide +kernel), List.mem_of_getElem? (i := 1490) (by decide +kernel)⟩
theorem lw_p78 : lw_okq (⟨"ThousandLeafletsModel", "isPaper", "(II)Z"⟩, 48) := ⟨⟨by decide +kernel, by decide +kernel⟩, List.mem_of_getElem? (i := 1149) (by decide +kernel), List.mem_of_getElem? (i := 1497) (by decide +kernel), List.mem_of_getElem? (i := 1498) (by decide +kernel)⟩
theorem lw_p79 : lw_okq (⟨"ThousandLeafletsModel", "copies", "(II)V"⟩, 48) := ⟨⟨by decide +kernel, by decide +kernel⟩, List.mem_of_getElem? (i := 1149) (by decide +kernel), List.mem_of_getElem? (i := 1505) (by decide +kernel), List.mem_of_getElem? (i := 1506) (by decide +kernel)⟩
def lw_privs_5 : List (MethodName × Nat) := [(⟨"ThousandLeafletsModel", "takeSign", "(I)V"⟩, 48), (⟨"ThousandLeafletsModel", "isSign", "(I)Z"⟩, 48), (⟨"ThousandLeafletsModel", "setOf", "(II)I"⟩, 48), (⟨"ThousandLeafletsModel", "howMany", "(I)I"⟩, 48), (⟨"ThousandLeafletsModel", "allOf", "(I)I"⟩, 48), (⟨"ThousandLeafletsModel", "oddsOf", "(II)I"⟩, 48), (⟨"ThousandLeafletsModel", "drawn", "()I"⟩, 48), (⟨"ThousandLeafletsModel", "weightOf", "(II)I"⟩, 48), (⟨"ThousandLeafletsModel", "sumOf", "(II)I"⟩, 48), (⟨"ThousandLeafletsModel", "sealOf", "(III)I"⟩, 48), (⟨"ThousandLeafletsModel", "valueOf", "(II)I"⟩, 48), (⟨"ThousandLeafletsModel", "lays", "(IIIIII)I"⟩, 48), (⟨"ThousandLeafletsModel", "laysIf", "(IIIII)I"⟩, 48), (⟨"ThousandLeafletsModel", "namelessIn", "(I)I"⟩, 48), (⟨"ThousandLeafletsModel", "isPaper", "(II)Z"⟩, 48), (⟨"ThousandLeafletsModel", "copies", "(II)V"⟩, 48)]
theorem lw_r5 : ∀ q ∈ lw_privs_5, lw_okq q := List.forall_mem_cons.mpr ⟨lw_p64, List.forall_mem_cons.mpr ⟨lw_p65, List.forall_mem_cons.mpr ⟨lw_p66, List.forall_mem_cons.mpr ⟨lw_p67, List.forall_mem_cons.mpr ⟨lw_p68, List.forall_mem_cons.mpr ⟨lw_p69, List.forall_mem_cons.mpr ⟨lw_p70, List.forall_mem_cons.mpr ⟨lw_p71, List.forall_mem_cons.mpr ⟨lw_p72, List.forall_mem_cons.mpr ⟨lw_p73, List.forall_mem_cons.mpr ⟨lw_p74, List.forall_mem_cons.mpr ⟨lw_p75, List.forall_mem_cons.mpr ⟨lw_p76, List.forall_mem_cons.mpr ⟨lw_p77, List.forall_mem_cons.mpr ⟨lw_p78, List.forall_mem_cons.mpr ⟨lw_p79, fun _ h => absurd h List.not_mem_nil⟩⟩⟩⟩⟩⟩⟩⟩⟩⟩⟩⟩⟩⟩⟩⟩
theorem lw_p80 : lw_okq (⟨"ThousandLeafletsModel", "isAsked", "(III)Z"⟩, 48) := ⟨⟨by decide +kernel, by decide +kernel⟩, List.mem_of_getElem? (i := 1149) (by decide +kernel), List.mem_of_getElem? (i := 1513) (by decide +kernel), List.mem_of_getElem? (i := 1514) (by decide +kernel)⟩
theorem lw_p81 : lw_okq (⟨"ThousandLeafletsModel", "leavesNone", "()V"⟩, 48) := ⟨⟨by decide +kernel, by decide +kernel⟩, List.mem_of_getElem? (i := 1149) (by decide +kernel), List.mem_of_getElem? (i := 1517) (by decide +kernel), List.mem_of_getElem? (i := 1518) (by decide +kernel)⟩
theorem lw_p82 : lw_okq (⟨"ThousandLeafletsModel", "gathers", "(IIII)V"⟩, 48) := ⟨⟨by decide +kernel, by decide +kernel⟩, List.mem_of_getElem? (i := 1149) (by decide +kernel), List.mem_of_getElem? (i := 1521) (by decide +kernel), List.mem_of_getElem? (i := 1522) (by decide +kernel)⟩
theorem lw_p83 : lw_okq (⟨"ThousandLeafletsModel", "begins", "(I)V"⟩, 48) := ⟨⟨by decide +kernel, by decide +kernel⟩, List.mem_of_getElem? (i := 1149) (by decide +kernel), List.mem_of_getElem? (i := 1525) (by decide +kernel), List.mem_of_getElem? (i := 1526) (by decide +kernel)⟩
theorem lw_p84 : lw_okq (⟨"ThousandLeafletsModel", "adds", "(III)V"⟩, 48) := ⟨⟨by decide +kernel, by decide +kernel⟩, List.mem_of_getElem? (i := 1149) (by decide +kernel), List.mem_of_getElem? (i := 1529) (by decide +kernel), List.mem_of_getElem? (i := 1530) (by decide +kernel)⟩
theorem lw_p85 : lw_okq (⟨"ThousandLeafletsModel", "findPeeled", "()V"⟩, 48) := ⟨⟨by decide +kernel, by decide +kernel⟩, List.mem_of_getElem? (i := 1149) (by decide +kernel), List.mem_of_getElem? (i := 1536) (by decide +kernel), List.mem_of_getElem? (i := 1537) (by decide +kernel)⟩
theorem lw_p86 : lw_okq (⟨"ThousandLeafletsModel", "comesTo", "(I)I"⟩, 48) := ⟨⟨by decide +kernel, by decide +kernel⟩, List.mem_of_getElem? (i := 1149) (by decide +kernel), List.mem_of_getElem? (i := 1540) (by decide +kernel), List.mem_of_getElem? (i := 1541) (by decide +kernel)⟩
theorem lw_p87 : lw_okq (⟨"ThousandLeafletsModel", "findSolved", "()V"⟩, 48) := ⟨⟨by decide +kernel, by decide +kernel⟩, List.mem_of_getElem? (i := 1149) (by decide +kernel), List.mem_of_getElem? (i := 1548) (by decide +kernel), List.mem_of_getElem? (i := 1549) (by decide +kernel)⟩
theorem lw_p88 : lw_okq (⟨"ThousandLeafletsModel", "fixedSet", "()I"⟩, 48) := ⟨⟨by decide +kernel, by decide +kernel⟩, List.mem_of_getElem? (i := 1149) (by decide +kernel), List.mem_of_getElem? (i := 1552) (by decide +kernel), List.mem_of_getElem? (i := 1553) (by decide +kernel)⟩
theorem lw_p89 : lw_okq (⟨"ThousandLeafletsModel", "isFixed", "(I)Z"⟩, 48) := ⟨⟨by decide +kernel, by decide +kernel⟩, List.mem_of_getElem? (i := 1149) (by decide +kernel), List.mem_of_getElem? (i := 1556) (by decide +kernel), List.mem_of_getElem? (i := 1557) (by decide +kernel)⟩
theorem lw_p90 : lw_okq (⟨"ThousandLeafletsModel", "isPage", "(II)Z"⟩, 48) := ⟨⟨by decide +kernel, by decide +kernel⟩, List.mem_of_getElem? (i := 1149) (by decide +kernel), List.mem_of_getElem? (i := 1564) (by decide +kernel), List.mem_of_getElem? (i := 1565) (by decide +kernel)⟩
theorem lw_p91 : lw_okq (⟨"ThousandLeafletsModel", "readBy", "(IIIII)I"⟩, 48) := ⟨⟨by decide +kernel, by decide +kernel⟩, List.mem_of_getElem? (i := 1149) (by decide +kernel), List.mem_of_getElem? (i := 1568) (by decide +kernel), List.mem_of_getElem? (i := 1569) (by decide +kernel)⟩
theorem lw_p92 : lw_okq (⟨"ThousandLeafletsModel", "unknownOf", "(II)I"⟩, 48) := ⟨⟨by decide +kernel, by decide +kernel⟩, List.mem_of_getElem? (i := 1149) (by decide +kernel), List.mem_of_getElem? (i := 1580) (by decide +kernel), List.mem_of_getElem? (i := 1581) (by decide +kernel)⟩
theorem lw_p93 : lw_okq (⟨"ThousandLeafletsModel", "findSlipped", "(III)Z"⟩, 48) := ⟨⟨by decide +kernel, by decide +kernel⟩, List.mem_of_getElem? (i := 1149) (by decide +kernel), List.mem_of_getElem? (i := 1588) (by decide +kernel), List.mem_of_getElem? (i := 1589) (by decide +kernel)⟩
theorem lw_p94 : lw_okq (⟨"ThousandLeafletsModel", "isFixedWithout", "(IIII)Z"⟩, 48) := ⟨⟨by decide +kernel, by decide +kernel⟩, List.mem_of_getElem? (i := 1149) (by decide +kernel), List.mem_of_getElem? (i := 1604) (by decide +kernel), List.mem_of_getElem? (i := 1605) (by decide +kernel)⟩
theorem lw_p95 : lw_okq (⟨"ThousandLeafletsModel", "isAllWith", "(III)Z"⟩, 48) := ⟨⟨by decide +kernel, by decide +kernel⟩, List.mem_of_getElem? (i := 1149) (by decide +kernel), List.mem_of_getElem? (i := 1612) (by decide +kernel), List.mem_of_getElem? (i := 1613) (by decide +kernel)⟩
def lw_privs_6 : List (MethodName × Nat) := [(⟨"ThousandLeafletsModel", "isAsked", "(III)Z"⟩, 48), (⟨"ThousandLeafletsModel", "leavesNone", "()V"⟩, 48), (⟨"ThousandLeafletsModel", "gathers", "(IIII)V"⟩, 48), (⟨"ThousandLeafletsModel", "begins", "(I)V"⟩, 48), (⟨"ThousandLeafletsModel", "adds", "(III)V"⟩, 48), (⟨"ThousandLeafletsModel", "findPeeled", "()V"⟩, 48), (⟨"ThousandLeafletsModel", "comesTo", "(I)I"⟩, 48), (⟨"ThousandLeafletsModel", "findSolved", "()V"⟩, 48), (⟨"ThousandLeafletsModel", "fixedSet", "()I"⟩, 48), (⟨"ThousandLeafletsModel", "isFixed", "(I)Z"⟩, 48), (⟨"ThousandLeafletsModel", "isPage", "(II)Z"⟩, 48), (⟨"ThousandLeafletsModel", "readBy", "(IIIII)I"⟩, 48), (⟨"ThousandLeafletsModel", "unknownOf", "(II)I"⟩, 48), (⟨"ThousandLeafletsModel", "findSlipped", "(III)Z"⟩, 48), (⟨"ThousandLeafletsModel", "isFixedWithout", "(IIII)Z"⟩, 48), (⟨"ThousandLeafletsModel", "isAllWith", "(III)Z"⟩, 48)]
theorem lw_r6 : ∀ q ∈ lw_privs_6, lw_okq q := List.forall_mem_cons.mpr ⟨lw_p80, List.forall_mem_cons.mpr ⟨lw_p81, List.forall_mem_cons.mpr ⟨lw_p82, List.forall_mem_cons.mpr ⟨lw_p83, List.forall_mem_cons.mpr ⟨lw_p84, List.forall_mem_cons.mpr ⟨lw_p85, List.forall_mem_cons.mpr ⟨lw_p86, List.forall_mem_cons.mpr ⟨lw_p87, List.forall_mem_cons.mpr ⟨lw_p88, List.forall_mem_cons.mpr ⟨lw_p89, List.forall_mem_cons.mpr ⟨lw_p90, List.forall_mem_cons.mpr ⟨lw_p91, List.forall_mem_cons.mpr ⟨lw_p92, List.forall_mem_cons.mpr ⟨lw_p93, List.forall_mem_cons.mpr ⟨lw_p94, List.forall_mem_cons.mpr ⟨lw_p95, fun _ h => absurd h List.not_mem_nil⟩⟩⟩⟩⟩⟩⟩⟩⟩⟩⟩⟩⟩⟩⟩⟩
theorem lw_p96 : lw_okq (⟨"ThousandLeafletsModel", "givesAll", "(II)Z"⟩, 48) := ⟨⟨by decide +kernel, by decide +kernel⟩, List.mem_of_getElem? (i := 1149) (by decide +kernel), List.mem_of_getElem? (i := 1616) (by decide +kernel), List.mem_of_getElem? (i := 1617) (by decide +kernel)⟩
theorem lw_p97 : lw_okq (⟨"ThousandLeafletsModel", "areChances", "(III)Z"⟩, 48) := ⟨⟨by decide +kernel, by decide +kernel⟩, List.mem_of_getElem? (i := 1149) (by decide +kernel), List.mem_of_getElem? (i := 1624) (by decide +kernel), List.mem_of_getElem? (i := 1625) (by decide +kernel)⟩
theorem lw_p98 : lw_okq (⟨"ThousandLeafletsModel", "keepsSets", "(II)V"⟩, 48) := ⟨⟨by decide +kernel, by decide +kernel⟩, List.mem_of_getElem? (i := 1149) (by decide +kernel), List.mem_of_getElem? (i := 1628) (by decide +kernel), List.mem_of_getElem? (i := 1629) (by decide +kernel)⟩
theorem lw_p99 : lw_okq (⟨"ThousandLeafletsModel", "chancesOf", "(IIII)I"⟩, 48) := ⟨⟨by decide +kernel, by decide +kernel⟩, List.mem_of_getElem? (i := 1149) (by decide +kernel), List.mem_of_getElem? (i := 1632) (by decide +kernel), List.mem_of_getElem? (i := 1633) (by decide +kernel)⟩
theorem lw_p100 : lw_okq (⟨"ThousandLeafletsModel", "agreesBy", "(III)Z"⟩, 48) := ⟨⟨by decide +kernel, by decide +kernel⟩, List.mem_of_getElem? (i := 1149) (by decide +kernel), List.mem_of_getElem? (i := 1659) (by decide +kernel), List.mem_of_getElem? (i := 1660) (by decide +kernel)⟩
theorem lw_p101 : lw_okq (⟨"ThousandLeafletsModel", "falls", "(III)Z"⟩, 48) := ⟨⟨by decide +kernel, by decide +kernel⟩, List.mem_of_getElem? (i := 1149) (by decide +kernel), List.mem_of_getElem? (i := 1671) (by decide +kernel), List.mem_of_getElem? (i := 1672) (by decide +kernel)⟩
theorem lw_p102 : lw_okq (⟨"ThousandLeafletsModel", "hasAlike", "(II)Z"⟩, 48) := ⟨⟨by decide +kernel, by decide +kernel⟩, List.mem_of_getElem? (i := 1149) (by decide +kernel), List.mem_of_getElem? (i := 1675) (by decide +kernel), List.mem_of_getElem? (i := 1676) (by decide +kernel)⟩
theorem lw_p103 : lw_okq (⟨"ThousandLeafletsModel", "isAlike", "(II)Z"⟩, 48) := ⟨⟨by decide +kernel, by decide +kernel⟩, List.mem_of_getElem? (i := 1149) (by decide +kernel), List.mem_of_getElem? (i := 1679) (by decide +kernel), List.mem_of_getElem? (i := 1680) (by decide +kernel)⟩
theorem lw_p104 : lw_okq (⟨"ThousandLeafletsModel", "needsOf", "(II)I"⟩, 48) := ⟨⟨by decide +kernel, by decide +kernel⟩, List.mem_of_getElem? (i := 1149) (by decide +kernel), List.mem_of_getElem? (i := 1687) (by decide +kernel), List.mem_of_getElem? (i := 1688) (by decide +kernel)⟩
theorem lw_p105 : lw_okq (⟨"ThousandLeafletsModel", "allHouses", "()I"⟩, 48) := ⟨⟨by decide +kernel, by decide +kernel⟩, List.mem_of_getElem? (i := 1149) (by decide +kernel), List.mem_of_getElem? (i := 1695) (by decide +kernel), List.mem_of_getElem? (i := 1696) (by decide +kernel)⟩
def lw_privs_7 : List (MethodName × Nat) := [(⟨"ThousandLeafletsModel", "givesAll", "(II)Z"⟩, 48), (⟨"ThousandLeafletsModel", "areChances", "(III)Z"⟩, 48), (⟨"ThousandLeafletsModel", "keepsSets", "(II)V"⟩, 48), (⟨"ThousandLeafletsModel", "chancesOf", "(IIII)I"⟩, 48), (⟨"ThousandLeafletsModel", "agreesBy", "(III)Z"⟩, 48), (⟨"ThousandLeafletsModel", "falls", "(III)Z"⟩, 48), (⟨"ThousandLeafletsModel", "hasAlike", "(II)Z"⟩, 48), (⟨"ThousandLeafletsModel", "isAlike", "(II)Z"⟩, 48), (⟨"ThousandLeafletsModel", "needsOf", "(II)I"⟩, 48), (⟨"ThousandLeafletsModel", "allHouses", "()I"⟩, 48)]
theorem lw_r7 : ∀ q ∈ lw_privs_7, lw_okq q := List.forall_mem_cons.mpr ⟨lw_p96, List.forall_mem_cons.mpr ⟨lw_p97, List.forall_mem_cons.mpr ⟨lw_p98, List.forall_mem_cons.mpr ⟨lw_p99, List.forall_mem_cons.mpr ⟨lw_p100, List.forall_mem_cons.mpr ⟨lw_p101, List.forall_mem_cons.mpr ⟨lw_p102, List.forall_mem_cons.mpr ⟨lw_p103, List.forall_mem_cons.mpr ⟨lw_p104, List.forall_mem_cons.mpr ⟨lw_p105, fun _ h => absurd h List.not_mem_nil⟩⟩⟩⟩⟩⟩⟩⟩⟩⟩
def lw_privs : List (MethodName × Nat) := lw_privs_1 ++ (lw_privs_2 ++ (lw_privs_3 ++ (lw_privs_4 ++ (lw_privs_5 ++ (lw_privs_6 ++ (lw_privs_7))))))
def lw_tbl : List Cond := k2_sels lw_privs ++ tables_1
theorem lw_privs_ok : ∀ q ∈ lw_privs, lw_okq q := by
  show ∀ q ∈ lw_privs_1 ++ (lw_privs_2 ++ (lw_privs_3 ++ (lw_privs_4 ++ (lw_privs_5 ++ (lw_privs_6 ++ (lw_privs_7)))))), lw_okq q
  exact List.forall_mem_append.mpr ⟨lw_r1, List.forall_mem_append.mpr ⟨lw_r2, List.forall_mem_append.mpr ⟨lw_r3, List.forall_mem_append.mpr ⟨lw_r4, List.forall_mem_append.mpr ⟨lw_r5, List.forall_mem_append.mpr ⟨lw_r6, lw_r7⟩⟩⟩⟩⟩⟩
def RX0 : String := "ThousandLeaflets$Basis"
def TX0 : u_T := fun k => match k with
  | 0 => ("ThousandLeaflets$Basis", "row", "[I", true)
  | 1 => ("ThousandLeaflets$Basis", "lead", "[I", true)
  | 2 => ("ThousandLeaflets$Basis", "rank", "I", false)
  | _ => ("ThousandLeaflets$Basis", "agrees", "Z", false)
def tyX0 : Nat → FieldType := fun k => match k with
  | 0 => .array .int
  | 1 => .array .int
  | 2 => .int
  | _ => .boolean
theorem nmX0 : ∀ a, a < 4 → ∀ b, b < 4 → a ≠ b → (TX0 a).2.1 ≠ (TX0 b).2.1 := by decide +kernel
theorem tyX0_ok : ∀ k, k < 4 → parseFieldDescriptor (TX0 k).2.2.1 = some (tyX0 k) := by decide +kernel
abbrev cX0_init : ByteArray := prog_2_method_1_code
def yX0_init : MethodName := ⟨RX0, "<init>", "()V"⟩
abbrev cX0_take : ByteArray := prog_2_method_2_code
def yX0_take : MethodName := ⟨RX0, "take", "(LThousandLeaflets$Equations;I)V"⟩
abbrev cX0_add : ByteArray := prog_2_method_3_code
def yX0_add : MethodName := ⟨RX0, "add", "(I)V"⟩
abbrev cX0_cut : ByteArray := prog_2_method_4_code
def yX0_cut : MethodName := ⟨RX0, "cut", "(I)V"⟩
abbrev cX0_reduce : ByteArray := prog_2_method_5_code
def yX0_reduce : MethodName := ⟨RX0, "reduce", "(I)I"⟩
abbrev cX0_octetOf : ByteArray := prog_2_method_6_code
def yX0_octetOf : MethodName := ⟨RX0, "octetOf", "(I)I"⟩
abbrev cX0_fixedPages : ByteArray := prog_2_method_7_code
def yX0_fixedPages : MethodName := ⟨RX0, "fixedPages", "(I)I"⟩
def RX1 : String := "ThousandLeaflets$Book"
def TX1 : u_T := fun k => match k with
  | 0 => ("ThousandLeaflets$Book", "index", "I", true)
  | 1 => ("ThousandLeaflets$Book", "value", "[I", true)
  | 2 => ("ThousandLeaflets$Book", "draw", "LThousandLeaflets$Draw;", true)
  | 3 => ("ThousandLeaflets$Book", "drawn", "[I", true)
  | 4 => ("ThousandLeaflets$Book", "told", "Z", false)
  | 5 => ("ThousandLeaflets$Book", "pages", "I", false)
  | _ => ("ThousandLeaflets$Book", "dice", "I", false)
def tyX1 : Nat → FieldType := fun k => match k with
  | 0 => .int
  | 1 => .array .int
  | 2 => .object "ThousandLeaflets$Draw"
  | 3 => .array .int
  | 4 => .boolean
  | 5 => .int
  | _ => .int
theorem nmX1 : ∀ a, a < 7 → ∀ b, b < 7 → a ≠ b → (TX1 a).2.1 ≠ (TX1 b).2.1 := by decide +kernel
theorem tyX1_ok : ∀ k, k < 7 → parseFieldDescriptor (TX1 k).2.2.1 = some (tyX1 k) := by decide +kernel
abbrev cX1_init : ByteArray := prog_3_method_1_code
def yX1_init : MethodName := ⟨RX1, "<init>", "(I)V"⟩
abbrev cX1_tell : ByteArray := prog_3_method_2_code
def yX1_tell : MethodName := ⟨RX1, "tell", "(I)V"⟩
abbrev cX1_changeDraw : ByteArray := prog_3_method_3_code
def yX1_changeDraw : MethodName := ⟨RX1, "changeDraw", "(LThousandLeaflets$Draw;)V"⟩
abbrev cX1_forgetDrawn : ByteArray := prog_3_method_4_code
def yX1_forgetDrawn : MethodName := ⟨RX1, "forgetDrawn", "()V"⟩
abbrev cX1_all : ByteArray := prog_3_method_5_code
def yX1_all : MethodName := ⟨RX1, "all", "()I"⟩
abbrev cX1_allBits : ByteArray := prog_3_method_6_code
def yX1_allBits : MethodName := ⟨RX1, "allBits", "()I"⟩
abbrev cX1_withoutHidden : ByteArray := prog_3_method_7_code
def yX1_withoutHidden : MethodName := ⟨RX1, "withoutHidden", "(I)I"⟩
abbrev cX1_sumOf : ByteArray := prog_3_method_8_code
def yX1_sumOf : MethodName := ⟨RX1, "sumOf", "(I)I"⟩
abbrev cX1_sealOf : ByteArray := prog_3_method_9_code
def yX1_sealOf : MethodName := ⟨RX1, "sealOf", "(II)I"⟩
abbrev cX1_pagesOf : ByteArray := prog_3_method_10_code
def yX1_pagesOf : MethodName := ⟨RX1, "pagesOf", "(I)I"⟩
abbrev cX1_drawPages : ByteArray := prog_3_method_11_code
def yX1_drawPages : MethodName := ⟨RX1, "drawPages", "(II)I"⟩
abbrev cX1_cast : ByteArray := prog_3_method_12_code
def yX1_cast : MethodName := ⟨RX1, "cast", "(I)I"⟩
abbrev cX1_castDegree : ByteArray := prog_3_method_13_code
def yX1_castDegree : MethodName := ⟨RX1, "castDegree", "(I)I"⟩
abbrev cX1_howMany : ByteArray := prog_3_method_14_code
def yX1_howMany : MethodName := ⟨RX1, "howMany", "(I)I"⟩
abbrev cX1_weightOf : ByteArray := prog_3_method_15_code
def yX1_weightOf : MethodName := ⟨RX1, "weightOf", "(I)I"⟩
abbrev cX1_pickBeside : ByteArray := prog_3_method_16_code
def yX1_pickBeside : MethodName := ⟨RX1, "pickBeside", "(III)I"⟩
abbrev cX1_leafletPaper : ByteArray := prog_3_method_17_code
def yX1_leafletPaper : MethodName := ⟨RX1, "leafletPaper", "(II)LThousandLeaflets$Paper;"⟩
abbrev cX1_paperOf : ByteArray := prog_3_method_18_code
def yX1_paperOf : MethodName := ⟨RX1, "paperOf", "(IIIII)LThousandLeaflets$Paper;"⟩
def RX2 : String := "ThousandLeaflets$Coming"
def TX2 : u_T := fun k => match k with
  | 0 => ("ThousandLeaflets$Coming", "lowRow", "[I", true)
  | 1 => ("ThousandLeaflets$Coming", "highRow", "[I", true)
  | 2 => ("ThousandLeaflets$Coming", "low", "LThousandLeaflets$Basis;", true)
  | 3 => ("ThousandLeaflets$Coming", "high", "LThousandLeaflets$Basis;", true)
  | 4 => ("ThousandLeaflets$Coming", "all", "I", false)
  | 5 => ("ThousandLeaflets$Coming", "least", "I", false)
  | _ => ("ThousandLeaflets$Coming", "found", "I", false)
def tyX2 : Nat → FieldType := fun k => match k with
  | 0 => .array .int
  | 1 => .array .int
  | 2 => .object "ThousandLeaflets$Basis"
  | 3 => .object "ThousandLeaflets$Basis"
  | 4 => .int
  | 5 => .int
  | _ => .int
theorem nmX2 : ∀ a, a < 7 → ∀ b, b < 7 → a ≠ b → (TX2 a).2.1 ≠ (TX2 b).2.1 := by decide +kernel
theorem tyX2_ok : ∀ k, k < 7 → parseFieldDescriptor (TX2 k).2.2.1 = some (tyX2 k) := by decide +kernel
abbrev cX2_init : ByteArray := prog_4_method_1_code
def yX2_init : MethodName := ⟨RX2, "<init>", "()V"⟩
abbrev cX2_find : ByteArray := prog_4_method_2_code
def yX2_find : MethodName := ⟨RX2, "find", "(LThousandLeaflets$Book;LThousandLeaflets$Equations;LThousandLeaflets$Equations;)Z"⟩
abbrev cX2_seek : ByteArray := prog_4_method_3_code
def yX2_seek : MethodName := ⟨RX2, "seek", "(III)V"⟩
def RX3 : String := "ThousandLeaflets$Draw"
def TX3 : u_T := fun k => match k with
  | 0 => ("ThousandLeaflets$Draw", "odds", "[I", true)
  | 1 => ("ThousandLeaflets$Draw", "sum", "[I", true)
  | 2 => ("ThousandLeaflets$Draw", "sums", "I", false)
  | 3 => ("ThousandLeaflets$Draw", "firstBelow", "I", false)
  | 4 => ("ThousandLeaflets$Draw", "firstWeight", "I", false)
  | _ => ("ThousandLeaflets$Draw", "seal", "I", false)
def tyX3 : Nat → FieldType := fun k => match k with
  | 0 => .array .int
  | 1 => .array .int
  | 2 => .int
  | 3 => .int
  | 4 => .int
  | _ => .int
theorem nmX3 : ∀ a, a < 6 → ∀ b, b < 6 → a ≠ b → (TX3 a).2.1 ≠ (TX3 b).2.1 := by decide +kernel
theorem tyX3_ok : ∀ k, k < 6 → parseFieldDescriptor (TX3 k).2.2.1 = some (tyX3 k) := by decide +kernel
abbrev cX3_init : ByteArray := prog_5_method_1_code
def yX3_init : MethodName := ⟨RX3, "<init>", "()V"⟩
abbrev cX3_clear : ByteArray := prog_5_method_2_code
def yX3_clear : MethodName := ⟨RX3, "clear", "()V"⟩
abbrev cX3_copy : ByteArray := prog_5_method_3_code
def yX3_copy : MethodName := ⟨RX3, "copy", "(LThousandLeaflets$Draw;)V"⟩
abbrev cX3_oddsOf : ByteArray := prog_5_method_4_code
def yX3_oddsOf : MethodName := ⟨RX3, "oddsOf", "(I)I"⟩
def RX4 : String := "ThousandLeaflets$DrawReader"
def TX4 : u_T := fun k => match k with
  | 0 => ("ThousandLeaflets$DrawReader", "tape", "LThousandLeaflets$Tape;", true)
  | _ => ("ThousandLeaflets$DrawReader", "draft", "LThousandLeaflets$Draw;", true)
def tyX4 : Nat → FieldType := fun k => match k with
  | 0 => .object "ThousandLeaflets$Tape"
  | _ => .object "ThousandLeaflets$Draw"
theorem nmX4 : ∀ a, a < 2 → ∀ b, b < 2 → a ≠ b → (TX4 a).2.1 ≠ (TX4 b).2.1 := by decide +kernel
theorem tyX4_ok : ∀ k, k < 2 → parseFieldDescriptor (TX4 k).2.2.1 = some (tyX4 k) := by decide +kernel
abbrev cX4_init : ByteArray := prog_6_method_1_code
def yX4_init : MethodName := ⟨RX4, "<init>", "()V"⟩
abbrev cX4_faultFor : ByteArray := prog_6_method_2_code
def yX4_faultFor : MethodName := ⟨RX4, "faultFor", "(I)I"⟩
abbrev cX4_statementFault : ByteArray := prog_6_method_3_code
def yX4_statementFault : MethodName := ⟨RX4, "statementFault", "(I)I"⟩
abbrev cX4_oddsFault : ByteArray := prog_6_method_4_code
def yX4_oddsFault : MethodName := ⟨RX4, "oddsFault", "()I"⟩
abbrev cX4_firstFault : ByteArray := prog_6_method_5_code
def yX4_firstFault : MethodName := ⟨RX4, "firstFault", "()I"⟩
abbrev cX4_sealFault : ByteArray := prog_6_method_6_code
def yX4_sealFault : MethodName := ⟨RX4, "sealFault", "()I"⟩
abbrev cX4_sumFault : ByteArray := prog_6_method_7_code
def yX4_sumFault : MethodName := ⟨RX4, "sumFault", "(I)I"⟩
abbrev cX4_numberFault : ByteArray := prog_6_method_8_code
def yX4_numberFault : MethodName := ⟨RX4, "numberFault", "(II)I"⟩
abbrev cX4_endFault : ByteArray := prog_6_method_9_code
def yX4_endFault : MethodName := ⟨RX4, "endFault", "()I"⟩
abbrev cX4_wrong : ByteArray := prog_6_method_10_code
def yX4_wrong : MethodName := ⟨RX4, "wrong", "(I)I"⟩
def RX5 : String := "ThousandLeaflets$Equations"
def TX5 : u_T := fun k => match k with
  | 0 => ("ThousandLeaflets$Equations", "row", "[I", true)
  | 1 => ("ThousandLeaflets$Equations", "place", "[I", true)
  | 2 => ("ThousandLeaflets$Equations", "read", "[I", true)
  | 3 => ("ThousandLeaflets$Equations", "touched", "[J", true)
  | 4 => ("ThousandLeaflets$Equations", "size", "I", false)
  | _ => ("ThousandLeaflets$Equations", "hidden", "I", false)
def tyX5 : Nat → FieldType := fun k => match k with
  | 0 => .array .int
  | 1 => .array .int
  | 2 => .array .int
  | 3 => .array .long
  | 4 => .int
  | _ => .int
theorem nmX5 : ∀ a, a < 6 → ∀ b, b < 6 → a ≠ b → (TX5 a).2.1 ≠ (TX5 b).2.1 := by decide +kernel
theorem tyX5_ok : ∀ k, k < 6 → parseFieldDescriptor (TX5 k).2.2.1 = some (tyX5 k) := by decide +kernel
abbrev cX5_init : ByteArray := prog_7_method_1_code
def yX5_init : MethodName := ⟨RX5, "<init>", "()V"⟩
abbrev cX5_startWith : ByteArray := prog_7_method_2_code
def yX5_startWith : MethodName := ⟨RX5, "startWith", "(LThousandLeaflets$Book;)V"⟩
abbrev cX5_add : ByteArray := prog_7_method_3_code
def yX5_add : MethodName := ⟨RX5, "add", "(II)V"⟩
abbrev cX5_cut : ByteArray := prog_7_method_4_code
def yX5_cut : MethodName := ⟨RX5, "cut", "(I)V"⟩
abbrev cX5_unknownOf : ByteArray := prog_7_method_5_code
def yX5_unknownOf : MethodName := ⟨RX5, "unknownOf", "(II)I"⟩
abbrev cX5_spread : ByteArray := prog_7_method_6_code
def yX5_spread : MethodName := ⟨RX5, "spread", "(I)I"⟩
abbrev cX5_peel : ByteArray := prog_7_method_7_code
def yX5_peel : MethodName := ⟨RX5, "peel", "()I"⟩
abbrev cX5_firstWithOneUnknown : ByteArray := prog_7_method_8_code
def yX5_firstWithOneUnknown : MethodName := ⟨RX5, "firstWithOneUnknown", "(I)I"⟩
abbrev cX5_restOf : ByteArray := prog_7_method_9_code
def yX5_restOf : MethodName := ⟨RX5, "restOf", "(II)I"⟩
abbrev cX5_quarrels : ByteArray := prog_7_method_10_code
def yX5_quarrels : MethodName := ⟨RX5, "quarrels", "(I)I"⟩
abbrev cX5_work : ByteArray := prog_7_method_11_code
def yX5_work : MethodName := ⟨RX5, "work", "(I)I"⟩
abbrev cX5_left : ByteArray := prog_7_method_12_code
def yX5_left : MethodName := ⟨RX5, "left", "(I)I"⟩
abbrev cX5_fewestGuarding : ByteArray := prog_7_method_13_code
def yX5_fewestGuarding : MethodName := ⟨RX5, "fewestGuarding", "(LThousandLeaflets$Book;I)I"⟩
abbrev cX5_touchPapers : ByteArray := prog_7_method_14_code
def yX5_touchPapers : MethodName := ⟨RX5, "touchPapers", "(LThousandLeaflets$Book;)V"⟩
abbrev cX5_fewestTouched : ByteArray := prog_7_method_15_code
def yX5_fewestTouched : MethodName := ⟨RX5, "fewestTouched", "(JI)I"⟩
def RX6 : String := "ThousandLeaflets$Heap"
def TX6 : u_T := fun k => match k with
  | 0 => ("ThousandLeaflets$Heap", "papers", "[LThousandLeaflets$Paper;", true)
  | _ => ("ThousandLeaflets$Heap", "size", "I", false)
def tyX6 : Nat → FieldType := fun k => match k with
  | 0 => .array (.object "ThousandLeaflets$Paper")
  | _ => .int
theorem nmX6 : ∀ a, a < 2 → ∀ b, b < 2 → a ≠ b → (TX6 a).2.1 ≠ (TX6 b).2.1 := by decide +kernel
theorem tyX6_ok : ∀ k, k < 2 → parseFieldDescriptor (TX6 k).2.2.1 = some (tyX6 k) := by decide +kernel
abbrev cX6_init : ByteArray := prog_8_method_1_code
def yX6_init : MethodName := ⟨RX6, "<init>", "()V"⟩
abbrev cX6_at : ByteArray := prog_8_method_2_code
def yX6_at : MethodName := ⟨RX6, "at", "(I)LThousandLeaflets$Paper;"⟩
abbrev cX6_put : ByteArray := prog_8_method_3_code
def yX6_put : MethodName := ⟨RX6, "put", "(LThousandLeaflets$Paper;)I"⟩
abbrev cX6_unnamed : ByteArray := prog_8_method_4_code
def yX6_unnamed : MethodName := ⟨RX6, "unnamed", "()I"⟩
abbrev cX6_hasAlike : ByteArray := prog_8_method_5_code
def yX6_hasAlike : MethodName := ⟨RX6, "hasAlike", "(LThousandLeaflets$Paper;)Z"⟩
abbrev cX6_touches : ByteArray := prog_8_method_6_code
def yX6_touches : MethodName := ⟨RX6, "touches", "(I)Z"⟩
abbrev cX6_isTouching : ByteArray := prog_8_method_7_code
def yX6_isTouching : MethodName := ⟨RX6, "isTouching", "(LThousandLeaflets$Paper;I)Z"⟩
abbrev cX6_drop : ByteArray := prog_8_method_8_code
def yX6_drop : MethodName := ⟨RX6, "drop", "(I)V"⟩
abbrev cX6_dropTouching : ByteArray := prog_8_method_9_code
def yX6_dropTouching : MethodName := ⟨RX6, "dropTouching", "(I)V"⟩
abbrev cX6_copy : ByteArray := prog_8_method_10_code
def yX6_copy : MethodName := ⟨RX6, "copy", "(LThousandLeaflets$Heap;)V"⟩
def RX7 : String := "ThousandLeaflets$Paper"
def TX7 : u_T := fun k => match k with
  | 0 => ("ThousandLeaflets$Paper", "book", "I", true)
  | 1 => ("ThousandLeaflets$Paper", "number", "I", true)
  | 2 => ("ThousandLeaflets$Paper", "sum", "I", true)
  | 3 => ("ThousandLeaflets$Paper", "bytes", "I", true)
  | 4 => ("ThousandLeaflets$Paper", "seal", "I", true)
  | 5 => ("ThousandLeaflets$Paper", "pages0", "I", true)
  | _ => ("ThousandLeaflets$Paper", "pages1", "I", true)
def tyX7 : Nat → FieldType := fun k => match k with
  | 0 => .int
  | 1 => .int
  | 2 => .int
  | 3 => .int
  | 4 => .int
  | 5 => .int
  | _ => .int
theorem nmX7 : ∀ a, a < 7 → ∀ b, b < 7 → a ≠ b → (TX7 a).2.1 ≠ (TX7 b).2.1 := by decide +kernel
theorem tyX7_ok : ∀ k, k < 7 → parseFieldDescriptor (TX7 k).2.2.1 = some (tyX7 k) := by decide +kernel
abbrev cX7_init : ByteArray := prog_9_method_1_code
def yX7_init : MethodName := ⟨RX7, "<init>", "(IIIIIII)V"⟩
abbrev cX7_pagesBy : ByteArray := prog_9_method_2_code
def yX7_pagesBy : MethodName := ⟨RX7, "pagesBy", "(I)I"⟩
abbrev cX7_hasOctet : ByteArray := prog_9_method_3_code
def yX7_hasOctet : MethodName := ⟨RX7, "hasOctet", "(I)Z"⟩
abbrev cX7_equation : ByteArray := prog_9_method_4_code
def yX7_equation : MethodName := ⟨RX7, "equation", "(II)I"⟩
abbrev cX7_isAlike : ByteArray := prog_9_method_5_code
def yX7_isAlike : MethodName := ⟨RX7, "isAlike", "(LThousandLeaflets$Paper;)Z"⟩
def RX8 : String := "ThousandLeaflets$Sets"
def TX8 : u_T := fun k => match k with
  | 0 => ("ThousandLeaflets$Sets", "giving", "[I", true)
  | 1 => ("ThousandLeaflets$Sets", "leaflets", "[I", true)
  | 2 => ("ThousandLeaflets$Sets", "chosen", "LThousandLeaflets$Equations;", true)
  | 3 => ("ThousandLeaflets$Sets", "basis", "LThousandLeaflets$Basis;", true)
  | 4 => ("ThousandLeaflets$Sets", "m", "I", false)
  | 5 => ("ThousandLeaflets$Sets", "how", "I", false)
  | 6 => ("ThousandLeaflets$Sets", "all", "I", false)
  | _ => ("ThousandLeaflets$Sets", "allBits", "I", false)
def tyX8 : Nat → FieldType := fun k => match k with
  | 0 => .array .int
  | 1 => .array .int
  | 2 => .object "ThousandLeaflets$Equations"
  | 3 => .object "ThousandLeaflets$Basis"
  | 4 => .int
  | 5 => .int
  | 6 => .int
  | _ => .int
theorem nmX8 : ∀ a, a < 8 → ∀ b, b < 8 → a ≠ b → (TX8 a).2.1 ≠ (TX8 b).2.1 := by decide +kernel
theorem tyX8_ok : ∀ k, k < 8 → parseFieldDescriptor (TX8 k).2.2.1 = some (tyX8 k) := by decide +kernel
abbrev cX8_init : ByteArray := prog_10_method_1_code
def yX8_init : MethodName := ⟨RX8, "<init>", "()V"⟩
abbrev cX8_tally : ByteArray := prog_10_method_2_code
def yX8_tally : MethodName := ⟨RX8, "tally", "(LThousandLeaflets$Book;III)V"⟩
abbrev cX8_walk : ByteArray := prog_10_method_3_code
def yX8_walk : MethodName := ⟨RX8, "walk", "(III)V"⟩
abbrev cX8_addAllWith : ByteArray := prog_10_method_4_code
def yX8_addAllWith : MethodName := ⟨RX8, "addAllWith", "(II)V"⟩
def RX9 : String := "ThousandLeaflets$Tape"
def TX9 : u_T := fun k => match k with
  | 0 => ("ThousandLeaflets$Tape", "sign", "[I", true)
  | 1 => ("ThousandLeaflets$Tape", "length", "I", false)
  | 2 => ("ThousandLeaflets$Tape", "kind", "I", false)
  | 3 => ("ThousandLeaflets$Tape", "start", "I", false)
  | 4 => ("ThousandLeaflets$Tape", "past", "I", false)
  | _ => ("ThousandLeaflets$Tape", "number", "I", false)
def tyX9 : Nat → FieldType := fun k => match k with
  | 0 => .array .int
  | 1 => .int
  | 2 => .int
  | 3 => .int
  | 4 => .int
  | _ => .int
theorem nmX9 : ∀ a, a < 6 → ∀ b, b < 6 → a ≠ b → (TX9 a).2.1 ≠ (TX9 b).2.1 := by decide +kernel
theorem tyX9_ok : ∀ k, k < 6 → parseFieldDescriptor (TX9 k).2.2.1 = some (tyX9 k) := by decide +kernel
abbrev cX9_init : ByteArray := prog_11_method_1_code
def yX9_init : MethodName := ⟨RX9, "<init>", "()V"⟩
abbrev cX9_takeEight : ByteArray := prog_11_method_2_code
def yX9_takeEight : MethodName := ⟨RX9, "takeEight", "(J)V"⟩
abbrev cX9_rewind : ByteArray := prog_11_method_3_code
def yX9_rewind : MethodName := ⟨RX9, "rewind", "()V"⟩
abbrev cX9_next : ByteArray := prog_11_method_4_code
def yX9_next : MethodName := ⟨RX9, "next", "()V"⟩
abbrev cX9_takeRun : ByteArray := prog_11_method_5_code
def yX9_takeRun : MethodName := ⟨RX9, "takeRun", "(II)V"⟩
abbrev cX9_numberHere : ByteArray := prog_11_method_6_code
def yX9_numberHere : MethodName := ⟨RX9, "numberHere", "()I"⟩
abbrev cX9_isWord : ByteArray := prog_11_method_7_code
def yX9_isWord : MethodName := ⟨RX9, "isWord", "(Ljava/lang/String;)Z"⟩
def RX10 : String := "ThousandLeaflets$Ways"
def TX10 : u_T := fun k => match k with
  | 0 => ("ThousandLeaflets$Ways", "nameless", "[LThousandLeaflets$Paper;", true)
  | 1 => ("ThousandLeaflets$Ways", "places", "[I", true)
  | 2 => ("ThousandLeaflets$Ways", "bases", "[LThousandLeaflets$Basis;", true)
  | 3 => ("ThousandLeaflets$Ways", "size", "I", false)
  | 4 => ("ThousandLeaflets$Ways", "everOf0", "I", false)
  | _ => ("ThousandLeaflets$Ways", "everOf1", "I", false)
def tyX10 : Nat → FieldType := fun k => match k with
  | 0 => .array (.object "ThousandLeaflets$Paper")
  | 1 => .array .int
  | 2 => .array (.object "ThousandLeaflets$Basis")
  | 3 => .int
  | 4 => .int
  | _ => .int
theorem nmX10 : ∀ a, a < 6 → ∀ b, b < 6 → a ≠ b → (TX10 a).2.1 ≠ (TX10 b).2.1 := by decide +kernel
theorem tyX10_ok : ∀ k, k < 6 → parseFieldDescriptor (TX10 k).2.2.1 = some (tyX10 k) := by decide +kernel
abbrev cX10_init : ByteArray := prog_12_method_1_code
def yX10_init : MethodName := ⟨RX10, "<init>", "()V"⟩
abbrev cX10_basisOf : ByteArray := prog_12_method_2_code
def yX10_basisOf : MethodName := ⟨RX10, "basisOf", "(II)LThousandLeaflets$Basis;"⟩
abbrev cX10_findAll : ByteArray := prog_12_method_3_code
def yX10_findAll : MethodName := ⟨RX10, "findAll", "(LThousandLeaflets$Heap;)V"⟩
abbrev cX10_allAgree : ByteArray := prog_12_method_4_code
def yX10_allAgree : MethodName := ⟨RX10, "allAgree", "()Z"⟩
abbrev cX10_give : ByteArray := prog_12_method_5_code
def yX10_give : MethodName := ⟨RX10, "give", "(II)V"⟩
abbrev cX10_tryBook : ByteArray := prog_12_method_6_code
def yX10_tryBook : MethodName := ⟨RX10, "tryBook", "(IILThousandLeaflets$Paper;I)V"⟩
abbrev cX10_bookAt : ByteArray := prog_12_method_7_code
def yX10_bookAt : MethodName := ⟨RX10, "bookAt", "(I)I"⟩
def RX11 : String := "ThousandLeaflets"
def TX11 : u_T := fun k => match k with
  | 0 => ("ThousandLeaflets", "books", "[LThousandLeaflets$Book;", true)
  | 1 => ("ThousandLeaflets", "heaps", "[LThousandLeaflets$Heap;", true)
  | 2 => ("ThousandLeaflets", "kept", "[LThousandLeaflets$Heap;", true)
  | 3 => ("ThousandLeaflets", "marked", "[Z", true)
  | 4 => ("ThousandLeaflets", "burns", "[I", true)
  | 5 => ("ThousandLeaflets", "houses", "[I", true)
  | 6 => ("ThousandLeaflets", "needed", "[I", true)
  | 7 => ("ThousandLeaflets", "reader", "LThousandLeaflets$DrawReader;", true)
  | 8 => ("ThousandLeaflets", "equations", "[LThousandLeaflets$Equations;", true)
  | 9 => ("ThousandLeaflets", "bases", "[LThousandLeaflets$Basis;", true)
  | 10 => ("ThousandLeaflets", "sets", "LThousandLeaflets$Sets;", true)
  | 11 => ("ThousandLeaflets", "coming", "LThousandLeaflets$Coming;", true)
  | 12 => ("ThousandLeaflets", "ways", "LThousandLeaflets$Ways;", true)
  | _ => ("ThousandLeaflets", "thrownOut", "I", false)
def tyX11 : Nat → FieldType := fun k => match k with
  | 0 => .array (.object "ThousandLeaflets$Book")
  | 1 => .array (.object "ThousandLeaflets$Heap")
  | 2 => .array (.object "ThousandLeaflets$Heap")
  | 3 => .array .boolean
  | 4 => .array .int
  | 5 => .array .int
  | 6 => .array .int
  | 7 => .object "ThousandLeaflets$DrawReader"
  | 8 => .array (.object "ThousandLeaflets$Equations")
  | 9 => .array (.object "ThousandLeaflets$Basis")
  | 10 => .object "ThousandLeaflets$Sets"
  | 11 => .object "ThousandLeaflets$Coming"
  | 12 => .object "ThousandLeaflets$Ways"
  | _ => .int
theorem nmX11 : ∀ a, a < 14 → ∀ b, b < 14 → a ≠ b → (TX11 a).2.1 ≠ (TX11 b).2.1 := by decide +kernel
theorem tyX11_ok : ∀ k, k < 14 → parseFieldDescriptor (TX11 k).2.2.1 = some (tyX11 k) := by decide +kernel
abbrev cX11_init : ByteArray := prog_1_method_1_code
def yX11_init : MethodName := ⟨RX11, "<init>", "()V"⟩
abbrev cX11_book : ByteArray := prog_1_method_2_code
def yX11_book : MethodName := ⟨RX11, "book", "(II)Z"⟩
abbrev cX11_page : ByteArray := prog_1_method_3_code
def yX11_page : MethodName := ⟨RX11, "page", "(III)Z"⟩
abbrev cX11_feed : ByteArray := prog_1_method_4_code
def yX11_feed : MethodName := ⟨RX11, "feed", "(JJJ)I"⟩
abbrev cX11_draw : ByteArray := prog_1_method_5_code
def yX11_draw : MethodName := ⟨RX11, "draw", "(I)I"⟩
abbrev cX11_leaflet : ByteArray := prog_1_method_6_code
def yX11_leaflet : MethodName := ⟨RX11, "leaflet", "(III)I"⟩
abbrev cX11_told : ByteArray := prog_1_method_7_code
def yX11_told : MethodName := ⟨RX11, "told", "(II)I"⟩
abbrev cX11_comes : ByteArray := prog_1_method_8_code
def yX11_comes : MethodName := ⟨RX11, "comes", "(IIII)I"⟩
abbrev cX11_slip : ByteArray := prog_1_method_9_code
def yX11_slip : MethodName := ⟨RX11, "slip", "(IIII)I"⟩
abbrev cX11_forged : ByteArray := prog_1_method_10_code
def yX11_forged : MethodName := ⟨RX11, "forged", "(IIIII)I"⟩
abbrev cX11_nameless : ByteArray := prog_1_method_11_code
def yX11_nameless : MethodName := ⟨RX11, "nameless", "(III)I"⟩
abbrev cX11_paper : ByteArray := prog_1_method_12_code
def yX11_paper : MethodName := ⟨RX11, "paper", "(III)I"⟩
abbrev cX11_away : ByteArray := prog_1_method_13_code
def yX11_away : MethodName := ⟨RX11, "away", "(II)Z"⟩
abbrev cX11_peels : ByteArray := prog_1_method_14_code
def yX11_peels : MethodName := ⟨RX11, "peels", "(IIII)I"⟩
abbrev cX11_solves : ByteArray := prog_1_method_15_code
def yX11_solves : MethodName := ⟨RX11, "solves", "(IIII)I"⟩
abbrev cX11_read : ByteArray := prog_1_method_16_code
def yX11_read : MethodName := ⟨RX11, "read", "(IIII)I"⟩
abbrev cX11_soon : ByteArray := prog_1_method_17_code
def yX11_soon : MethodName := ⟨RX11, "soon", "(IIII)I"⟩
abbrev cX11_slipped : ByteArray := prog_1_method_18_code
def yX11_slipped : MethodName := ⟨RX11, "slipped", "(IIII)I"⟩
abbrev cX11_right : ByteArray := prog_1_method_19_code
def yX11_right : MethodName := ⟨RX11, "right", "(IIII)I"⟩
abbrev cX11_doubles : ByteArray := prog_1_method_20_code
def yX11_doubles : MethodName := ⟨RX11, "doubles", "(III)I"⟩
abbrev cX11_guard : ByteArray := prog_1_method_21_code
def yX11_guard : MethodName := ⟨RX11, "guard", "(IIII)I"⟩
abbrev cX11_tocome : ByteArray := prog_1_method_22_code
def yX11_tocome : MethodName := ⟨RX11, "tocome", "(III)I"⟩
abbrev cX11_chances : ByteArray := prog_1_method_23_code
def yX11_chances : MethodName := ⟨RX11, "chances", "(IIII)I"⟩
abbrev cX11_enough : ByteArray := prog_1_method_24_code
def yX11_enough : MethodName := ⟨RX11, "enough", "(IIIZ)I"⟩
abbrev cX11_average : ByteArray := prog_1_method_25_code
def yX11_average : MethodName := ⟨RX11, "average", "(IIII)J"⟩
abbrev cX11_degree : ByteArray := prog_1_method_26_code
def yX11_degree : MethodName := ⟨RX11, "degree", "(IIII)I"⟩
abbrev cX11_apart : ByteArray := prog_1_method_27_code
def yX11_apart : MethodName := ⟨RX11, "apart", "(II)I"⟩
abbrev cX11_quarter : ByteArray := prog_1_method_28_code
def yX11_quarter : MethodName := ⟨RX11, "quarter", "(III)Z"⟩
abbrev cX11_scatter : ByteArray := prog_1_method_29_code
def yX11_scatter : MethodName := ⟨RX11, "scatter", "(III)I"⟩
abbrev cX11_needs : ByteArray := prog_1_method_30_code
def yX11_needs : MethodName := ⟨RX11, "needs", "(II)I"⟩
abbrev cX11_town : ByteArray := prog_1_method_31_code
def yX11_town : MethodName := ⟨RX11, "town", "(II)I"⟩
abbrev cX11_swap : ByteArray := prog_1_method_32_code
def yX11_swap : MethodName := ⟨RX11, "swap", "(III)I"⟩
abbrev cX11_mark : ByteArray := prog_1_method_33_code
def yX11_mark : MethodName := ⟨RX11, "mark", "(IZ)Z"⟩
abbrev cX11_count : ByteArray := prog_1_method_34_code
def yX11_count : MethodName := ⟨RX11, "count", "(I)I"⟩
abbrev cX11_isBook : ByteArray := prog_1_method_35_code
def yX11_isBook : MethodName := ⟨RX11, "isBook", "(I)Z"⟩
abbrev cX11_isQuarter : ByteArray := prog_1_method_36_code
def yX11_isQuarter : MethodName := ⟨RX11, "isQuarter", "(I)Z"⟩
abbrev cX11_isOctet : ByteArray := prog_1_method_37_code
def yX11_isOctet : MethodName := ⟨RX11, "isOctet", "(I)Z"⟩
abbrev cX11_isNumber : ByteArray := prog_1_method_38_code
def yX11_isNumber : MethodName := ⟨RX11, "isNumber", "(I)Z"⟩
abbrev cX11_isHow : ByteArray := prog_1_method_39_code
def yX11_isHow : MethodName := ⟨RX11, "isHow", "(I)Z"⟩
abbrev cX11_isSetSize : ByteArray := prog_1_method_40_code
def yX11_isSetSize : MethodName := ⟨RX11, "isSetSize", "(II)Z"⟩
abbrev cX11_isTold : ByteArray := prog_1_method_41_code
def yX11_isTold : MethodName := ⟨RX11, "isTold", "(I)Z"⟩
abbrev cX11_isLeaflet : ByteArray := prog_1_method_42_code
def yX11_isLeaflet : MethodName := ⟨RX11, "isLeaflet", "(II)Z"⟩
abbrev cX11_isPageOf : ByteArray := prog_1_method_43_code
def yX11_isPageOf : MethodName := ⟨RX11, "isPageOf", "(II)Z"⟩
abbrev cX11_isTouched : ByteArray := prog_1_method_44_code
def yX11_isTouched : MethodName := ⟨RX11, "isTouched", "(I)Z"⟩
abbrev cX11_paperAt : ByteArray := prog_1_method_45_code
def yX11_paperAt : MethodName := ⟨RX11, "paperAt", "(II)LThousandLeaflets$Paper;"⟩
abbrev cX11_send : ByteArray := prog_1_method_46_code
def yX11_send : MethodName := ⟨RX11, "send", "(ILThousandLeaflets$Book;III)I"⟩
abbrev cX11_forgetMarks : ByteArray := prog_1_method_47_code
def yX11_forgetMarks : MethodName := ⟨RX11, "forgetMarks", "()V"⟩
abbrev cX11_unknownPages : ByteArray := prog_1_method_48_code
def yX11_unknownPages : MethodName := ⟨RX11, "unknownPages", "(ILThousandLeaflets$Paper;)I"⟩
abbrev cX11_gather : ByteArray := prog_1_method_49_code
def yX11_gather : MethodName := ⟨RX11, "gather", "(III)LThousandLeaflets$Equations;"⟩
abbrev cX11_readOctet : ByteArray := prog_1_method_50_code
def yX11_readOctet : MethodName := ⟨RX11, "readOctet", "(IIIII)I"⟩
abbrev cX11_soonPeeled : ByteArray := prog_1_method_51_code
def yX11_soonPeeled : MethodName := ⟨RX11, "soonPeeled", "(III)I"⟩
abbrev cX11_spreadWith : ByteArray := prog_1_method_52_code
def yX11_spreadWith : MethodName := ⟨RX11, "spreadWith", "(LThousandLeaflets$Paper;III)I"⟩
abbrev cX11_soonSolved : ByteArray := prog_1_method_53_code
def yX11_soonSolved : MethodName := ⟨RX11, "soonSolved", "(III)I"⟩
abbrev cX11_falls : ByteArray := prog_1_method_54_code
def yX11_falls : MethodName := ⟨RX11, "falls", "(LThousandLeaflets$Book;II)Z"⟩
abbrev cX11_isRoomAnywhere : ByteArray := prog_1_method_55_code
def yX11_isRoomAnywhere : MethodName := ⟨RX11, "isRoomAnywhere", "()Z"⟩
abbrev cX11_throwOne : ByteArray := prog_1_method_56_code
def yX11_throwOne : MethodName := ⟨RX11, "throwOne", "(LThousandLeaflets$Book;I)I"⟩
abbrev cX11_neededIn : ByteArray := prog_1_method_57_code
def yX11_neededIn : MethodName := ⟨RX11, "neededIn", "(ILThousandLeaflets$Book;)I"⟩
abbrev cX11_allHouses : ByteArray := prog_1_method_58_code
def yX11_allHouses : MethodName := ⟨RX11, "allHouses", "()I"⟩
abbrev cX11_housesServed : ByteArray := prog_1_method_59_code
def yX11_housesServed : MethodName := ⟨RX11, "housesServed", "(I)I"⟩
abbrev cX11_choose : ByteArray := prog_1_method_60_code
def yX11_choose : MethodName := ⟨RX11, "choose", "(II)I"⟩
abbrev cX11_commonDivisor : ByteArray := prog_1_method_61_code
def yX11_commonDivisor : MethodName := ⟨RX11, "commonDivisor", "(JJ)J"⟩
abbrev cX11_lowestPlace : ByteArray := prog_1_method_62_code
def yX11_lowestPlace : MethodName := ⟨RX11, "lowestPlace", "(I)I"⟩
def RX12 : String := "ThousandLeafletsModel"
def TX12 : u_T := fun k => match k with
  | 0 => ("ThousandLeafletsModel", "thrown", "I", false)
  | 1 => ("ThousandLeafletsModel", "tape", "[I", true)
  | 2 => ("ThousandLeafletsModel", "taped", "I", false)
  | 3 => ("ThousandLeafletsModel", "size", "I", false)
  | 4 => ("ThousandLeafletsModel", "sort", "[I", true)
  | 5 => ("ThousandLeafletsModel", "place", "[I", true)
  | 6 => ("ThousandLeafletsModel", "value", "[J", true)
  | 7 => ("ThousandLeafletsModel", "at", "I", false)
  | 8 => ("ThousandLeafletsModel", "fault", "I", false)
  | 9 => ("ThousandLeafletsModel", "words", "[J", true)
  | 10 => ("ThousandLeafletsModel", "pages", "[I", true)
  | 11 => ("ThousandLeafletsModel", "page", "[I", true)
  | 12 => ("ThousandLeafletsModel", "odds", "[I", true)
  | 13 => ("ThousandLeafletsModel", "firstBelow", "[I", true)
  | 14 => ("ThousandLeafletsModel", "firstWeight", "[I", true)
  | 15 => ("ThousandLeafletsModel", "sums", "[I", true)
  | 16 => ("ThousandLeafletsModel", "sumSet", "[I", true)
  | 17 => ("ThousandLeafletsModel", "sealBy", "[I", true)
  | 18 => ("ThousandLeafletsModel", "readPages", "I", false)
  | 19 => ("ThousandLeafletsModel", "seed", "J", false)
  | 20 => ("ThousandLeafletsModel", "sizes", "[I", true)
  | 21 => ("ThousandLeafletsModel", "numberOf", "[I", true)
  | 22 => ("ThousandLeafletsModel", "bookOf", "[I", true)
  | 23 => ("ThousandLeafletsModel", "sumOn", "[I", true)
  | 24 => ("ThousandLeafletsModel", "bytesOn", "[I", true)
  | 25 => ("ThousandLeafletsModel", "sealOn", "[I", true)
  | 26 => ("ThousandLeafletsModel", "isMarked", "[Z", true)
  | 27 => ("ThousandLeafletsModel", "thrownOut", "I", false)
  | 28 => ("ThousandLeafletsModel", "equations", "I", false)
  | 29 => ("ThousandLeafletsModel", "sets", "[I", true)
  | 30 => ("ThousandLeafletsModel", "bytes", "[I", true)
  | 31 => ("ThousandLeafletsModel", "fromPlace", "[I", true)
  | 32 => ("ThousandLeafletsModel", "isLeft", "[Z", true)
  | 33 => ("ThousandLeafletsModel", "peeled", "I", false)
  | 34 => ("ThousandLeafletsModel", "byteBy", "[I", true)
  | 35 => ("ThousandLeafletsModel", "rank", "I", false)
  | 36 => ("ThousandLeafletsModel", "doAgree", "Z", false)
  | 37 => ("ThousandLeafletsModel", "leadSet", "[I", true)
  | 38 => ("ThousandLeafletsModel", "leadByte", "[I", true)
  | 39 => ("ThousandLeafletsModel", "slippedMany", "I", false)
  | 40 => ("ThousandLeafletsModel", "slippedAt", "[I", true)
  | 41 => ("ThousandLeafletsModel", "withoutSets", "[I", true)
  | 42 => ("ThousandLeafletsModel", "withoutBytes", "[I", true)
  | 43 => ("ThousandLeafletsModel", "sixty", "[I", true)
  | 44 => ("ThousandLeafletsModel", "oddsKept", "[I", true)
  | 45 => ("ThousandLeafletsModel", "burn", "[I", true)
  | 46 => ("ThousandLeafletsModel", "houses", "[I", true)
  | _ => ("ThousandLeafletsModel", "need", "[I", true)
def tyX12 : Nat → FieldType := fun k => match k with
  | 0 => .int
  | 1 => .array .int
  | 2 => .int
  | 3 => .int
  | 4 => .array .int
  | 5 => .array .int
  | 6 => .array .long
  | 7 => .int
  | 8 => .int
  | 9 => .array .long
  | 10 => .array .int
  | 11 => .array .int
  | 12 => .array .int
  | 13 => .array .int
  | 14 => .array .int
  | 15 => .array .int
  | 16 => .array .int
  | 17 => .array .int
  | 18 => .int
  | 19 => .long
  | 20 => .array .int
  | 21 => .array .int
  | 22 => .array .int
  | 23 => .array .int
  | 24 => .array .int
  | 25 => .array .int
  | 26 => .array .boolean
  | 27 => .int
  | 28 => .int
  | 29 => .array .int
  | 30 => .array .int
  | 31 => .array .int
  | 32 => .array .boolean
  | 33 => .int
  | 34 => .array .int
  | 35 => .int
  | 36 => .boolean
  | 37 => .array .int
  | 38 => .array .int
  | 39 => .int
  | 40 => .array .int
  | 41 => .array .int
  | 42 => .array .int
  | 43 => .array .int
  | 44 => .array .int
  | 45 => .array .int
  | 46 => .array .int
  | _ => .array .int
theorem nmX12 : ∀ a, a < 48 → ∀ b, b < 48 → a ≠ b → (TX12 a).2.1 ≠ (TX12 b).2.1 := by decide +kernel
theorem tyX12_ok : ∀ k, k < 48 → parseFieldDescriptor (TX12 k).2.2.1 = some (tyX12 k) := by decide +kernel
abbrev cX12_feed : ByteArray := prog_14_method_2_code
def yX12_feed : MethodName := ⟨RX12, "feed", "(JJJ)I"⟩
abbrev cX12_lay : ByteArray := prog_14_method_3_code
def yX12_lay : MethodName := ⟨RX12, "lay", "(J)V"⟩
abbrev cX12_init : ByteArray := prog_14_method_4_code
def yX12_init : MethodName := ⟨RX12, "<init>", "()V"⟩
abbrev cX12_isLetter : ByteArray := prog_14_method_5_code
def yX12_isLetter : MethodName := ⟨RX12, "isLetter", "(I)Z"⟩
abbrev cX12_isDigit : ByteArray := prog_14_method_6_code
def yX12_isDigit : MethodName := ⟨RX12, "isDigit", "(I)Z"⟩
abbrev cX12_rank : ByteArray := prog_14_method_7_code
def yX12_rank : MethodName := ⟨RX12, "rank", "(I)I"⟩
abbrev cX12_isSignOf : ByteArray := prog_14_method_8_code
def yX12_isSignOf : MethodName := ⟨RX12, "isSignOf", "(I)Z"⟩
abbrev cX12_cutAll : ByteArray := prog_14_method_9_code
def yX12_cutAll : MethodName := ⟨RX12, "cutAll", "()V"⟩
abbrev cX12_wrong : ByteArray := prog_14_method_10_code
def yX12_wrong : MethodName := ⟨RX12, "wrong", "(I)V"⟩
abbrev cX12_isSign : ByteArray := prog_14_method_11_code
def yX12_isSign : MethodName := ⟨RX12, "isSign", "(I)Z"⟩
abbrev cX12_isWord : ByteArray := prog_14_method_12_code
def yX12_isWord : MethodName := ⟨RX12, "isWord", "(I)Z"⟩
abbrev cX12_takeSign : ByteArray := prog_14_method_13_code
def yX12_takeSign : MethodName := ⟨RX12, "takeSign", "(I)V"⟩
abbrev cX12_hasWord : ByteArray := prog_14_method_15_code
def yX12_hasWord : MethodName := ⟨RX12, "hasWord", "(I)Z"⟩
abbrev cX12_within : ByteArray := prog_14_method_17_code
def yX12_within : MethodName := ⟨RX12, "within", "(III)Z"⟩
abbrev cX12_isBook : ByteArray := prog_14_method_18_code
def yX12_isBook : MethodName := ⟨RX12, "isBook", "(I)Z"⟩
abbrev cX12_forgetsDraw : ByteArray := prog_14_method_19_code
def yX12_forgetsDraw : MethodName := ⟨RX12, "forgetsDraw", "(I)V"⟩
abbrev cX12_book : ByteArray := prog_14_method_20_code
def yX12_book : MethodName := ⟨RX12, "book", "(II)Z"⟩
abbrev cX12_isOut : ByteArray := prog_14_method_21_code
def yX12_isOut : MethodName := ⟨RX12, "isOut", "(I)Z"⟩
abbrev cX12_page : ByteArray := prog_14_method_22_code
def yX12_page : MethodName := ⟨RX12, "page", "(III)Z"⟩
abbrev cX12_takeNumber : ByteArray := prog_14_method_23_code
def yX12_takeNumber : MethodName := ⟨RX12, "takeNumber", "(II)I"⟩
abbrev cX12_draw : ByteArray := prog_14_method_24_code
def yX12_draw : MethodName := ⟨RX12, "draw", "(I)I"⟩
abbrev cX12_readLine : ByteArray := prog_14_method_25_code
def yX12_readLine : MethodName := ⟨RX12, "readLine", "()V"⟩
abbrev cX12_readOdds : ByteArray := prog_14_method_26_code
def yX12_readOdds : MethodName := ⟨RX12, "readOdds", "()V"⟩
abbrev cX12_readSum : ByteArray := prog_14_method_27_code
def yX12_readSum : MethodName := ⟨RX12, "readSum", "()V"⟩
abbrev cX12_allOf : ByteArray := prog_14_method_28_code
def yX12_allOf : MethodName := ⟨RX12, "allOf", "(I)I"⟩
abbrev cX12_valueOf : ByteArray := prog_14_method_29_code
def yX12_valueOf : MethodName := ⟨RX12, "valueOf", "(II)I"⟩
abbrev cX12_sumOf : ByteArray := prog_14_method_30_code
def yX12_sumOf : MethodName := ⟨RX12, "sumOf", "(II)I"⟩
abbrev cX12_drawn : ByteArray := prog_14_method_31_code
def yX12_drawn : MethodName := ⟨RX12, "drawn", "()I"⟩
abbrev cX12_oddsOf : ByteArray := prog_14_method_32_code
def yX12_oddsOf : MethodName := ⟨RX12, "oddsOf", "(II)I"⟩
abbrev cX12_howMany : ByteArray := prog_14_method_33_code
def yX12_howMany : MethodName := ⟨RX12, "howMany", "(I)I"⟩
abbrev cX12_weightOf : ByteArray := prog_14_method_34_code
def yX12_weightOf : MethodName := ⟨RX12, "weightOf", "(II)I"⟩
abbrev cX12_setOf : ByteArray := prog_14_method_35_code
def yX12_setOf : MethodName := ⟨RX12, "setOf", "(II)I"⟩
abbrev cX12_sealOf : ByteArray := prog_14_method_36_code
def yX12_sealOf : MethodName := ⟨RX12, "sealOf", "(III)I"⟩
abbrev cX12_isNumber : ByteArray := prog_14_method_37_code
def yX12_isNumber : MethodName := ⟨RX12, "isNumber", "(I)Z"⟩
abbrev cX12_bits : ByteArray := prog_14_method_38_code
def yX12_bits : MethodName := ⟨RX12, "bits", "(I)I"⟩
abbrev cX12_leaflet : ByteArray := prog_14_method_39_code
def yX12_leaflet : MethodName := ⟨RX12, "leaflet", "(III)I"⟩
abbrev cX12_told : ByteArray := prog_14_method_40_code
def yX12_told : MethodName := ⟨RX12, "told", "(II)I"⟩
abbrev cX12_isQuarter : ByteArray := prog_14_method_41_code
def yX12_isQuarter : MethodName := ⟨RX12, "isQuarter", "(I)Z"⟩
abbrev cX12_moves : ByteArray := prog_14_method_42_code
def yX12_moves : MethodName := ⟨RX12, "moves", "(II)V"⟩
abbrev cX12_takesOut : ByteArray := prog_14_method_43_code
def yX12_takesOut : MethodName := ⟨RX12, "takesOut", "(II)V"⟩
abbrev cX12_lays : ByteArray := prog_14_method_44_code
def yX12_lays : MethodName := ⟨RX12, "lays", "(IIIIII)I"⟩
abbrev cX12_cutTo : ByteArray := prog_14_method_45_code
def yX12_cutTo : MethodName := ⟨RX12, "cutTo", "(II)I"⟩
abbrev cX12_comes : ByteArray := prog_14_method_46_code
def yX12_comes : MethodName := ⟨RX12, "comes", "(IIII)I"⟩
abbrev cX12_laysIf : ByteArray := prog_14_method_47_code
def yX12_laysIf : MethodName := ⟨RX12, "laysIf", "(IIIII)I"⟩
abbrev cX12_slip : ByteArray := prog_14_method_48_code
def yX12_slip : MethodName := ⟨RX12, "slip", "(IIII)I"⟩
abbrev cX12_forged : ByteArray := prog_14_method_49_code
def yX12_forged : MethodName := ⟨RX12, "forged", "(IIIII)I"⟩
abbrev cX12_namelessIn : ByteArray := prog_14_method_50_code
def yX12_namelessIn : MethodName := ⟨RX12, "namelessIn", "(I)I"⟩
abbrev cX12_nameless : ByteArray := prog_14_method_51_code
def yX12_nameless : MethodName := ⟨RX12, "nameless", "(III)I"⟩
abbrev cX12_isPaper : ByteArray := prog_14_method_52_code
def yX12_isPaper : MethodName := ⟨RX12, "isPaper", "(II)Z"⟩
abbrev cX12_away : ByteArray := prog_14_method_53_code
def yX12_away : MethodName := ⟨RX12, "away", "(II)Z"⟩
abbrev cX12_copies : ByteArray := prog_14_method_54_code
def yX12_copies : MethodName := ⟨RX12, "copies", "(II)V"⟩
abbrev cX12_forgetsMarks : ByteArray := prog_14_method_55_code
def yX12_forgetsMarks : MethodName := ⟨RX12, "forgetsMarks", "()V"⟩
abbrev cX12_mark : ByteArray := prog_14_method_56_code
def yX12_mark : MethodName := ⟨RX12, "mark", "(IZ)Z"⟩
abbrev cX12_adds : ByteArray := prog_14_method_57_code
def yX12_adds : MethodName := ⟨RX12, "adds", "(III)V"⟩
abbrev cX12_begins : ByteArray := prog_14_method_58_code
def yX12_begins : MethodName := ⟨RX12, "begins", "(I)V"⟩
abbrev cX12_byteOf : ByteArray := prog_14_method_59_code
def yX12_byteOf : MethodName := ⟨RX12, "byteOf", "(II)I"⟩
abbrev cX12_gathers : ByteArray := prog_14_method_60_code
def yX12_gathers : MethodName := ⟨RX12, "gathers", "(IIII)V"⟩
abbrev cX12_leavesNone : ByteArray := prog_14_method_61_code
def yX12_leavesNone : MethodName := ⟨RX12, "leavesNone", "()V"⟩
abbrev cX12_findPeeled : ByteArray := prog_14_method_62_code
def yX12_findPeeled : MethodName := ⟨RX12, "findPeeled", "()V"⟩
abbrev cX12_comesTo : ByteArray := prog_14_method_63_code
def yX12_comesTo : MethodName := ⟨RX12, "comesTo", "(I)I"⟩
abbrev cX12_findSolved : ByteArray := prog_14_method_64_code
def yX12_findSolved : MethodName := ⟨RX12, "findSolved", "()V"⟩
abbrev cX12_isFixed : ByteArray := prog_14_method_65_code
def yX12_isFixed : MethodName := ⟨RX12, "isFixed", "(I)Z"⟩
abbrev cX12_fixedSet : ByteArray := prog_14_method_66_code
def yX12_fixedSet : MethodName := ⟨RX12, "fixedSet", "()I"⟩
abbrev cX12_isAsked : ByteArray := prog_14_method_67_code
def yX12_isAsked : MethodName := ⟨RX12, "isAsked", "(III)Z"⟩
abbrev cX12_peels : ByteArray := prog_14_method_68_code
def yX12_peels : MethodName := ⟨RX12, "peels", "(IIII)I"⟩
abbrev cX12_solves : ByteArray := prog_14_method_69_code
def yX12_solves : MethodName := ⟨RX12, "solves", "(IIII)I"⟩
abbrev cX12_readBy : ByteArray := prog_14_method_70_code
def yX12_readBy : MethodName := ⟨RX12, "readBy", "(IIIII)I"⟩
abbrev cX12_isPage : ByteArray := prog_14_method_71_code
def yX12_isPage : MethodName := ⟨RX12, "isPage", "(II)Z"⟩
abbrev cX12_read : ByteArray := prog_14_method_72_code
def yX12_read : MethodName := ⟨RX12, "read", "(IIII)I"⟩
abbrev cX12_soon : ByteArray := prog_14_method_73_code
def yX12_soon : MethodName := ⟨RX12, "soon", "(IIII)I"⟩
abbrev cX12_unknownOf : ByteArray := prog_14_method_74_code
def yX12_unknownOf : MethodName := ⟨RX12, "unknownOf", "(II)I"⟩
abbrev cX12_paper : ByteArray := prog_14_method_75_code
def yX12_paper : MethodName := ⟨RX12, "paper", "(III)I"⟩
abbrev cX12_findSlipped : ByteArray := prog_14_method_76_code
def yX12_findSlipped : MethodName := ⟨RX12, "findSlipped", "(III)Z"⟩
abbrev cX12_slipped : ByteArray := prog_14_method_77_code
def yX12_slipped : MethodName := ⟨RX12, "slipped", "(IIII)I"⟩
abbrev cX12_right : ByteArray := prog_14_method_78_code
def yX12_right : MethodName := ⟨RX12, "right", "(IIII)I"⟩
abbrev cX12_doubles : ByteArray := prog_14_method_79_code
def yX12_doubles : MethodName := ⟨RX12, "doubles", "(III)I"⟩
abbrev cX12_isFixedWithout : ByteArray := prog_14_method_80_code
def yX12_isFixedWithout : MethodName := ⟨RX12, "isFixedWithout", "(IIII)Z"⟩
abbrev cX12_guard : ByteArray := prog_14_method_81_code
def yX12_guard : MethodName := ⟨RX12, "guard", "(IIII)I"⟩
abbrev cX12_isAllWith : ByteArray := prog_14_method_82_code
def yX12_isAllWith : MethodName := ⟨RX12, "isAllWith", "(III)Z"⟩
abbrev cX12_givesAll : ByteArray := prog_14_method_83_code
def yX12_givesAll : MethodName := ⟨RX12, "givesAll", "(II)Z"⟩
abbrev cX12_tocome : ByteArray := prog_14_method_84_code
def yX12_tocome : MethodName := ⟨RX12, "tocome", "(III)I"⟩
abbrev cX12_chancesOf : ByteArray := prog_14_method_85_code
def yX12_chancesOf : MethodName := ⟨RX12, "chancesOf", "(IIII)I"⟩
abbrev cX12_keepsSets : ByteArray := prog_14_method_86_code
def yX12_keepsSets : MethodName := ⟨RX12, "keepsSets", "(II)V"⟩
abbrev cX12_areChances : ByteArray := prog_14_method_87_code
def yX12_areChances : MethodName := ⟨RX12, "areChances", "(III)Z"⟩
abbrev cX12_chances : ByteArray := prog_14_method_88_code
def yX12_chances : MethodName := ⟨RX12, "chances", "(IIII)I"⟩
abbrev cX12_choices : ByteArray := prog_14_method_89_code
def yX12_choices : MethodName := ⟨RX12, "choices", "(II)I"⟩
abbrev cX12_enough : ByteArray := prog_14_method_90_code
def yX12_enough : MethodName := ⟨RX12, "enough", "(IIIZ)I"⟩
abbrev cX12_common : ByteArray := prog_14_method_91_code
def yX12_common : MethodName := ⟨RX12, "common", "(JJ)J"⟩
abbrev cX12_average : ByteArray := prog_14_method_92_code
def yX12_average : MethodName := ⟨RX12, "average", "(IIII)J"⟩
abbrev cX12_degree : ByteArray := prog_14_method_93_code
def yX12_degree : MethodName := ⟨RX12, "degree", "(IIII)I"⟩
abbrev cX12_agreesBy : ByteArray := prog_14_method_94_code
def yX12_agreesBy : MethodName := ⟨RX12, "agreesBy", "(III)Z"⟩
abbrev cX12_apart : ByteArray := prog_14_method_95_code
def yX12_apart : MethodName := ⟨RX12, "apart", "(II)I"⟩
abbrev cX12_quarter : ByteArray := prog_14_method_96_code
def yX12_quarter : MethodName := ⟨RX12, "quarter", "(III)Z"⟩
abbrev cX12_falls : ByteArray := prog_14_method_97_code
def yX12_falls : MethodName := ⟨RX12, "falls", "(III)Z"⟩
abbrev cX12_isAlike : ByteArray := prog_14_method_98_code
def yX12_isAlike : MethodName := ⟨RX12, "isAlike", "(II)Z"⟩
abbrev cX12_hasAlike : ByteArray := prog_14_method_99_code
def yX12_hasAlike : MethodName := ⟨RX12, "hasAlike", "(II)Z"⟩
abbrev cX12_scatter : ByteArray := prog_14_method_100_code
def yX12_scatter : MethodName := ⟨RX12, "scatter", "(III)I"⟩
abbrev cX12_needsOf : ByteArray := prog_14_method_101_code
def yX12_needsOf : MethodName := ⟨RX12, "needsOf", "(II)I"⟩
abbrev cX12_needs : ByteArray := prog_14_method_102_code
def yX12_needs : MethodName := ⟨RX12, "needs", "(II)I"⟩
abbrev cX12_allHouses : ByteArray := prog_14_method_103_code
def yX12_allHouses : MethodName := ⟨RX12, "allHouses", "()I"⟩
abbrev cX12_town : ByteArray := prog_14_method_104_code
def yX12_town : MethodName := ⟨RX12, "town", "(II)I"⟩
abbrev cX12_swap : ByteArray := prog_14_method_105_code
def yX12_swap : MethodName := ⟨RX12, "swap", "(III)I"⟩
abbrev cX12_count : ByteArray := prog_14_method_106_code
def yX12_count : MethodName := ⟨RX12, "count", "(I)I"⟩
def RJ6 : String := "java/lang/Integer"
def TJ6 : u_T := fun k => match k with
  | _ => ("", "", "", false)
def tyJ6 : Nat → FieldType := fun k => match k with
  | _ => .int
abbrev cJ6_bitCount_0f7a4 : ByteArray := prog_16_method_49_code
def yJ6_bitCount_0f7a4 : MethodName := ⟨RJ6, "bitCount", "(I)I"⟩
def RJ13 : String := "java/lang/Long"
def TJ13 : u_T := fun k => match k with
  | _ => ("", "", "", false)
def tyJ13 : Nat → FieldType := fun k => match k with
  | _ => .int
abbrev cJ13_bitCount_95d88 : ByteArray := prog_17_method_50_code
def yJ13_bitCount_95d88 : MethodName := ⟨RJ13, "bitCount", "(J)I"⟩
def RJ9 : String := "java/lang/Math"
def TJ9 : u_T := fun k => match k with
  | _ => ("", "", "", false)
def tyJ9 : Nat → FieldType := fun k => match k with
  | _ => .int
abbrev cJ9_min_7cf53 : ByteArray := prog_18_method_69_code
def yJ9_min_7cf53 : MethodName := ⟨RJ9, "min", "(II)I"⟩
def RJ0 : String := "java/lang/String"
def TJ0 : u_T := fun k => match k with
  | _ => ("", "", "", false)
def tyJ0 : Nat → FieldType := fun k => match k with
  | _ => .int
abbrev cJ0_length_8abf5 : ByteArray := prog_20_method_54_code
def yJ0_length_8abf5 : MethodName := ⟨RJ0, "length", "()I"⟩
abbrev cJ0_charAt_5068e : ByteArray := prog_20_method_56_code
def yJ0_charAt_5068e : MethodName := ⟨RJ0, "charAt", "(I)C"⟩
abbrev cJ0_coder_7d493 : ByteArray := prog_20_method_152_code
def yJ0_coder_7d493 : MethodName := ⟨RJ0, "coder", "()B"⟩
abbrev cJ0_isLatin1_aae02 : ByteArray := prog_20_method_154_code
def yJ0_isLatin1_aae02 : MethodName := ⟨RJ0, "isLatin1", "()Z"⟩
abbrev cJ0_checkIndex_df160 : ByteArray := prog_20_method_155_code
def yJ0_checkIndex_df160 : MethodName := ⟨RJ0, "checkIndex", "(II)V"⟩
def RJ1 : String := "java/lang/StringLatin1"
def TJ1 : u_T := fun k => match k with
  | _ => ("", "", "", false)
def tyJ1 : Nat → FieldType := fun k => match k with
  | _ => .int
abbrev cJ1_charAt_3b067 : ByteArray := prog_21_method_2_code
def yJ1_charAt_3b067 : MethodName := ⟨RJ1, "charAt", "([BI)C"⟩
def RJ2 : String := "java/lang/StringUTF16"
def TJ2 : u_T := fun k => match k with
  | _ => ("", "", "", false)
def tyJ2 : Nat → FieldType := fun k => match k with
  | _ => .int
abbrev cJ2_getChar_3b067 : ByteArray := prog_22_method_5_code
def yJ2_getChar_3b067 : MethodName := ⟨RJ2, "getChar", "([BI)C"⟩
abbrev cJ2_length_9d52b : ByteArray := prog_22_method_6_code
def yJ2_length_9d52b : MethodName := ⟨RJ2, "length", "([B)I"⟩
abbrev cJ2_charAt_3b067 : ByteArray := prog_22_method_83_code
def yJ2_charAt_3b067 : MethodName := ⟨RJ2, "charAt", "([BI)C"⟩
abbrev cJ2_checkIndex_2214a : ByteArray := prog_22_method_91_code
def yJ2_checkIndex_2214a : MethodName := ⟨RJ2, "checkIndex", "(I[B)V"⟩
def RJ10 : String := "java/lang/System"
def TJ10 : u_T := fun k => match k with
  | _ => ("", "", "", false)
def tyJ10 : Nat → FieldType := fun k => match k with
  | _ => .int
def RJ3 : String := "jdk/internal/util/Preconditions"
def TJ3 : u_T := fun k => match k with
  | _ => ("", "", "", false)
def tyJ3 : Nat → FieldType := fun k => match k with
  | _ => .int
abbrev cJ3_checkIndex_8e157 : ByteArray := prog_26_method_11_code
def yJ3_checkIndex_8e157 : MethodName := ⟨RJ3, "checkIndex", "(IILjava/util/function/BiFunction;)I"⟩
def RL : String := "ThousandLeafletsLaw"
abbrev cL_paper : ByteArray := method_3_code
def yL_paper : MethodName := ⟨RL, "paper", "(LThousandLeaflets;III[J)I"⟩
abbrev cL_law : ByteArray := code
def yL_law : MethodName := ⟨RL, "law", "([I)Z"⟩
abbrev vwCl : List vw_C := [(RX0, TX0, 4), (RX1, TX1, 7), (RX2, TX2, 7), (RX3, TX3, 6), (RX4, TX4, 2), (RX5, TX5, 6), (RX6, TX6, 2), (RX7, TX7, 7), (RX8, TX8, 8), (RX9, TX9, 6), (RX10, TX10, 6), (RX11, TX11, 14), (RX12, TX12, 48)]
def ft : Nat → List Nat := fun c => match c with
  | 0 => [1, 1, 0, 3]
  | 1 => [0, 1, 1, 1, 3, 0, 0]
  | 2 => [1, 1, 1, 1, 0, 0, 0]
  | 3 => [1, 1, 0, 0, 0, 0]
  | 4 => [1, 1]
  | 5 => [1, 1, 1, 1, 0, 0]
  | 6 => [1, 0]
  | 7 => [0, 0, 0, 0, 0, 0, 0]
  | 8 => [1, 1, 1, 1, 0, 0, 0, 0]
  | 9 => [1, 0, 0, 0, 0, 0]
  | 10 => [1, 1, 1, 0, 0, 0]
  | 11 => [1, 1, 1, 1, 1, 1, 1, 1, 1, 1, 1, 1, 1, 0]
  | 12 => [0, 1, 0, 0, 1, 1, 1, 0, 0, 1, 1, 1, 1, 1, 1, 1, 1, 1, 0, 2, 1, 1, 1, 1, 1, 1, 1, 0, 0, 1, 1, 1, 1, 0, 1, 0, 3, 1, 1, 0, 1, 1, 1, 1, 1, 1, 1, 1]
  | _ => []
