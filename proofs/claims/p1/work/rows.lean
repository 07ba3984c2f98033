section
-- ===== PART A: goes FIRST, ahead of the names: the tables' words, and 'selects' of the private methods out of them =====
/-- a private method of a class that the tables say can be made, by its rows of tables_1 -/
def lw_okq (q : MethodName × Nat) : Prop := (q.1.cls ≠ "java/lang/invoke/MethodHandle" ∧ q.1.cls ≠ "java/lang/invoke/VarHandle") ∧ Cond.instantiable q.1.cls q.2 ∈ tables_1 ∧ Cond.privateMethod q.1 ∈ tables_1 ∧ Cond.instanceMethod q.1 ∈ tables_1
theorem lw_p0 : lw_okq (⟨"ThousandLeaflets$Book", "forgetDrawn", "()V"⟩, 7) := ⟨⟨by decide +kernel, by decide +kernel⟩, List.mem_of_getElem? (i := 283) (by decide +kernel), List.mem_of_getElem? (i := 392) (by decide +kernel), List.mem_of_getElem? (i := 393) (by decide +kernel)⟩
theorem lw_p1 : lw_okq (⟨"ThousandLeaflets", "forgetMarks", "()V"⟩, 14) := ⟨⟨by decide +kernel, by decide +kernel⟩, List.mem_of_getElem? (i := 27) (by decide +kernel), List.mem_of_getElem? (i := 403) (by decide +kernel), List.mem_of_getElem? (i := 404) (by decide +kernel)⟩
theorem lw_p2 : lw_okq (⟨"ThousandLeaflets", "isTold", "(I)Z"⟩, 14) := ⟨⟨by decide +kernel, by decide +kernel⟩, List.mem_of_getElem? (i := 27) (by decide +kernel), List.mem_of_getElem? (i := 411) (by decide +kernel), List.mem_of_getElem? (i := 412) (by decide +kernel)⟩
theorem lw_p3 : lw_okq (⟨"ThousandLeaflets", "isTouched", "(I)Z"⟩, 14) := ⟨⟨by decide +kernel, by decide +kernel⟩, List.mem_of_getElem? (i := 27) (by decide +kernel), List.mem_of_getElem? (i := 416) (by decide +kernel), List.mem_of_getElem? (i := 417) (by decide +kernel)⟩
theorem lw_p4 : lw_okq (⟨"ThousandLeaflets$Tape", "takeRun", "(II)V"⟩, 6) := ⟨⟨by decide +kernel, by decide +kernel⟩, List.mem_of_getElem? (i := 45) (by decide +kernel), List.mem_of_getElem? (i := 449) (by decide +kernel), List.mem_of_getElem? (i := 450) (by decide +kernel)⟩
theorem lw_p5 : lw_okq (⟨"ThousandLeaflets$Tape", "numberHere", "()I"⟩, 6) := ⟨⟨by decide +kernel, by decide +kernel⟩, List.mem_of_getElem? (i := 45) (by decide +kernel), List.mem_of_getElem? (i := 453) (by decide +kernel), List.mem_of_getElem? (i := 454) (by decide +kernel)⟩
theorem lw_p6 : lw_okq (⟨"ThousandLeaflets$DrawReader", "statementFault", "(I)I"⟩, 2) := ⟨⟨by decide +kernel, by decide +kernel⟩, List.mem_of_getElem? (i := 39) (by decide +kernel), List.mem_of_getElem? (i := 457) (by decide +kernel), List.mem_of_getElem? (i := 458) (by decide +kernel)⟩
theorem lw_p7 : lw_okq (⟨"ThousandLeaflets$DrawReader", "oddsFault", "()I"⟩, 2) := ⟨⟨by decide +kernel, by decide +kernel⟩, List.mem_of_getElem? (i := 39) (by decide +kernel), List.mem_of_getElem? (i := 514) (by decide +kernel), List.mem_of_getElem? (i := 515) (by decide +kernel)⟩
theorem lw_p8 : lw_okq (⟨"ThousandLeaflets$DrawReader", "numberFault", "(II)I"⟩, 2) := ⟨⟨by decide +kernel, by decide +kernel⟩, List.mem_of_getElem? (i := 39) (by decide +kernel), List.mem_of_getElem? (i := 518) (by decide +kernel), List.mem_of_getElem? (i := 519) (by decide +kernel)⟩
theorem lw_p9 : lw_okq (⟨"ThousandLeaflets$DrawReader", "wrong", "(I)I"⟩, 2) := ⟨⟨by decide +kernel, by decide +kernel⟩, List.mem_of_getElem? (i := 39) (by decide +kernel), List.mem_of_getElem? (i := 522) (by decide +kernel), List.mem_of_getElem? (i := 523) (by decide +kernel)⟩
theorem lw_p10 : lw_okq (⟨"ThousandLeaflets$DrawReader", "endFault", "()I"⟩, 2) := ⟨⟨by decide +kernel, by decide +kernel⟩, List.mem_of_getElem? (i := 39) (by decide +kernel), List.mem_of_getElem? (i := 526) (by decide +kernel), List.mem_of_getElem? (i := 527) (by decide +kernel)⟩
theorem lw_p11 : lw_okq (⟨"ThousandLeaflets$DrawReader", "firstFault", "()I"⟩, 2) := ⟨⟨by decide +kernel, by decide +kernel⟩, List.mem_of_getElem? (i := 39) (by decide +kernel), List.mem_of_getElem? (i := 531) (by decide +kernel), List.mem_of_getElem? (i := 532) (by decide +kernel)⟩
theorem lw_p12 : lw_okq (⟨"ThousandLeaflets$DrawReader", "sumFault", "(I)I"⟩, 2) := ⟨⟨by decide +kernel, by decide +kernel⟩, List.mem_of_getElem? (i := 39) (by decide +kernel), List.mem_of_getElem? (i := 536) (by decide +kernel), List.mem_of_getElem? (i := 537) (by decide +kernel)⟩
theorem lw_p13 : lw_okq (⟨"ThousandLeaflets$DrawReader", "sealFault", "()I"⟩, 2) := ⟨⟨by decide +kernel, by decide +kernel⟩, List.mem_of_getElem? (i := 39) (by decide +kernel), List.mem_of_getElem? (i := 541) (by decide +kernel), List.mem_of_getElem? (i := 542) (by decide +kernel)⟩
theorem lw_p14 : lw_okq (⟨"ThousandLeaflets", "isLeaflet", "(II)Z"⟩, 14) := ⟨⟨by decide +kernel, by decide +kernel⟩, List.mem_of_getElem? (i := 27) (by decide +kernel), List.mem_of_getElem? (i := 561) (by decide +kernel), List.mem_of_getElem? (i := 562) (by decide +kernel)⟩
theorem lw_p15 : lw_okq (⟨"ThousandLeaflets$Book", "castDegree", "(I)I"⟩, 7) := ⟨⟨by decide +kernel, by decide +kernel⟩, List.mem_of_getElem? (i := 283) (by decide +kernel), List.mem_of_getElem? (i := 581) (by decide +kernel), List.mem_of_getElem? (i := 582) (by decide +kernel)⟩
def lw_privs_1 : List (MethodName × Nat) := [(⟨"ThousandLeaflets$Book", "forgetDrawn", "()V"⟩, 7), (⟨"ThousandLeaflets", "forgetMarks", "()V"⟩, 14), (⟨"ThousandLeaflets", "isTold", "(I)Z"⟩, 14), (⟨"ThousandLeaflets", "isTouched", "(I)Z"⟩, 14), (⟨"ThousandLeaflets$Tape", "takeRun", "(II)V"⟩, 6), (⟨"ThousandLeaflets$Tape", "numberHere", "()I"⟩, 6), (⟨"ThousandLeaflets$DrawReader", "statementFault", "(I)I"⟩, 2), (⟨"ThousandLeaflets$DrawReader", "oddsFault", "()I"⟩, 2), (⟨"ThousandLeaflets$DrawReader", "numberFault", "(II)I"⟩, 2), (⟨"ThousandLeaflets$DrawReader", "wrong", "(I)I"⟩, 2), (⟨"ThousandLeaflets$DrawReader", "endFault", "()I"⟩, 2), (⟨"ThousandLeaflets$DrawReader", "firstFault", "()I"⟩, 2), (⟨"ThousandLeaflets$DrawReader", "sumFault", "(I)I"⟩, 2), (⟨"ThousandLeaflets$DrawReader", "sealFault", "()I"⟩, 2), (⟨"ThousandLeaflets", "isLeaflet", "(II)Z"⟩, 14), (⟨"ThousandLeaflets$Book", "castDegree", "(I)I"⟩, 7)]
theorem lw_r1 : ∀ q ∈ lw_privs_1, lw_okq q := List.forall_mem_cons.mpr ⟨lw_p0, List.forall_mem_cons.mpr ⟨lw_p1, List.forall_mem_cons.mpr ⟨lw_p2, List.forall_mem_cons.mpr ⟨lw_p3, List.forall_mem_cons.mpr ⟨lw_p4, List.forall_mem_cons.mpr ⟨lw_p5, List.forall_mem_cons.mpr ⟨lw_p6, List.forall_mem_cons.mpr ⟨lw_p7, List.forall_mem_cons.mpr ⟨lw_p8, List.forall_mem_cons.mpr ⟨lw_p9, List.forall_mem_cons.mpr ⟨lw_p10, List.forall_mem_cons.mpr ⟨lw_p11, List.forall_mem_cons.mpr ⟨lw_p12, List.forall_mem_cons.mpr ⟨lw_p13, List.forall_mem_cons.mpr ⟨lw_p14, List.forall_mem_cons.mpr ⟨lw_p15, fun _ h => absurd h List.not_mem_nil⟩⟩⟩⟩⟩⟩⟩⟩⟩⟩⟩⟩⟩⟩⟩⟩
theorem lw_p16 : lw_okq (⟨"ThousandLeaflets$Book", "cast", "(I)I"⟩, 7) := ⟨⟨by decide +kernel, by decide +kernel⟩, List.mem_of_getElem? (i := 283) (by decide +kernel), List.mem_of_getElem? (i := 585) (by decide +kernel), List.mem_of_getElem? (i := 586) (by decide +kernel)⟩
theorem lw_p17 : lw_okq (⟨"ThousandLeaflets$Book", "howMany", "(I)I"⟩, 7) := ⟨⟨by decide +kernel, by decide +kernel⟩, List.mem_of_getElem? (i := 283) (by decide +kernel), List.mem_of_getElem? (i := 591) (by decide +kernel), List.mem_of_getElem? (i := 592) (by decide +kernel)⟩
theorem lw_p18 : lw_okq (⟨"ThousandLeaflets$Book", "weightOf", "(I)I"⟩, 7) := ⟨⟨by decide +kernel, by decide +kernel⟩, List.mem_of_getElem? (i := 283) (by decide +kernel), List.mem_of_getElem? (i := 599) (by decide +kernel), List.mem_of_getElem? (i := 600) (by decide +kernel)⟩
theorem lw_p19 : lw_okq (⟨"ThousandLeaflets$Book", "pickBeside", "(III)I"⟩, 7) := ⟨⟨by decide +kernel, by decide +kernel⟩, List.mem_of_getElem? (i := 283) (by decide +kernel), List.mem_of_getElem? (i := 603) (by decide +kernel), List.mem_of_getElem? (i := 604) (by decide +kernel)⟩
theorem lw_p20 : lw_okq (⟨"ThousandLeaflets", "isPageOf", "(II)Z"⟩, 14) := ⟨⟨by decide +kernel, by decide +kernel⟩, List.mem_of_getElem? (i := 27) (by decide +kernel), List.mem_of_getElem? (i := 629) (by decide +kernel), List.mem_of_getElem? (i := 630) (by decide +kernel)⟩
theorem lw_p21 : lw_okq (⟨"ThousandLeaflets$Heap", "unnamed", "()I"⟩, 2) := ⟨⟨by decide +kernel, by decide +kernel⟩, List.mem_of_getElem? (i := 319) (by decide +kernel), List.mem_of_getElem? (i := 692) (by decide +kernel), List.mem_of_getElem? (i := 693) (by decide +kernel)⟩
theorem lw_p22 : lw_okq (⟨"ThousandLeaflets", "send", "(ILThousandLeaflets$Book;III)I"⟩, 14) := ⟨⟨by decide +kernel, by decide +kernel⟩, List.mem_of_getElem? (i := 27) (by decide +kernel), List.mem_of_getElem? (i := 700) (by decide +kernel), List.mem_of_getElem? (i := 701) (by decide +kernel)⟩
theorem lw_p23 : lw_okq (⟨"ThousandLeaflets", "paperAt", "(II)LThousandLeaflets$Paper;"⟩, 14) := ⟨⟨by decide +kernel, by decide +kernel⟩, List.mem_of_getElem? (i := 27) (by decide +kernel), List.mem_of_getElem? (i := 719) (by decide +kernel), List.mem_of_getElem? (i := 720) (by decide +kernel)⟩
theorem lw_p24 : lw_okq (⟨"ThousandLeaflets", "gather", "(III)LThousandLeaflets$Equations;"⟩, 14) := ⟨⟨by decide +kernel, by decide +kernel⟩, List.mem_of_getElem? (i := 27) (by decide +kernel), List.mem_of_getElem? (i := 738) (by decide +kernel), List.mem_of_getElem? (i := 739) (by decide +kernel)⟩
theorem lw_p25 : lw_okq (⟨"ThousandLeaflets$Equations", "firstWithOneUnknown", "(I)I"⟩, 6) := ⟨⟨by decide +kernel, by decide +kernel⟩, List.mem_of_getElem? (i := 138) (by decide +kernel), List.mem_of_getElem? (i := 767) (by decide +kernel), List.mem_of_getElem? (i := 768) (by decide +kernel)⟩
theorem lw_p26 : lw_okq (⟨"ThousandLeaflets$Equations", "unknownOf", "(II)I"⟩, 6) := ⟨⟨by decide +kernel, by decide +kernel⟩, List.mem_of_getElem? (i := 138) (by decide +kernel), List.mem_of_getElem? (i := 771) (by decide +kernel), List.mem_of_getElem? (i := 772) (by decide +kernel)⟩
theorem lw_p27 : lw_okq (⟨"ThousandLeaflets$Equations", "restOf", "(II)I"⟩, 6) := ⟨⟨by decide +kernel, by decide +kernel⟩, List.mem_of_getElem? (i := 138) (by decide +kernel), List.mem_of_getElem? (i := 779) (by decide +kernel), List.mem_of_getElem? (i := 780) (by decide +kernel)⟩
theorem lw_p28 : lw_okq (⟨"ThousandLeaflets$Basis", "reduce", "(I)I"⟩, 4) := ⟨⟨by decide +kernel, by decide +kernel⟩, List.mem_of_getElem? (i := 171) (by decide +kernel), List.mem_of_getElem? (i := 808) (by decide +kernel), List.mem_of_getElem? (i := 809) (by decide +kernel)⟩
theorem lw_p29 : lw_okq (⟨"ThousandLeaflets", "readOctet", "(IIIII)I"⟩, 14) := ⟨⟨by decide +kernel, by decide +kernel⟩, List.mem_of_getElem? (i := 27) (by decide +kernel), List.mem_of_getElem? (i := 828) (by decide +kernel), List.mem_of_getElem? (i := 829) (by decide +kernel)⟩
theorem lw_p30 : lw_okq (⟨"ThousandLeaflets", "soonPeeled", "(III)I"⟩, 14) := ⟨⟨by decide +kernel, by decide +kernel⟩, List.mem_of_getElem? (i := 27) (by decide +kernel), List.mem_of_getElem? (i := 837) (by decide +kernel), List.mem_of_getElem? (i := 838) (by decide +kernel)⟩
theorem lw_p31 : lw_okq (⟨"ThousandLeaflets", "spreadWith", "(LThousandLeaflets$Paper;III)I"⟩, 14) := ⟨⟨by decide +kernel, by decide +kernel⟩, List.mem_of_getElem? (i := 27) (by decide +kernel), List.mem_of_getElem? (i := 841) (by decide +kernel), List.mem_of_getElem? (i := 842) (by decide +kernel)⟩
def lw_privs_2 : List (MethodName × Nat) := [(⟨"ThousandLeaflets$Book", "cast", "(I)I"⟩, 7), (⟨"ThousandLeaflets$Book", "howMany", "(I)I"⟩, 7), (⟨"ThousandLeaflets$Book", "weightOf", "(I)I"⟩, 7), (⟨"ThousandLeaflets$Book", "pickBeside", "(III)I"⟩, 7), (⟨"ThousandLeaflets", "isPageOf", "(II)Z"⟩, 14), (⟨"ThousandLeaflets$Heap", "unnamed", "()I"⟩, 2), (⟨"ThousandLeaflets", "send", "(ILThousandLeaflets$Book;III)I"⟩, 14), (⟨"ThousandLeaflets", "paperAt", "(II)LThousandLeaflets$Paper;"⟩, 14), (⟨"ThousandLeaflets", "gather", "(III)LThousandLeaflets$Equations;"⟩, 14), (⟨"ThousandLeaflets$Equations", "firstWithOneUnknown", "(I)I"⟩, 6), (⟨"ThousandLeaflets$Equations", "unknownOf", "(II)I"⟩, 6), (⟨"ThousandLeaflets$Equations", "restOf", "(II)I"⟩, 6), (⟨"ThousandLeaflets$Basis", "reduce", "(I)I"⟩, 4), (⟨"ThousandLeaflets", "readOctet", "(IIIII)I"⟩, 14), (⟨"ThousandLeaflets", "soonPeeled", "(III)I"⟩, 14), (⟨"ThousandLeaflets", "spreadWith", "(LThousandLeaflets$Paper;III)I"⟩, 14)]
theorem lw_r2 : ∀ q ∈ lw_privs_2, lw_okq q := List.forall_mem_cons.mpr ⟨lw_p16, List.forall_mem_cons.mpr ⟨lw_p17, List.forall_mem_cons.mpr ⟨lw_p18, List.forall_mem_cons.mpr ⟨lw_p19, List.forall_mem_cons.mpr ⟨lw_p20, List.forall_mem_cons.mpr ⟨lw_p21, List.forall_mem_cons.mpr ⟨lw_p22, List.forall_mem_cons.mpr ⟨lw_p23, List.forall_mem_cons.mpr ⟨lw_p24, List.forall_mem_cons.mpr ⟨lw_p25, List.forall_mem_cons.mpr ⟨lw_p26, List.forall_mem_cons.mpr ⟨lw_p27, List.forall_mem_cons.mpr ⟨lw_p28, List.forall_mem_cons.mpr ⟨lw_p29, List.forall_mem_cons.mpr ⟨lw_p30, List.forall_mem_cons.mpr ⟨lw_p31, fun _ h => absurd h List.not_mem_nil⟩⟩⟩⟩⟩⟩⟩⟩⟩⟩⟩⟩⟩⟩⟩⟩
theorem lw_p32 : lw_okq (⟨"ThousandLeaflets", "soonSolved", "(III)I"⟩, 14) := ⟨⟨by decide +kernel, by decide +kernel⟩, List.mem_of_getElem? (i := 27) (by decide +kernel), List.mem_of_getElem? (i := 849) (by decide +kernel), List.mem_of_getElem? (i := 850) (by decide +kernel)⟩
theorem lw_p33 : lw_okq (⟨"ThousandLeaflets$Equations", "touchPapers", "(LThousandLeaflets$Book;)V"⟩, 6) := ⟨⟨by decide +kernel, by decide +kernel⟩, List.mem_of_getElem? (i := 138) (by decide +kernel), List.mem_of_getElem? (i := 874) (by decide +kernel), List.mem_of_getElem? (i := 875) (by decide +kernel)⟩
theorem lw_p34 : lw_okq (⟨"ThousandLeaflets$Equations", "fewestTouched", "(JI)I"⟩, 6) := ⟨⟨by decide +kernel, by decide +kernel⟩, List.mem_of_getElem? (i := 138) (by decide +kernel), List.mem_of_getElem? (i := 879) (by decide +kernel), List.mem_of_getElem? (i := 880) (by decide +kernel)⟩
theorem lw_p35 : lw_okq (⟨"ThousandLeaflets$Coming", "seek", "(III)V"⟩, 7) := ⟨⟨by decide +kernel, by decide +kernel⟩, List.mem_of_getElem? (i := 223) (by decide +kernel), List.mem_of_getElem? (i := 904) (by decide +kernel), List.mem_of_getElem? (i := 905) (by decide +kernel)⟩
theorem lw_p36 : lw_okq (⟨"ThousandLeaflets$Sets", "walk", "(III)V"⟩, 8) := ⟨⟨by decide +kernel, by decide +kernel⟩, List.mem_of_getElem? (i := 132) (by decide +kernel), List.mem_of_getElem? (i := 935) (by decide +kernel), List.mem_of_getElem? (i := 936) (by decide +kernel)⟩
theorem lw_p37 : lw_okq (⟨"ThousandLeaflets$Sets", "addAllWith", "(II)V"⟩, 8) := ⟨⟨by decide +kernel, by decide +kernel⟩, List.mem_of_getElem? (i := 132) (by decide +kernel), List.mem_of_getElem? (i := 939) (by decide +kernel), List.mem_of_getElem? (i := 940) (by decide +kernel)⟩
theorem lw_p38 : lw_okq (⟨"ThousandLeaflets$Ways", "allAgree", "()Z"⟩, 6) := ⟨⟨by decide +kernel, by decide +kernel⟩, List.mem_of_getElem? (i := 255) (by decide +kernel), List.mem_of_getElem? (i := 984) (by decide +kernel), List.mem_of_getElem? (i := 985) (by decide +kernel)⟩
theorem lw_p39 : lw_okq (⟨"ThousandLeaflets$Ways", "give", "(II)V"⟩, 6) := ⟨⟨by decide +kernel, by decide +kernel⟩, List.mem_of_getElem? (i := 255) (by decide +kernel), List.mem_of_getElem? (i := 988) (by decide +kernel), List.mem_of_getElem? (i := 989) (by decide +kernel)⟩
theorem lw_p40 : lw_okq (⟨"ThousandLeaflets$Ways", "tryBook", "(IILThousandLeaflets$Paper;I)V"⟩, 6) := ⟨⟨by decide +kernel, by decide +kernel⟩, List.mem_of_getElem? (i := 255) (by decide +kernel), List.mem_of_getElem? (i := 992) (by decide +kernel), List.mem_of_getElem? (i := 993) (by decide +kernel)⟩
theorem lw_p41 : lw_okq (⟨"ThousandLeaflets", "isRoomAnywhere", "()Z"⟩, 14) := ⟨⟨by decide +kernel, by decide +kernel⟩, List.mem_of_getElem? (i := 27) (by decide +kernel), List.mem_of_getElem? (i := 1012) (by decide +kernel), List.mem_of_getElem? (i := 1013) (by decide +kernel)⟩
theorem lw_p42 : lw_okq (⟨"ThousandLeaflets", "throwOne", "(LThousandLeaflets$Book;I)I"⟩, 14) := ⟨⟨by decide +kernel, by decide +kernel⟩, List.mem_of_getElem? (i := 27) (by decide +kernel), List.mem_of_getElem? (i := 1016) (by decide +kernel), List.mem_of_getElem? (i := 1017) (by decide +kernel)⟩
theorem lw_p43 : lw_okq (⟨"ThousandLeaflets", "falls", "(LThousandLeaflets$Book;II)Z"⟩, 14) := ⟨⟨by decide +kernel, by decide +kernel⟩, List.mem_of_getElem? (i := 27) (by decide +kernel), List.mem_of_getElem? (i := 1020) (by decide +kernel), List.mem_of_getElem? (i := 1021) (by decide +kernel)⟩
theorem lw_p44 : lw_okq (⟨"ThousandLeaflets", "neededIn", "(ILThousandLeaflets$Book;)I"⟩, 14) := ⟨⟨by decide +kernel, by decide +kernel⟩, List.mem_of_getElem? (i := 27) (by decide +kernel), List.mem_of_getElem? (i := 1036) (by decide +kernel), List.mem_of_getElem? (i := 1037) (by decide +kernel)⟩
theorem lw_p45 : lw_okq (⟨"ThousandLeaflets", "allHouses", "()I"⟩, 14) := ⟨⟨by decide +kernel, by decide +kernel⟩, List.mem_of_getElem? (i := 27) (by decide +kernel), List.mem_of_getElem? (i := 1044) (by decide +kernel), List.mem_of_getElem? (i := 1045) (by decide +kernel)⟩
theorem lw_p46 : lw_okq (⟨"ThousandLeaflets", "housesServed", "(I)I"⟩, 14) := ⟨⟨by decide +kernel, by decide +kernel⟩, List.mem_of_getElem? (i := 27) (by decide +kernel), List.mem_of_getElem? (i := 1048) (by decide +kernel), List.mem_of_getElem? (i := 1049) (by decide +kernel)⟩
theorem lw_p47 : lw_okq (⟨"java/lang/Throwable", "fillInStackTrace", "(I)Ljava/lang/Throwable;"⟩, 6) := ⟨⟨by decide +kernel, by decide +kernel⟩, List.mem_of_getElem? (i := 1112) (by decide +kernel), List.mem_of_getElem? (i := 1110) (by decide +kernel), List.mem_of_getElem? (i := 1111) (by decide +kernel)⟩
def lw_privs_3 : List (MethodName × Nat) := [(⟨"ThousandLeaflets", "soonSolved", "(III)I"⟩, 14), (⟨"ThousandLeaflets$Equations", "touchPapers", "(LThousandLeaflets$Book;)V"⟩, 6), (⟨"ThousandLeaflets$Equations", "fewestTouched", "(JI)I"⟩, 6), (⟨"ThousandLeaflets$Coming", "seek", "(III)V"⟩, 7), (⟨"ThousandLeaflets$Sets", "walk", "(III)V"⟩, 8), (⟨"ThousandLeaflets$Sets", "addAllWith", "(II)V"⟩, 8), (⟨"ThousandLeaflets$Ways", "allAgree", "()Z"⟩, 6), (⟨"ThousandLeaflets$Ways", "give", "(II)V"⟩, 6), (⟨"ThousandLeaflets$Ways", "tryBook", "(IILThousandLeaflets$Paper;I)V"⟩, 6), (⟨"ThousandLeaflets", "isRoomAnywhere", "()Z"⟩, 14), (⟨"ThousandLeaflets", "throwOne", "(LThousandLeaflets$Book;I)I"⟩, 14), (⟨"ThousandLeaflets", "falls", "(LThousandLeaflets$Book;II)Z"⟩, 14), (⟨"ThousandLeaflets", "neededIn", "(ILThousandLeaflets$Book;)I"⟩, 14), (⟨"ThousandLeaflets", "allHouses", "()I"⟩, 14), (⟨"ThousandLeaflets", "housesServed", "(I)I"⟩, 14), (⟨"java/lang/Throwable", "fillInStackTrace", "(I)Ljava/lang/Throwable;"⟩, 6)]
theorem lw_r3 : ∀ q ∈ lw_privs_3, lw_okq q := List.forall_mem_cons.mpr ⟨lw_p32, List.forall_mem_cons.mpr ⟨lw_p33, List.forall_mem_cons.mpr ⟨lw_p34, List.forall_mem_cons.mpr ⟨lw_p35, List.forall_mem_cons.mpr ⟨lw_p36, List.forall_mem_cons.mpr ⟨lw_p37, List.forall_mem_cons.mpr ⟨lw_p38, List.forall_mem_cons.mpr ⟨lw_p39, List.forall_mem_cons.mpr ⟨lw_p40, List.forall_mem_cons.mpr ⟨lw_p41, List.forall_mem_cons.mpr ⟨lw_p42, List.forall_mem_cons.mpr ⟨lw_p43, List.forall_mem_cons.mpr ⟨lw_p44, List.forall_mem_cons.mpr ⟨lw_p45, List.forall_mem_cons.mpr ⟨lw_p46, List.forall_mem_cons.mpr ⟨lw_p47, fun _ h => absurd h List.not_mem_nil⟩⟩⟩⟩⟩⟩⟩⟩⟩⟩⟩⟩⟩⟩⟩⟩
theorem lw_p48 : lw_okq (⟨"ThousandLeaflets", "unknownPages", "(ILThousandLeaflets$Paper;)I"⟩, 14) := ⟨⟨by decide +kernel, by decide +kernel⟩, List.mem_of_getElem? (i := 27) (by decide +kernel), List.mem_of_getElem? (i := 1137) (by decide +kernel), List.mem_of_getElem? (i := 1138) (by decide +kernel)⟩
theorem lw_p49 : lw_okq (⟨"ThousandLeafletsModel", "lay", "(J)V"⟩, 48) := ⟨⟨by decide +kernel, by decide +kernel⟩, List.mem_of_getElem? (i := 1153) (by decide +kernel), List.mem_of_getElem? (i := 1151) (by decide +kernel), List.mem_of_getElem? (i := 1152) (by decide +kernel)⟩
theorem lw_p50 : lw_okq (⟨"ThousandLeafletsModel", "forgetsDraw", "(I)V"⟩, 48) := ⟨⟨by decide +kernel, by decide +kernel⟩, List.mem_of_getElem? (i := 1153) (by decide +kernel), List.mem_of_getElem? (i := 1317) (by decide +kernel), List.mem_of_getElem? (i := 1318) (by decide +kernel)⟩
theorem lw_p51 : lw_okq (⟨"ThousandLeafletsModel", "takesOut", "(II)V"⟩, 48) := ⟨⟨by decide +kernel, by decide +kernel⟩, List.mem_of_getElem? (i := 1153) (by decide +kernel), List.mem_of_getElem? (i := 1321) (by decide +kernel), List.mem_of_getElem? (i := 1322) (by decide +kernel)⟩
theorem lw_p52 : lw_okq (⟨"ThousandLeafletsModel", "moves", "(II)V"⟩, 48) := ⟨⟨by decide +kernel, by decide +kernel⟩, List.mem_of_getElem? (i := 1153) (by decide +kernel), List.mem_of_getElem? (i := 1325) (by decide +kernel), List.mem_of_getElem? (i := 1326) (by decide +kernel)⟩
theorem lw_p53 : lw_okq (⟨"ThousandLeafletsModel", "forgetsMarks", "()V"⟩, 48) := ⟨⟨by decide +kernel, by decide +kernel⟩, List.mem_of_getElem? (i := 1153) (by decide +kernel), List.mem_of_getElem? (i := 1329) (by decide +kernel), List.mem_of_getElem? (i := 1330) (by decide +kernel)⟩
theorem lw_p54 : lw_okq (⟨"ThousandLeafletsModel", "isBook", "(I)Z"⟩, 48) := ⟨⟨by decide +kernel, by decide +kernel⟩, List.mem_of_getElem? (i := 1153) (by decide +kernel), List.mem_of_getElem? (i := 1337) (by decide +kernel), List.mem_of_getElem? (i := 1338) (by decide +kernel)⟩
theorem lw_p55 : lw_okq (⟨"ThousandLeafletsModel", "isOut", "(I)Z"⟩, 48) := ⟨⟨by decide +kernel, by decide +kernel⟩, List.mem_of_getElem? (i := 1153) (by decide +kernel), List.mem_of_getElem? (i := 1342) (by decide +kernel), List.mem_of_getElem? (i := 1343) (by decide +kernel)⟩
theorem lw_p56 : lw_okq (⟨"ThousandLeafletsModel", "cutAll", "()V"⟩, 48) := ⟨⟨by decide +kernel, by decide +kernel⟩, List.mem_of_getElem? (i := 1153) (by decide +kernel), List.mem_of_getElem? (i := 1350) (by decide +kernel), List.mem_of_getElem? (i := 1351) (by decide +kernel)⟩
theorem lw_p57 : lw_okq (⟨"ThousandLeafletsModel", "readLine", "()V"⟩, 48) := ⟨⟨by decide +kernel, by decide +kernel⟩, List.mem_of_getElem? (i := 1153) (by decide +kernel), List.mem_of_getElem? (i := 1369) (by decide +kernel), List.mem_of_getElem? (i := 1370) (by decide +kernel)⟩
theorem lw_p58 : lw_okq (⟨"ThousandLeafletsModel", "isWord", "(I)Z"⟩, 48) := ⟨⟨by decide +kernel, by decide +kernel⟩, List.mem_of_getElem? (i := 1153) (by decide +kernel), List.mem_of_getElem? (i := 1373) (by decide +kernel), List.mem_of_getElem? (i := 1374) (by decide +kernel)⟩
theorem lw_p59 : lw_okq (⟨"ThousandLeafletsModel", "wrong", "(I)V"⟩, 48) := ⟨⟨by decide +kernel, by decide +kernel⟩, List.mem_of_getElem? (i := 1153) (by decide +kernel), List.mem_of_getElem? (i := 1377) (by decide +kernel), List.mem_of_getElem? (i := 1378) (by decide +kernel)⟩
theorem lw_p60 : lw_okq (⟨"ThousandLeafletsModel", "hasWord", "(I)Z"⟩, 48) := ⟨⟨by decide +kernel, by decide +kernel⟩, List.mem_of_getElem? (i := 1153) (by decide +kernel), List.mem_of_getElem? (i := 1381) (by decide +kernel), List.mem_of_getElem? (i := 1382) (by decide +kernel)⟩
theorem lw_p61 : lw_okq (⟨"ThousandLeafletsModel", "readOdds", "()V"⟩, 48) := ⟨⟨by decide +kernel, by decide +kernel⟩, List.mem_of_getElem? (i := 1153) (by decide +kernel), List.mem_of_getElem? (i := 1385) (by decide +kernel), List.mem_of_getElem? (i := 1386) (by decide +kernel)⟩
theorem lw_p62 : lw_okq (⟨"ThousandLeafletsModel", "takeNumber", "(II)I"⟩, 48) := ⟨⟨by decide +kernel, by decide +kernel⟩, List.mem_of_getElem? (i := 1153) (by decide +kernel), List.mem_of_getElem? (i := 1390) (by decide +kernel), List.mem_of_getElem? (i := 1391) (by decide +kernel)⟩
theorem lw_p63 : lw_okq (⟨"ThousandLeafletsModel", "readSum", "()V"⟩, 48) := ⟨⟨by decide +kernel, by decide +kernel⟩, List.mem_of_getElem? (i := 1153) (by decide +kernel), List.mem_of_getElem? (i := 1394) (by decide +kernel), List.mem_of_getElem? (i := 1395) (by decide +kernel)⟩
def lw_privs_4 : List (MethodName × Nat) := [(⟨"ThousandLeaflets", "unknownPages", "(ILThousandLeaflets$Paper;)I"⟩, 14), (⟨"ThousandLeafletsModel", "lay", "(J)V"⟩, 48), (⟨"ThousandLeafletsModel", "forgetsDraw", "(I)V"⟩, 48), (⟨"ThousandLeafletsModel", "takesOut", "(II)V"⟩, 48), (⟨"ThousandLeafletsModel", "moves", "(II)V"⟩, 48), (⟨"ThousandLeafletsModel", "forgetsMarks", "()V"⟩, 48), (⟨"ThousandLeafletsModel", "isBook", "(I)Z"⟩, 48), (⟨"ThousandLeafletsModel", "isOut", "(I)Z"⟩, 48), (⟨"ThousandLeafletsModel", "cutAll", "()V"⟩, 48), (⟨"ThousandLeafletsModel", "readLine", "()V"⟩, 48), (⟨"ThousandLeafletsModel", "isWord", "(I)Z"⟩, 48), (⟨"ThousandLeafletsModel", "wrong", "(I)V"⟩, 48), (⟨"ThousandLeafletsModel", "hasWord", "(I)Z"⟩, 48), (⟨"ThousandLeafletsModel", "readOdds", "()V"⟩, 48), (⟨"ThousandLeafletsModel", "takeNumber", "(II)I"⟩, 48), (⟨"ThousandLeafletsModel", "readSum", "()V"⟩, 48)]
theorem lw_r4 : ∀ q ∈ lw_privs_4, lw_okq q := List.forall_mem_cons.mpr ⟨lw_p48, List.forall_mem_cons.mpr ⟨lw_p49, List.forall_mem_cons.mpr ⟨lw_p50, List.forall_mem_cons.mpr ⟨lw_p51, List.forall_mem_cons.mpr ⟨lw_p52, List.forall_mem_cons.mpr ⟨lw_p53, List.forall_mem_cons.mpr ⟨lw_p54, List.forall_mem_cons.mpr ⟨lw_p55, List.forall_mem_cons.mpr ⟨lw_p56, List.forall_mem_cons.mpr ⟨lw_p57, List.forall_mem_cons.mpr ⟨lw_p58, List.forall_mem_cons.mpr ⟨lw_p59, List.forall_mem_cons.mpr ⟨lw_p60, List.forall_mem_cons.mpr ⟨lw_p61, List.forall_mem_cons.mpr ⟨lw_p62, List.forall_mem_cons.mpr ⟨lw_p63, fun _ h => absurd h List.not_mem_nil⟩⟩⟩⟩⟩⟩⟩⟩⟩⟩⟩⟩⟩⟩⟩⟩
theorem lw_p64 : lw_okq (⟨"ThousandLeafletsModel", "takeSign", "(I)V"⟩, 48) := ⟨⟨by decide +kernel, by decide +kernel⟩, List.mem_of_getElem? (i := 1153) (by decide +kernel), List.mem_of_getElem? (i := 1398) (by decide +kernel), List.mem_of_getElem? (i := 1399) (by decide +kernel)⟩
theorem lw_p65 : lw_okq (⟨"ThousandLeafletsModel", "isSign", "(I)Z"⟩, 48) := ⟨⟨by decide +kernel, by decide +kernel⟩, List.mem_of_getElem? (i := 1153) (by decide +kernel), List.mem_of_getElem? (i := 1402) (by decide +kernel), List.mem_of_getElem? (i := 1403) (by decide +kernel)⟩
theorem lw_p66 : lw_okq (⟨"ThousandLeafletsModel", "setOf", "(II)I"⟩, 48) := ⟨⟨by decide +kernel, by decide +kernel⟩, List.mem_of_getElem? (i := 1153) (by decide +kernel), List.mem_of_getElem? (i := 1413) (by decide +kernel), List.mem_of_getElem? (i := 1414) (by decide +kernel)⟩
theorem lw_p67 : lw_okq (⟨"ThousandLeafletsModel", "howMany", "(I)I"⟩, 48) := ⟨⟨by decide +kernel, by decide +kernel⟩, List.mem_of_getElem? (i := 1153) (by decide +kernel), List.mem_of_getElem? (i := 1420) (by decide +kernel), List.mem_of_getElem? (i := 1421) (by decide +kernel)⟩
theorem lw_p68 : lw_okq (⟨"ThousandLeafletsModel", "allOf", "(I)I"⟩, 48) := ⟨⟨by decide +kernel, by decide +kernel⟩, List.mem_of_getElem? (i := 1153) (by decide +kernel), List.mem_of_getElem? (i := 1424) (by decide +kernel), List.mem_of_getElem? (i := 1425) (by decide +kernel)⟩
theorem lw_p69 : lw_okq (⟨"ThousandLeafletsModel", "oddsOf", "(II)I"⟩, 48) := ⟨⟨by decide +kernel, by decide +kernel⟩, List.mem_of_getElem? (i := 1153) (by decide +kernel), List.mem_of_getElem? (i := 1428) (by decide +kernel), List.mem_of_getElem? (i := 1429) (by decide +kernel)⟩
theorem lw_p70 : lw_okq (⟨"ThousandLeafletsModel", "drawn", "()I"⟩, 48) := ⟨⟨by decide +kernel, by decide +kernel⟩, List.mem_of_getElem? (i := 1153) (by decide +kernel), List.mem_of_getElem? (i := 1432) (by decide +kernel), List.mem_of_getElem? (i := 1433) (by decide +kernel)⟩
theorem lw_p71 : lw_okq (⟨"ThousandLeafletsModel", "weightOf", "(II)I"⟩, 48) := ⟨⟨by decide +kernel, by decide +kernel⟩, List.mem_of_getElem? (i := 1153) (by decide +kernel), List.mem_of_getElem? (i := 1439) (by decide +kernel), List.mem_of_getElem? (i := 1440) (by decide +kernel)⟩
theorem lw_p72 : lw_okq (⟨"ThousandLeafletsModel", "sumOf", "(II)I"⟩, 48) := ⟨⟨by decide +kernel, by decide +kernel⟩, List.mem_of_getElem? (i := 1153) (by decide +kernel), List.mem_of_getElem? (i := 1446) (by decide +kernel), List.mem_of_getElem? (i := 1447) (by decide +kernel)⟩
theorem lw_p73 : lw_okq (⟨"ThousandLeafletsModel", "sealOf", "(III)I"⟩, 48) := ⟨⟨by decide +kernel, by decide +kernel⟩, List.mem_of_getElem? (i := 1153) (by decide +kernel), List.mem_of_getElem? (i := 1450) (by decide +kernel), List.mem_of_getElem? (i := 1451) (by decide +kernel)⟩
theorem lw_p74 : lw_okq (⟨"ThousandLeafletsModel", "valueOf", "(II)I"⟩, 48) := ⟨⟨by decide +kernel, by decide +kernel⟩, List.mem_of_getElem? (i := 1153) (by decide +kernel), List.mem_of_getElem? (i := 1458) (by decide +kernel), List.mem_of_getElem? (i := 1459) (by decide +kernel)⟩
theorem lw_p75 : lw_okq (⟨"ThousandLeafletsModel", "lays", "(IIIIII)I"⟩, 48) := ⟨⟨by decide +kernel, by decide +kernel⟩, List.mem_of_getElem? (i := 1153) (by decide +kernel), List.mem_of_getElem? (i := 1473) (by decide +kernel), List.mem_of_getElem? (i := 1474) (by decide +kernel)⟩
theorem lw_p76 : lw_okq (⟨"ThousandLeafletsModel", "laysIf", "(IIIII)I"⟩, 48) := ⟨⟨by decide +kernel, by decide +kernel⟩, List.mem_of_getElem? (i := 1153) (by decide +kernel), List.mem_of_getElem? (i := 1481) (by decide +kernel), List.mem_of_getElem? (i := 1482) (by decide +kernel)⟩
theorem lw_p77 : lw_okq (⟨"ThousandLeafletsModel", "namelessIn", "(I)I"⟩, 48) := ⟨⟨by decide +kernel, by decide +kernel⟩, List.mem_of_getElem? (i := 1153) (by decide +kernel), List.mem_of_getElem? (i := 1493) (by decide +kernel), List.mem_of_getElem? (i := 1494) (by decide +kernel)⟩
theorem lw_p78 : lw_okq (⟨"ThousandLeafletsModel", "isPaper", "(II)Z"⟩, 48) := ⟨⟨by decide +kernel, by decide +kernel⟩, List.mem_of_getElem? (i := 1153) (by decide +kernel), List.mem_of_getElem? (i := 1501) (by decide +kernel), List.mem_of_getElem? (i := 1502) (by decide +kernel)⟩
theorem lw_p79 : lw_okq (⟨"ThousandLeafletsModel", "copies", "(II)V"⟩, 48) := ⟨⟨by decide +kernel, by decide +kernel⟩, List.mem_of_getElem? (i := 1153) (by decide +kernel), List.mem_of_getElem? (i := 1509) (by decide +kernel), List.mem_of_getElem? (i := 1510) (by decide +kernel)⟩
def lw_privs_5 : List (MethodName × Nat) := [(⟨"ThousandLeafletsModel", "takeSign", "(I)V"⟩, 48), (⟨"ThousandLeafletsModel", "isSign", "(I)Z"⟩, 48), (⟨"ThousandLeafletsModel", "setOf", "(II)I"⟩, 48), (⟨"ThousandLeafletsModel", "howMany", "(I)I"⟩, 48), (⟨"ThousandLeafletsModel", "allOf", "(I)I"⟩, 48), (⟨"ThousandLeafletsModel", "oddsOf", "(II)I"⟩, 48), (⟨"ThousandLeafletsModel", "drawn", "()I"⟩, 48), (⟨"ThousandLeafletsModel", "weightOf", "(II)I"⟩, 48), (⟨"ThousandLeafletsModel", "sumOf", "(II)I"⟩, 48), (⟨"ThousandLeafletsModel", "sealOf", "(III)I"⟩, 48), (⟨"ThousandLeafletsModel", "valueOf", "(II)I"⟩, 48), (⟨"ThousandLeafletsModel", "lays", "(IIIIII)I"⟩, 48), (⟨"ThousandLeafletsModel", "laysIf", "(IIIII)I"⟩, 48), (⟨"ThousandLeafletsModel", "namelessIn", "(I)I"⟩, 48), (⟨"ThousandLeafletsModel", "isPaper", "(II)Z"⟩, 48), (⟨"ThousandLeafletsModel", "copies", "(II)V"⟩, 48)]
theorem lw_r5 : ∀ q ∈ lw_privs_5, lw_okq q := List.forall_mem_cons.mpr ⟨lw_p64, List.forall_mem_cons.mpr ⟨lw_p65, List.forall_mem_cons.mpr ⟨lw_p66, List.forall_mem_cons.mpr ⟨lw_p67, List.forall_mem_cons.mpr ⟨lw_p68, List.forall_mem_cons.mpr ⟨lw_p69, List.forall_mem_cons.mpr ⟨lw_p70, List.forall_mem_cons.mpr ⟨lw_p71, List.forall_mem_cons.mpr ⟨lw_p72, List.forall_mem_cons.mpr ⟨lw_p73, List.forall_mem_cons.mpr ⟨lw_p74, List.forall_mem_cons.mpr ⟨lw_p75, List.forall_mem_cons.mpr ⟨lw_p76, List.forall_mem_cons.mpr ⟨lw_p77, List.forall_mem_cons.mpr ⟨lw_p78, List.forall_mem_cons.mpr ⟨lw_p79, fun _ h => absurd h List.not_mem_nil⟩⟩⟩⟩⟩⟩⟩⟩⟩⟩⟩⟩⟩⟩⟩⟩
theorem lw_p80 : lw_okq (⟨"ThousandLeafletsModel", "isAsked", "(III)Z"⟩, 48) := ⟨⟨by decide +kernel, by decide +kernel⟩, List.mem_of_getElem? (i := 1153) (by decide +kernel), List.mem_of_getElem? (i := 1517) (by decide +kernel), List.mem_of_getElem? (i := 1518) (by decide +kernel)⟩
theorem lw_p81 : lw_okq (⟨"ThousandLeafletsModel", "leavesNone", "()V"⟩, 48) := ⟨⟨by decide +kernel, by decide +kernel⟩, List.mem_of_getElem? (i := 1153) (by decide +kernel), List.mem_of_getElem? (i := 1521) (by decide +kernel), List.mem_of_getElem? (i := 1522) (by decide +kernel)⟩
theorem lw_p82 : lw_okq (⟨"ThousandLeafletsModel", "gathers", "(IIII)V"⟩, 48) := ⟨⟨by decide +kernel, by decide +kernel⟩, List.mem_of_getElem? (i := 1153) (by decide +kernel), List.mem_of_getElem? (i := 1525) (by decide +kernel), List.mem_of_getElem? (i := 1526) (by decide +kernel)⟩
theorem lw_p83 : lw_okq (⟨"ThousandLeafletsModel", "begins", "(I)V"⟩, 48) := ⟨⟨by decide +kernel, by decide +kernel⟩, List.mem_of_getElem? (i := 1153) (by decide +kernel), List.mem_of_getElem? (i := 1529) (by decide +kernel), List.mem_of_getElem? (i := 1530) (by decide +kernel)⟩
theorem lw_p84 : lw_okq (⟨"ThousandLeafletsModel", "adds", "(III)V"⟩, 48) := ⟨⟨by decide +kernel, by decide +kernel⟩, List.mem_of_getElem? (i := 1153) (by decide +kernel), List.mem_of_getElem? (i := 1533) (by decide +kernel), List.mem_of_getElem? (i := 1534) (by decide +kernel)⟩
theorem lw_p85 : lw_okq (⟨"ThousandLeafletsModel", "findPeeled", "()V"⟩, 48) := ⟨⟨by decide +kernel, by decide +kernel⟩, List.mem_of_getElem? (i := 1153) (by decide +kernel), List.mem_of_getElem? (i := 1540) (by decide +kernel), List.mem_of_getElem? (i := 1541) (by decide +kernel)⟩
theorem lw_p86 : lw_okq (⟨"ThousandLeafletsModel", "comesTo", "(I)I"⟩, 48) := ⟨⟨by decide +kernel, by decide +kernel⟩, List.mem_of_getElem? (i := 1153) (by decide +kernel), List.mem_of_getElem? (i := 1544) (by decide +kernel), List.mem_of_getElem? (i := 1545) (by decide +kernel)⟩
theorem lw_p87 : lw_okq (⟨"ThousandLeafletsModel", "findSolved", "()V"⟩, 48) := ⟨⟨by decide +kernel, by decide +kernel⟩, List.mem_of_getElem? (i := 1153) (by decide +kernel), List.mem_of_getElem? (i := 1552) (by decide +kernel), List.mem_of_getElem? (i := 1553) (by decide +kernel)⟩
theorem lw_p88 : lw_okq (⟨"ThousandLeafletsModel", "fixedSet", "()I"⟩, 48) := ⟨⟨by decide +kernel, by decide +kernel⟩, List.mem_of_getElem? (i := 1153) (by decide +kernel), List.mem_of_getElem? (i := 1556) (by decide +kernel), List.mem_of_getElem? (i := 1557) (by decide +kernel)⟩
theorem lw_p89 : lw_okq (⟨"ThousandLeafletsModel", "isFixed", "(I)Z"⟩, 48) := ⟨⟨by decide +kernel, by decide +kernel⟩, List.mem_of_getElem? (i := 1153) (by decide +kernel), List.mem_of_getElem? (i := 1560) (by decide +kernel), List.mem_of_getElem? (i := 1561) (by decide +kernel)⟩
theorem lw_p90 : lw_okq (⟨"ThousandLeafletsModel", "isPage", "(II)Z"⟩, 48) := ⟨⟨by decide +kernel, by decide +kernel⟩, List.mem_of_getElem? (i := 1153) (by decide +kernel), List.mem_of_getElem? (i := 1568) (by decide +kernel), List.mem_of_getElem? (i := 1569) (by decide +kernel)⟩
theorem lw_p91 : lw_okq (⟨"ThousandLeafletsModel", "readBy", "(IIIII)I"⟩, 48) := ⟨⟨by decide +kernel, by decide +kernel⟩, List.mem_of_getElem? (i := 1153) (by decide +kernel), List.mem_of_getElem? (i := 1572) (by decide +kernel), List.mem_of_getElem? (i := 1573) (by decide +kernel)⟩
theorem lw_p92 : lw_okq (⟨"ThousandLeafletsModel", "unknownOf", "(II)I"⟩, 48) := ⟨⟨by decide +kernel, by decide +kernel⟩, List.mem_of_getElem? (i := 1153) (by decide +kernel), List.mem_of_getElem? (i := 1584) (by decide +kernel), List.mem_of_getElem? (i := 1585) (by decide +kernel)⟩
theorem lw_p93 : lw_okq (⟨"ThousandLeafletsModel", "findSlipped", "(III)Z"⟩, 48) := ⟨⟨by decide +kernel, by decide +kernel⟩, List.mem_of_getElem? (i := 1153) (by decide +kernel), List.mem_of_getElem? (i := 1592) (by decide +kernel), List.mem_of_getElem? (i := 1593) (by decide +kernel)⟩
theorem lw_p94 : lw_okq (⟨"ThousandLeafletsModel", "isFixedWithout", "(IIII)Z"⟩, 48) := ⟨⟨by decide +kernel, by decide +kernel⟩, List.mem_of_getElem? (i := 1153) (by decide +kernel), List.mem_of_getElem? (i := 1608) (by decide +kernel), List.mem_of_getElem? (i := 1609) (by decide +kernel)⟩
theorem lw_p95 : lw_okq (⟨"ThousandLeafletsModel", "isAllWith", "(III)Z"⟩, 48) := ⟨⟨by decide +kernel, by decide +kernel⟩, List.mem_of_getElem? (i := 1153) (by decide +kernel), List.mem_of_getElem? (i := 1616) (by decide +kernel), List.mem_of_getElem? (i := 1617) (by decide +kernel)⟩
def lw_privs_6 : List (MethodName × Nat) := [(⟨"ThousandLeafletsModel", "isAsked", "(III)Z"⟩, 48), (⟨"ThousandLeafletsModel", "leavesNone", "()V"⟩, 48), (⟨"ThousandLeafletsModel", "gathers", "(IIII)V"⟩, 48), (⟨"ThousandLeafletsModel", "begins", "(I)V"⟩, 48), (⟨"ThousandLeafletsModel", "adds", "(III)V"⟩, 48), (⟨"ThousandLeafletsModel", "findPeeled", "()V"⟩, 48), (⟨"ThousandLeafletsModel", "comesTo", "(I)I"⟩, 48), (⟨"ThousandLeafletsModel", "findSolved", "()V"⟩, 48), (⟨"ThousandLeafletsModel", "fixedSet", "()I"⟩, 48), (⟨"ThousandLeafletsModel", "isFixed", "(I)Z"⟩, 48), (⟨"ThousandLeafletsModel", "isPage", "(II)Z"⟩, 48), (⟨"ThousandLeafletsModel", "readBy", "(IIIII)I"⟩, 48), (⟨"ThousandLeafletsModel", "unknownOf", "(II)I"⟩, 48), (⟨"ThousandLeafletsModel", "findSlipped", "(III)Z"⟩, 48), (⟨"ThousandLeafletsModel", "isFixedWithout", "(IIII)Z"⟩, 48), (⟨"ThousandLeafletsModel", "isAllWith", "(III)Z"⟩, 48)]
theorem lw_r6 : ∀ q ∈ lw_privs_6, lw_okq q := List.forall_mem_cons.mpr ⟨lw_p80, List.forall_mem_cons.mpr ⟨lw_p81, List.forall_mem_cons.mpr ⟨lw_p82, List.forall_mem_cons.mpr ⟨lw_p83, List.forall_mem_cons.mpr ⟨lw_p84, List.forall_mem_cons.mpr ⟨lw_p85, List.forall_mem_cons.mpr ⟨lw_p86, List.forall_mem_cons.mpr ⟨lw_p87, List.forall_mem_cons.mpr ⟨lw_p88, List.forall_mem_cons.mpr ⟨lw_p89, List.forall_mem_cons.mpr ⟨lw_p90, List.forall_mem_cons.mpr ⟨lw_p91, List.forall_mem_cons.mpr ⟨lw_p92, List.forall_mem_cons.mpr ⟨lw_p93, List.forall_mem_cons.mpr ⟨lw_p94, List.forall_mem_cons.mpr ⟨lw_p95, fun _ h => absurd h List.not_mem_nil⟩⟩⟩⟩⟩⟩⟩⟩⟩⟩⟩⟩⟩⟩⟩⟩
theorem lw_p96 : lw_okq (⟨"ThousandLeafletsModel", "givesAll", "(II)Z"⟩, 48) := ⟨⟨by decide +kernel, by decide +kernel⟩, List.mem_of_getElem? (i := 1153) (by decide +kernel), List.mem_of_getElem? (i := 1620) (by decide +kernel), List.mem_of_getElem? (i := 1621) (by decide +kernel)⟩
theorem lw_p97 : lw_okq (⟨"ThousandLeafletsModel", "areChances", "(III)Z"⟩, 48) := ⟨⟨by decide +kernel, by decide +kernel⟩, List.mem_of_getElem? (i := 1153) (by decide +kernel), List.mem_of_getElem? (i := 1628) (by decide +kernel), List.mem_of_getElem? (i := 1629) (by decide +kernel)⟩
theorem lw_p98 : lw_okq (⟨"ThousandLeafletsModel", "keepsSets", "(II)V"⟩, 48) := ⟨⟨by decide +kernel, by decide +kernel⟩, List.mem_of_getElem? (i := 1153) (by decide +kernel), List.mem_of_getElem? (i := 1632) (by decide +kernel), List.mem_of_getElem? (i := 1633) (by decide +kernel)⟩
theorem lw_p99 : lw_okq (⟨"ThousandLeafletsModel", "chancesOf", "(IIII)I"⟩, 48) := ⟨⟨by decide +kernel, by decide +kernel⟩, List.mem_of_getElem? (i := 1153) (by decide +kernel), List.mem_of_getElem? (i := 1636) (by decide +kernel), List.mem_of_getElem? (i := 1637) (by decide +kernel)⟩
theorem lw_p100 : lw_okq (⟨"ThousandLeafletsModel", "agreesBy", "(III)Z"⟩, 48) := ⟨⟨by decide +kernel, by decide +kernel⟩, List.mem_of_getElem? (i := 1153) (by decide +kernel), List.mem_of_getElem? (i := 1663) (by decide +kernel), List.mem_of_getElem? (i := 1664) (by decide +kernel)⟩
theorem lw_p101 : lw_okq (⟨"ThousandLeafletsModel", "falls", "(III)Z"⟩, 48) := ⟨⟨by decide +kernel, by decide +kernel⟩, List.mem_of_getElem? (i := 1153) (by decide +kernel), List.mem_of_getElem? (i := 1675) (by decide +kernel), List.mem_of_getElem? (i := 1676) (by decide +kernel)⟩
theorem lw_p102 : lw_okq (⟨"ThousandLeafletsModel", "hasAlike", "(II)Z"⟩, 48) := ⟨⟨by decide +kernel, by decide +kernel⟩, List.mem_of_getElem? (i := 1153) (by decide +kernel), List.mem_of_getElem? (i := 1679) (by decide +kernel), List.mem_of_getElem? (i := 1680) (by decide +kernel)⟩
theorem lw_p103 : lw_okq (⟨"ThousandLeafletsModel", "isAlike", "(II)Z"⟩, 48) := ⟨⟨by decide +kernel, by decide +kernel⟩, List.mem_of_getElem? (i := 1153) (by decide +kernel), List.mem_of_getElem? (i := 1683) (by decide +kernel), List.mem_of_getElem? (i := 1684) (by decide +kernel)⟩
theorem lw_p104 : lw_okq (⟨"ThousandLeafletsModel", "needsOf", "(II)I"⟩, 48) := ⟨⟨by decide +kernel, by decide +kernel⟩, List.mem_of_getElem? (i := 1153) (by decide +kernel), List.mem_of_getElem? (i := 1691) (by decide +kernel), List.mem_of_getElem? (i := 1692) (by decide +kernel)⟩
theorem lw_p105 : lw_okq (⟨"ThousandLeafletsModel", "allHouses", "()I"⟩, 48) := ⟨⟨by decide +kernel, by decide +kernel⟩, List.mem_of_getElem? (i := 1153) (by decide +kernel), List.mem_of_getElem? (i := 1699) (by decide +kernel), List.mem_of_getElem? (i := 1700) (by decide +kernel)⟩
def lw_privs_7 : List (MethodName × Nat) := [(⟨"ThousandLeafletsModel", "givesAll", "(II)Z"⟩, 48), (⟨"ThousandLeafletsModel", "areChances", "(III)Z"⟩, 48), (⟨"ThousandLeafletsModel", "keepsSets", "(II)V"⟩, 48), (⟨"ThousandLeafletsModel", "chancesOf", "(IIII)I"⟩, 48), (⟨"ThousandLeafletsModel", "agreesBy", "(III)Z"⟩, 48), (⟨"ThousandLeafletsModel", "falls", "(III)Z"⟩, 48), (⟨"ThousandLeafletsModel", "hasAlike", "(II)Z"⟩, 48), (⟨"ThousandLeafletsModel", "isAlike", "(II)Z"⟩, 48), (⟨"ThousandLeafletsModel", "needsOf", "(II)I"⟩, 48), (⟨"ThousandLeafletsModel", "allHouses", "()I"⟩, 48)]
theorem lw_r7 : ∀ q ∈ lw_privs_7, lw_okq q := List.forall_mem_cons.mpr ⟨lw_p96, List.forall_mem_cons.mpr ⟨lw_p97, List.forall_mem_cons.mpr ⟨lw_p98, List.forall_mem_cons.mpr ⟨lw_p99, List.forall_mem_cons.mpr ⟨lw_p100, List.forall_mem_cons.mpr ⟨lw_p101, List.forall_mem_cons.mpr ⟨lw_p102, List.forall_mem_cons.mpr ⟨lw_p103, List.forall_mem_cons.mpr ⟨lw_p104, List.forall_mem_cons.mpr ⟨lw_p105, fun _ h => absurd h List.not_mem_nil⟩⟩⟩⟩⟩⟩⟩⟩⟩⟩
def lw_privs : List (MethodName × Nat) := lw_privs_1 ++ (lw_privs_2 ++ (lw_privs_3 ++ (lw_privs_4 ++ (lw_privs_5 ++ (lw_privs_6 ++ (lw_privs_7))))))
def lw_tbl : List Cond := k2_sels lw_privs ++ tables_1
theorem lw_privs_ok : ∀ q ∈ lw_privs, lw_okq q := by
  show ∀ q ∈ lw_privs_1 ++ (lw_privs_2 ++ (lw_privs_3 ++ (lw_privs_4 ++ (lw_privs_5 ++ (lw_privs_6 ++ (lw_privs_7)))))), lw_okq q
  exact List.forall_mem_append.mpr ⟨lw_r1, List.forall_mem_append.mpr ⟨lw_r2, List.forall_mem_append.mpr ⟨lw_r3, List.forall_mem_append.mpr ⟨lw_r4, List.forall_mem_append.mpr ⟨lw_r5, List.forall_mem_append.mpr ⟨lw_r6, lw_r7⟩⟩⟩⟩⟩⟩
def RX0 : String := "ThousandLeaflets$Basis"
def TX0 : u_T := fun k => match k with
  | 0 => ("ThousandLeaflets$Basis", "row", "[I", true)
  | 1 => ("ThousandLeaflets$Basis", "lead", "[I", true)
  | 2 => ("ThousandLeaflets$Basis", "rank", "I", false)
  | _ => ("ThousandLeaflets$Basis", "agrees", "Z", false)
def tyX0 : Nat → FieldType := fun k => match k with
  | 0 => .array .int
  | 1 => .array .int
  | 2 => .int
  | _ => .boolean
theorem nmX0 : ∀ a, a < 4 → ∀ b, b < 4 → a ≠ b → (TX0 a).2.1 ≠ (TX0 b).2.1 := by decide +kernel
theorem tyX0_ok : ∀ k, k < 4 → parseFieldDescriptor (TX0 k).2.2.1 = some (tyX0 k) := by decide +kernel
abbrev cX0_init : ByteArray := prog_2_method_1_code
def yX0_init : MethodName := ⟨RX0, "<init>", "()V"⟩
abbrev cX0_take : ByteArray := prog_2_method_2_code
def yX0_take : MethodName := ⟨RX0, "take", "(LThousandLeaflets$Equations;I)V"⟩
abbrev cX0_add : ByteArray := prog_2_method_3_code
def yX0_add : MethodName := ⟨RX0, "add", "(I)V"⟩
abbrev cX0_cut : ByteArray := prog_2_method_4_code
def yX0_cut : MethodName := ⟨RX0, "cut", "(I)V"⟩
abbrev cX0_reduce : ByteArray := prog_2_method_5_code
def yX0_reduce : MethodName := ⟨RX0, "reduce", "(I)I"⟩
abbrev cX0_octetOf : ByteArray := prog_2_method_6_code
def yX0_octetOf : MethodName := ⟨RX0, "octetOf", "(I)I"⟩
abbrev cX0_fixedPages : ByteArray := prog_2_method_7_code
def yX0_fixedPages : MethodName := ⟨RX0, "fixedPages", "(I)I"⟩
def RX1 : String := "ThousandLeaflets$Book"
def TX1 : u_T := fun k => match k with
  | 0 => ("ThousandLeaflets$Book", "index", "I", true)
  | 1 => ("ThousandLeaflets$Book", "value", "[I", true)
  | 2 => ("ThousandLeaflets$Book", "draw", "LThousandLeaflets$Draw;", true)
  | 3 => ("ThousandLeaflets$Book", "drawn", "[I", true)
  | 4 => ("ThousandLeaflets$Book", "told", "Z", false)
  | 5 => ("ThousandLeaflets$Book", "pages", "I", false)
  | _ => ("ThousandLeaflets$Book", "dice", "I", false)
def tyX1 : Nat → FieldType := fun k => match k with
  | 0 => .int
  | 1 => .array .int
  | 2 => .object "ThousandLeaflets$Draw"
  | 3 => .array .int
  | 4 => .boolean
  | 5 => .int
  | _ => .int
theorem nmX1 : ∀ a, a < 7 → ∀ b, b < 7 → a ≠ b → (TX1 a).2.1 ≠ (TX1 b).2.1 := by decide +kernel
theorem tyX1_ok : ∀ k, k < 7 → parseFieldDescriptor (TX1 k).2.2.1 = some (tyX1 k) := by decide +kernel
abbrev cX1_init : ByteArray := prog_3_method_1_code
def yX1_init : MethodName := ⟨RX1, "<init>", "(I)V"⟩
abbrev cX1_tell : ByteArray := prog_3_method_2_code
def yX1_tell : MethodName := ⟨RX1, "tell", "(I)V"⟩
abbrev cX1_changeDraw : ByteArray := prog_3_method_3_code
def yX1_changeDraw : MethodName := ⟨RX1, "changeDraw", "(LThousandLeaflets$Draw;)V"⟩
abbrev cX1_forgetDrawn : ByteArray := prog_3_method_4_code
def yX1_forgetDrawn : MethodName := ⟨RX1, "forgetDrawn", "()V"⟩
abbrev cX1_all : ByteArray := prog_3_method_5_code
def yX1_all : MethodName := ⟨RX1, "all", "()I"⟩
abbrev cX1_allBits : ByteArray := prog_3_method_6_code
def yX1_allBits : MethodName := ⟨RX1, "allBits", "()I"⟩
abbrev cX1_withoutHidden : ByteArray := prog_3_method_7_code
def yX1_withoutHidden : MethodName := ⟨RX1, "withoutHidden", "(I)I"⟩
abbrev cX1_sumOf : ByteArray := prog_3_method_8_code
def yX1_sumOf : MethodName := ⟨RX1, "sumOf", "(I)I"⟩
abbrev cX1_sealOf : ByteArray := prog_3_method_9_code
def yX1_sealOf : MethodName := ⟨RX1, "sealOf", "(II)I"⟩
abbrev cX1_pagesOf : ByteArray := prog_3_method_10_code
def yX1_pagesOf : MethodName := ⟨RX1, "pagesOf", "(I)I"⟩
abbrev cX1_drawPages : ByteArray := prog_3_method_11_code
def yX1_drawPages : MethodName := ⟨RX1, "drawPages", "(II)I"⟩
abbrev cX1_cast : ByteArray := prog_3_method_12_code
def yX1_cast : MethodName := ⟨RX1, "cast", "(I)I"⟩
abbrev cX1_castDegree : ByteArray := prog_3_method_13_code
def yX1_castDegree : MethodName := ⟨RX1, "castDegree", "(I)I"⟩
abbrev cX1_howMany : ByteArray := prog_3_method_14_code
def yX1_howMany : MethodName := ⟨RX1, "howMany", "(I)I"⟩
abbrev cX1_weightOf : ByteArray := prog_3_method_15_code
def yX1_weightOf : MethodName := ⟨RX1, "weightOf", "(I)I"⟩
abbrev cX1_pickBeside : ByteArray := prog_3_method_16_code
def yX1_pickBeside : MethodName := ⟨RX1, "pickBeside", "(III)I"⟩
abbrev cX1_leafletPaper : ByteArray := prog_3_method_17_code
def yX1_leafletPaper : MethodName := ⟨RX1, "leafletPaper", "(II)LThousandLeaflets$Paper;"⟩
abbrev cX1_paperOf : ByteArray := prog_3_method_18_code
def yX1_paperOf : MethodName := ⟨RX1, "paperOf", "(IIIII)LThousandLeaflets$Paper;"⟩
def RX2 : String := "ThousandLeaflets$Coming"
def TX2 : u_T := fun k => match k with
  | 0 => ("ThousandLeaflets$Coming", "lowRow", "[I", true)
  | 1 => ("ThousandLeaflets$Coming", "highRow", "[I", true)
  | 2 => ("ThousandLeaflets$Coming", "low", "LThousandLeaflets$Basis;", true)
  | 3 => ("ThousandLeaflets$Coming", "high", "LThousandLeaflets$Basis;", true)
  | 4 => ("ThousandLeaflets$Coming", "all", "I", false)
  | 5 => ("ThousandLeaflets$Coming", "least", "I", false)
  | _ => ("ThousandLeaflets$Coming", "found", "I", false)
def tyX2 : Nat → FieldType := fun k => match k with
  | 0 => .array .int
  | 1 => .array .int
  | 2 => .object "ThousandLeaflets$Basis"
  | 3 => .object "ThousandLeaflets$Basis"
  | 4 => .int
  | 5 => .int
  | _ => .int
theorem nmX2 : ∀ a, a < 7 → ∀ b, b < 7 → a ≠ b → (TX2 a).2.1 ≠ (TX2 b).2.1 := by decide +kernel
theorem tyX2_ok : ∀ k, k < 7 → parseFieldDescriptor (TX2 k).2.2.1 = some (tyX2 k) := by decide +kernel
abbrev cX2_init : ByteArray := prog_4_method_1_code
def yX2_init : MethodName := ⟨RX2, "<init>", "()V"⟩
abbrev cX2_find : ByteArray := prog_4_method_2_code
def yX2_find : MethodName := ⟨RX2, "find", "(LThousandLeaflets$Book;LThousandLeaflets$Equations;LThousandLeaflets$Equations;)Z"⟩
abbrev cX2_seek : ByteArray := prog_4_method_3_code
def yX2_seek : MethodName := ⟨RX2, "seek", "(III)V"⟩
def RX3 : String := "ThousandLeaflets$Draw"
def TX3 : u_T := fun k => match k with
  | 0 => ("ThousandLeaflets$Draw", "odds", "[I", true)
  | 1 => ("ThousandLeaflets$Draw", "sum", "[I", true)
  | 2 => ("ThousandLeaflets$Draw", "sums", "I", false)
  | 3 => ("ThousandLeaflets$Draw", "firstBelow", "I", false)
  | 4 => ("ThousandLeaflets$Draw", "firstWeight", "I", false)
  | _ => ("ThousandLeaflets$Draw", "seal", "I", false)
def tyX3 : Nat → FieldType := fun k => match k with
  | 0 => .array .int
  | 1 => .array .int
  | 2 => .int
  | 3 => .int
  | 4 => .int
  | _ => .int
theorem nmX3 : ∀ a, a < 6 → ∀ b, b < 6 → a ≠ b → (TX3 a).2.1 ≠ (TX3 b).2.1 := by decide +kernel
theorem tyX3_ok : ∀ k, k < 6 → parseFieldDescriptor (TX3 k).2.2.1 = some (tyX3 k) := by decide +kernel
abbrev cX3_init : ByteArray := prog_5_method_1_code
def yX3_init : MethodName := ⟨RX3, "<init>", "()V"⟩
abbrev cX3_clear : ByteArray := prog_5_method_2_code
def yX3_clear : MethodName := ⟨RX3, "clear", "()V"⟩
abbrev cX3_copy : ByteArray := prog_5_method_3_code
def yX3_copy : MethodName := ⟨RX3, "copy", "(LThousandLeaflets$Draw;)V"⟩
abbrev cX3_oddsOf : ByteArray := prog_5_method_4_code
def yX3_oddsOf : MethodName := ⟨RX3, "oddsOf", "(I)I"⟩
def RX4 : String := "ThousandLeaflets$DrawReader"
def TX4 : u_T := fun k => match k with
  | 0 => ("ThousandLeaflets$DrawReader", "tape", "LThousandLeaflets$Tape;", true)
  | _ => ("ThousandLeaflets$DrawReader", "draft", "LThousandLeaflets$Draw;", true)
def tyX4 : Nat → FieldType := fun k => match k with
  | 0 => .object "ThousandLeaflets$Tape"
  | _ => .object "ThousandLeaflets$Draw"
theorem nmX4 : ∀ a, a < 2 → ∀ b, b < 2 → a ≠ b → (TX4 a).2.1 ≠ (TX4 b).2.1 := by decide +kernel
theorem tyX4_ok : ∀ k, k < 2 → parseFieldDescriptor (TX4 k).2.2.1 = some (tyX4 k) := by decide +kernel
abbrev cX4_init : ByteArray := prog_6_method_1_code
def yX4_init : MethodName := ⟨RX4, "<init>", "()V"⟩
abbrev cX4_faultFor : ByteArray := prog_6_method_2_code
def yX4_faultFor : MethodName := ⟨RX4, "faultFor", "(I)I"⟩
abbrev cX4_statementFault : ByteArray := prog_6_method_3_code
def yX4_statementFault : MethodName := ⟨RX4, "statementFault", "(I)I"⟩
abbrev cX4_oddsFault : ByteArray := prog_6_method_4_code
def yX4_oddsFault : MethodName := ⟨RX4, "oddsFault", "()I"⟩
abbrev cX4_firstFault : ByteArray := prog_6_method_5_code
def yX4_firstFault : MethodName := ⟨RX4, "firstFault", "()I"⟩
abbrev cX4_sealFault : ByteArray := prog_6_method_6_code
def yX4_sealFault : MethodName := ⟨RX4, "sealFault", "()I"⟩
abbrev cX4_sumFault : ByteArray := prog_6_method_7_code
def yX4_sumFault : MethodName := ⟨RX4, "sumFault", "(I)I"⟩
abbrev cX4_numberFault : ByteArray := prog_6_method_8_code
def yX4_numberFault : MethodName := ⟨RX4, "numberFault", "(II)I"⟩
abbrev cX4_endFault : ByteArray := prog_6_method_9_code
def yX4_endFault : MethodName := ⟨RX4, "endFault", "()I"⟩
abbrev cX4_wrong : ByteArray := prog_6_method_10_code
def yX4_wrong : MethodName := ⟨RX4, "wrong", "(I)I"⟩
def RX5 : String := "ThousandLeaflets$Equations"
def TX5 : u_T := fun k => match k with
  | 0 => ("ThousandLeaflets$Equations", "row", "[I", true)
  | 1 => ("ThousandLeaflets$Equations", "place", "[I", true)
  | 2 => ("ThousandLeaflets$Equations", "read", "[I", true)
  | 3 => ("ThousandLeaflets$Equations", "touched", "[J", true)
  | 4 => ("ThousandLeaflets$Equations", "size", "I", false)
  | _ => ("ThousandLeaflets$Equations", "hidden", "I", false)
def tyX5 : Nat → FieldType := fun k => match k with
  | 0 => .array .int
  | 1 => .array .int
  | 2 => .array .int
  | 3 => .array .long
  | 4 => .int
  | _ => .int
theorem nmX5 : ∀ a, a < 6 → ∀ b, b < 6 → a ≠ b → (TX5 a).2.1 ≠ (TX5 b).2.1 := by decide +kernel
theorem tyX5_ok : ∀ k, k < 6 → parseFieldDescriptor (TX5 k).2.2.1 = some (tyX5 k) := by decide +kernel
abbrev cX5_init : ByteArray := prog_7_method_1_code
def yX5_init : MethodName := ⟨RX5, "<init>", "()V"⟩
abbrev cX5_startWith : ByteArray := prog_7_method_2_code
def yX5_startWith : MethodName := ⟨RX5, "startWith", "(LThousandLeaflets$Book;)V"⟩
abbrev cX5_add : ByteArray := prog_7_method_3_code
def yX5_add : MethodName := ⟨RX5, "add", "(II)V"⟩
abbrev cX5_cut : ByteArray := prog_7_method_4_code
def yX5_cut : MethodName := ⟨RX5, "cut", "(I)V"⟩
abbrev cX5_unknownOf : ByteArray := prog_7_method_5_code
def yX5_unknownOf : MethodName := ⟨RX5, "unknownOf", "(II)I"⟩
abbrev cX5_spread : ByteArray := prog_7_method_6_code
def yX5_spread : MethodName := ⟨RX5, "spread", "(I)I"⟩
abbrev cX5_peel : ByteArray := prog_7_method_7_code
def yX5_peel : MethodName := ⟨RX5, "peel", "()I"⟩
abbrev cX5_firstWithOneUnknown : ByteArray := prog_7_method_8_code
def yX5_firstWithOneUnknown : MethodName := ⟨RX5, "firstWithOneUnknown", "(I)I"⟩
abbrev cX5_restOf : ByteArray := prog_7_method_9_code
def yX5_restOf : MethodName := ⟨RX5, "restOf", "(II)I"⟩
abbrev cX5_quarrels : ByteArray := prog_7_method_10_code
def yX5_quarrels : MethodName := ⟨RX5, "quarrels", "(I)I"⟩
abbrev cX5_work : ByteArray := prog_7_method_11_code
def yX5_work : MethodName := ⟨RX5, "work", "(I)I"⟩
abbrev cX5_left : ByteArray := prog_7_method_12_code
def yX5_left : MethodName := ⟨RX5, "left", "(I)I"⟩
abbrev cX5_fewestGuarding : ByteArray := prog_7_method_13_code
def yX5_fewestGuarding : MethodName := ⟨RX5, "fewestGuarding", "(LThousandLeaflets$Book;I)I"⟩
abbrev cX5_touchPapers : ByteArray := prog_7_method_14_code
def yX5_touchPapers : MethodName := ⟨RX5, "touchPapers", "(LThousandLeaflets$Book;)V"⟩
abbrev cX5_fewestTouched : ByteArray := prog_7_method_15_code
def yX5_fewestTouched : MethodName := ⟨RX5, "fewestTouched", "(JI)I"⟩
def RX6 : String := "ThousandLeaflets$Heap"
def TX6 : u_T := fun k => match k with
  | 0 => ("ThousandLeaflets$Heap", "papers", "[LThousandLeaflets$Paper;", true)
  | _ => ("ThousandLeaflets$Heap", "size", "I", false)
def tyX6 : Nat → FieldType := fun k => match k with
  | 0 => .array (.object "ThousandLeaflets$Paper")
  | _ => .int
theorem nmX6 : ∀ a, a < 2 → ∀ b, b < 2 → a ≠ b → (TX6 a).2.1 ≠ (TX6 b).2.1 := by decide +kernel
theorem tyX6_ok : ∀ k, k < 2 → parseFieldDescriptor (TX6 k).2.2.1 = some (tyX6 k) := by decide +kernel
abbrev cX6_init : ByteArray := prog_8_method_1_code
def yX6_init : MethodName := ⟨RX6, "<init>", "()V"⟩
abbrev cX6_at : ByteArray := prog_8_method_2_code
def yX6_at : MethodName := ⟨RX6, "at", "(I)LThousandLeaflets$Paper;"⟩
abbrev cX6_put : ByteArray := prog_8_method_3_code
def yX6_put : MethodName := ⟨RX6, "put", "(LThousandLeaflets$Paper;)I"⟩
abbrev cX6_unnamed : ByteArray := prog_8_method_4_code
def yX6_unnamed : MethodName := ⟨RX6, "unnamed", "()I"⟩
abbrev cX6_hasAlike : ByteArray := prog_8_method_5_code
def yX6_hasAlike : MethodName := ⟨RX6, "hasAlike", "(LThousandLeaflets$Paper;)Z"⟩
abbrev cX6_touches : ByteArray := prog_8_method_6_code
def yX6_touches : MethodName := ⟨RX6, "touches", "(I)Z"⟩
abbrev cX6_isTouching : ByteArray := prog_8_method_7_code
def yX6_isTouching : MethodName := ⟨RX6, "isTouching", "(LThousandLeaflets$Paper;I)Z"⟩
abbrev cX6_drop : ByteArray := prog_8_method_8_code
def yX6_drop : MethodName := ⟨RX6, "drop", "(I)V"⟩
abbrev cX6_dropTouching : ByteArray := prog_8_method_9_code
def yX6_dropTouching : MethodName := ⟨RX6, "dropTouching", "(I)V"⟩
abbrev cX6_copy : ByteArray := prog_8_method_10_code
def yX6_copy : MethodName := ⟨RX6, "copy", "(LThousandLeaflets$Heap;)V"⟩
def RX7 : String := "ThousandLeaflets$Paper"
def TX7 : u_T := fun k => match k with
  | 0 => ("ThousandLeaflets$Paper", "book", "I", true)
  | 1 => ("ThousandLeaflets$Paper", "number", "I", true)
  | 2 => ("ThousandLeaflets$Paper", "sum", "I", true)
  | 3 => ("ThousandLeaflets$Paper", "bytes", "I", true)
  | 4 => ("ThousandLeaflets$Paper", "seal", "I", true)
  | 5 => ("ThousandLeaflets$Paper", "pages0", "I", true)
  | _ => ("ThousandLeaflets$Paper", "pages1", "I", true)
def tyX7 : Nat → FieldType := fun k => match k with
  | 0 => .int
  | 1 => .int
  | 2 => .int
  | 3 => .int
  | 4 => .int
  | 5 => .int
  | _ => .int
theorem nmX7 : ∀ a, a < 7 → ∀ b, b < 7 → a ≠ b → (TX7 a).2.1 ≠ (TX7 b).2.1 := by decide +kernel
theorem tyX7_ok : ∀ k, k < 7 → parseFieldDescriptor (TX7 k).2.2.1 = some (tyX7 k) := by decide +kernel
abbrev cX7_init : ByteArray := prog_9_method_1_code
def yX7_init : MethodName := ⟨RX7, "<init>", "(IIIIIII)V"⟩
abbrev cX7_pagesBy : ByteArray := prog_9_method_2_code
def yX7_pagesBy : MethodName := ⟨RX7, "pagesBy", "(I)I"⟩
abbrev cX7_hasOctet : ByteArray := prog_9_method_3_code
def yX7_hasOctet : MethodName := ⟨RX7, "hasOctet", "(I)Z"⟩
abbrev cX7_equation : ByteArray := prog_9_method_4_code
def yX7_equation : MethodName := ⟨RX7, "equation", "(II)I"⟩
abbrev cX7_isAlike : ByteArray := prog_9_method_5_code
def yX7_isAlike : MethodName := ⟨RX7, "isAlike", "(LThousandLeaflets$Paper;)Z"⟩
def RX8 : String := "ThousandLeaflets$Sets"
def TX8 : u_T := fun k => match k with
  | 0 => ("ThousandLeaflets$Sets", "giving", "[I", true)
  | 1 => ("ThousandLeaflets$Sets", "leaflets", "[I", true)
  | 2 => ("ThousandLeaflets$Sets", "chosen", "LThousandLeaflets$Equations;", true)
  | 3 => ("ThousandLeaflets$Sets", "basis", "LThousandLeaflets$Basis;", true)
  | 4 => ("ThousandLeaflets$Sets", "m", "I", false)
  | 5 => ("ThousandLeaflets$Sets", "how", "I", false)
  | 6 => ("ThousandLeaflets$Sets", "all", "I", false)
  | _ => ("ThousandLeaflets$Sets", "allBits", "I", false)
def tyX8 : Nat → FieldType := fun k => match k with
  | 0 => .array .int
  | 1 => .array .int
  | 2 => .object "ThousandLeaflets$Equations"
  | 3 => .object "ThousandLeaflets$Basis"
  | 4 => .int
  | 5 => .int
  | 6 => .int
  | _ => .int
theorem nmX8 : ∀ a, a < 8 → ∀ b, b < 8 → a ≠ b → (TX8 a).2.1 ≠ (TX8 b).2.1 := by decide +kernel
theorem tyX8_ok : ∀ k, k < 8 → parseFieldDescriptor (TX8 k).2.2.1 = some (tyX8 k) := by decide +kernel
abbrev cX8_init : ByteArray := prog_10_method_1_code
def yX8_init : MethodName := ⟨RX8, "<init>", "()V"⟩
abbrev cX8_tally : ByteArray := prog_10_method_2_code
def yX8_tally : MethodName := ⟨RX8, "tally", "(LThousandLeaflets$Book;III)V"⟩
abbrev cX8_walk : ByteArray := prog_10_method_3_code
def yX8_walk : MethodName := ⟨RX8, "walk", "(III)V"⟩
abbrev cX8_addAllWith : ByteArray := prog_10_method_4_code
def yX8_addAllWith : MethodName := ⟨RX8, "addAllWith", "(II)V"⟩
def RX9 : String := "ThousandLeaflets$Tape"
def TX9 : u_T := fun k => match k with
  | 0 => ("ThousandLeaflets$Tape", "sign", "[I", true)
  | 1 => ("ThousandLeaflets$Tape", "length", "I", false)
  | 2 => ("ThousandLeaflets$Tape", "kind", "I", false)
  | 3 => ("ThousandLeaflets$Tape", "start", "I", false)
  | 4 => ("ThousandLeaflets$Tape", "past", "I", false)
  | _ => ("ThousandLeaflets$Tape", "number", "I", false)
def tyX9 : Nat → FieldType := fun k => match k with
  | 0 => .array .int
  | 1 => .int
  | 2 => .int
  | 3 => .int
  | 4 => .int
  | _ => .int
theorem nmX9 : ∀ a, a < 6 → ∀ b, b < 6 → a ≠ b → (TX9 a).2.1 ≠ (TX9 b).2.1 := by decide +kernel
theorem tyX9_ok : ∀ k, k < 6 → parseFieldDescriptor (TX9 k).2.2.1 = some (tyX9 k) := by decide +kernel
abbrev cX9_init : ByteArray := prog_11_method_1_code
def yX9_init : MethodName := ⟨RX9, "<init>", "()V"⟩
abbrev cX9_takeEight : ByteArray := prog_11_method_2_code
def yX9_takeEight : MethodName := ⟨RX9, "takeEight", "(J)V"⟩
abbrev cX9_rewind : ByteArray := prog_11_method_3_code
def yX9_rewind : MethodName := ⟨RX9, "rewind", "()V"⟩
abbrev cX9_next : ByteArray := prog_11_method_4_code
def yX9_next : MethodName := ⟨RX9, "next", "()V"⟩
abbrev cX9_takeRun : ByteArray := prog_11_method_5_code
def yX9_takeRun : MethodName := ⟨RX9, "takeRun", "(II)V"⟩
abbrev cX9_numberHere : ByteArray := prog_11_method_6_code
def yX9_numberHere : MethodName := ⟨RX9, "numberHere", "()I"⟩
abbrev cX9_isWord : ByteArray := prog_11_method_7_code
def yX9_isWord : MethodName := ⟨RX9, "isWord", "(Ljava/lang/String;)Z"⟩
def RX10 : String := "ThousandLeaflets$Ways"
def TX10 : u_T := fun k => match k with
  | 0 => ("ThousandLeaflets$Ways", "nameless", "[LThousandLeaflets$Paper;", true)
  | 1 => ("ThousandLeaflets$Ways", "places", "[I", true)
  | 2 => ("ThousandLeaflets$Ways", "bases", "[LThousandLeaflets$Basis;", true)
  | 3 => ("ThousandLeaflets$Ways", "size", "I", false)
  | 4 => ("ThousandLeaflets$Ways", "everOf0", "I", false)
  | _ => ("ThousandLeaflets$Ways", "everOf1", "I", false)
def tyX10 : Nat → FieldType := fun k => match k with
  | 0 => .array (.object "ThousandLeaflets$Paper")
  | 1 => .array .int
  | 2 => .array (.object "ThousandLeaflets$Basis")
  | 3 => .int
  | 4 => .int
  | _ => .int
theorem nmX10 : ∀ a, a < 6 → ∀ b, b < 6 → a ≠ b → (TX10 a).2.1 ≠ (TX10 b).2.1 := by decide +kernel
theorem tyX10_ok : ∀ k, k < 6 → parseFieldDescriptor (TX10 k).2.2.1 = some (tyX10 k) := by decide +kernel
abbrev cX10_init : ByteArray := prog_12_method_1_code
def yX10_init : MethodName := ⟨RX10, "<init>", "()V"⟩
abbrev cX10_basisOf : ByteArray := prog_12_method_2_code
def yX10_basisOf : MethodName := ⟨RX10, "basisOf", "(II)LThousandLeaflets$Basis;"⟩
abbrev cX10_findAll : ByteArray := prog_12_method_3_code
def yX10_findAll : MethodName := ⟨RX10, "findAll", "(LThousandLeaflets$Heap;)V"⟩
abbrev cX10_allAgree : ByteArray := prog_12_method_4_code
def yX10_allAgree : MethodName := ⟨RX10, "allAgree", "()Z"⟩
abbrev cX10_give : ByteArray := prog_12_method_5_code
def yX10_give : MethodName := ⟨RX10, "give", "(II)V"⟩
abbrev cX10_tryBook : ByteArray := prog_12_method_6_code
def yX10_tryBook : MethodName := ⟨RX10, "tryBook", "(IILThousandLeaflets$Paper;I)V"⟩
abbrev cX10_bookAt : ByteArray := prog_12_method_7_code
def yX10_bookAt : MethodName := ⟨RX10, "bookAt", "(I)I"⟩
def RX11 : String := "ThousandLeaflets"
def TX11 : u_T := fun k => match k with
  | 0 => ("ThousandLeaflets", "books", "[LThousandLeaflets$Book;", true)
  | 1 => ("ThousandLeaflets", "heaps", "[LThousandLeaflets$Heap;", true)
  | 2 => ("ThousandLeaflets", "kept", "[LThousandLeaflets$Heap;", true)
  | 3 => ("ThousandLeaflets", "marked", "[Z", true)
  | 4 => ("ThousandLeaflets", "burns", "[I", true)
  | 5 => ("ThousandLeaflets", "houses", "[I", true)
  | 6 => ("ThousandLeaflets", "needed", "[I", true)
  | 7 => ("ThousandLeaflets", "reader", "LThousandLeaflets$DrawReader;", true)
  | 8 => ("ThousandLeaflets", "equations", "[LThousandLeaflets$Equations;", true)
  | 9 => ("ThousandLeaflets", "bases", "[LThousandLeaflets$Basis;", true)
  | 10 => ("ThousandLeaflets", "sets", "LThousandLeaflets$Sets;", true)
  | 11 => ("ThousandLeaflets", "coming", "LThousandLeaflets$Coming;", true)
  | 12 => ("ThousandLeaflets", "ways", "LThousandLeaflets$Ways;", true)
  | _ => ("ThousandLeaflets", "thrownOut", "I", false)
def tyX11 : Nat → FieldType := fun k => match k with
  | 0 => .array (.object "ThousandLeaflets$Book")
  | 1 => .array (.object "ThousandLeaflets$Heap")
  | 2 => .array (.object "ThousandLeaflets$Heap")
  | 3 => .array .boolean
  | 4 => .array .int
  | 5 => .array .int
  | 6 => .array .int
  | 7 => .object "ThousandLeaflets$DrawReader"
  | 8 => .array (.object "ThousandLeaflets$Equations")
  | 9 => .array (.object "ThousandLeaflets$Basis")
  | 10 => .object "ThousandLeaflets$Sets"
  | 11 => .object "ThousandLeaflets$Coming"
  | 12 => .object "ThousandLeaflets$Ways"
  | _ => .int
theorem nmX11 : ∀ a, a < 14 → ∀ b, b < 14 → a ≠ b → (TX11 a).2.1 ≠ (TX11 b).2.1 := by decide +kernel
theorem tyX11_ok : ∀ k, k < 14 → parseFieldDescriptor (TX11 k).2.2.1 = some (tyX11 k) := by decide +kernel
abbrev cX11_init : ByteArray := prog_1_method_1_code
def yX11_init : MethodName := ⟨RX11, "<init>", "()V"⟩
abbrev cX11_book : ByteArray := prog_1_method_2_code
def yX11_book : MethodName := ⟨RX11, "book", "(II)Z"⟩
abbrev cX11_page : ByteArray := prog_1_method_3_code
def yX11_page : MethodName := ⟨RX11, "page", "(III)Z"⟩
abbrev cX11_feed : ByteArray := prog_1_method_4_code
def yX11_feed : MethodName := ⟨RX11, "feed", "(JJJ)I"⟩
abbrev cX11_draw : ByteArray := prog_1_method_5_code
def yX11_draw : MethodName := ⟨RX11, "draw", "(I)I"⟩
abbrev cX11_leaflet : ByteArray := prog_1_method_6_code
def yX11_leaflet : MethodName := ⟨RX11, "leaflet", "(III)I"⟩
abbrev cX11_told : ByteArray := prog_1_method_7_code
def yX11_told : MethodName := ⟨RX11, "told", "(II)I"⟩
abbrev cX11_comes : ByteArray := prog_1_method_8_code
def yX11_comes : MethodName := ⟨RX11, "comes", "(IIII)I"⟩
abbrev cX11_slip : ByteArray := prog_1_method_9_code
def yX11_slip : MethodName := ⟨RX11, "slip", "(IIII)I"⟩
abbrev cX11_forged : ByteArray := prog_1_method_10_code
def yX11_forged : MethodName := ⟨RX11, "forged", "(IIIII)I"⟩
abbrev cX11_nameless : ByteArray := prog_1_method_11_code
def yX11_nameless : MethodName := ⟨RX11, "nameless", "(III)I"⟩
abbrev cX11_paper : ByteArray := prog_1_method_12_code
def yX11_paper : MethodName := ⟨RX11, "paper", "(III)I"⟩
abbrev cX11_away : ByteArray := prog_1_method_13_code
def yX11_away : MethodName := ⟨RX11, "away", "(II)Z"⟩
abbrev cX11_peels : ByteArray := prog_1_method_14_code
def yX11_peels : MethodName := ⟨RX11, "peels", "(IIII)I"⟩
abbrev cX11_solves : ByteArray := prog_1_method_15_code
def yX11_solves : MethodName := ⟨RX11, "solves", "(IIII)I"⟩
abbrev cX11_read : ByteArray := prog_1_method_16_code
def yX11_read : MethodName := ⟨RX11, "read", "(IIII)I"⟩
abbrev cX11_soon : ByteArray := prog_1_method_17_code
def yX11_soon : MethodName := ⟨RX11, "soon", "(IIII)I"⟩
abbrev cX11_slipped : ByteArray := prog_1_method_18_code
def yX11_slipped : MethodName := ⟨RX11, "slipped", "(IIII)I"⟩
abbrev cX11_right : ByteArray := prog_1_method_19_code
def yX11_right : MethodName := ⟨RX11, "right", "(IIII)I"⟩
abbrev cX11_doubles : ByteArray := prog_1_method_20_code
def yX11_doubles : MethodName := ⟨RX11, "doubles", "(III)I"⟩
abbrev cX11_guard : ByteArray := prog_1_method_21_code
def yX11_guard : MethodName := ⟨RX11, "guard", "(IIII)I"⟩
abbrev cX11_tocome : ByteArray := prog_1_method_22_code
def yX11_tocome : MethodName := ⟨RX11, "tocome", "(III)I"⟩
abbrev cX11_chances : ByteArray := prog_1_method_23_code
def yX11_chances : MethodName := ⟨RX11, "chances", "(IIII)I"⟩
abbrev cX11_enough : ByteArray := prog_1_method_24_code
def yX11_enough : MethodName := ⟨RX11, "enough", "(IIIZ)I"⟩
abbrev cX11_average : ByteArray := prog_1_method_25_code
def yX11_average : MethodName := ⟨RX11, "average", "(IIII)J"⟩
abbrev cX11_degree : ByteArray := prog_1_method_26_code
def yX11_degree : MethodName := ⟨RX11, "degree", "(IIII)I"⟩
abbrev cX11_apart : ByteArray := prog_1_method_27_code
def yX11_apart : MethodName := ⟨RX11, "apart", "(II)I"⟩
abbrev cX11_quarter : ByteArray := prog_1_method_28_code
def yX11_quarter : MethodName := ⟨RX11, "quarter", "(III)Z"⟩
abbrev cX11_scatter : ByteArray := prog_1_method_29_code
def yX11_scatter : MethodName := ⟨RX11, "scatter", "(III)I"⟩
abbrev cX11_needs : ByteArray := prog_1_method_30_code
def yX11_needs : MethodName := ⟨RX11, "needs", "(II)I"⟩
abbrev cX11_town : ByteArray := prog_1_method_31_code
def yX11_town : MethodName := ⟨RX11, "town", "(II)I"⟩
abbrev cX11_swap : ByteArray := prog_1_method_32_code
def yX11_swap : MethodName := ⟨RX11, "swap", "(III)I"⟩
abbrev cX11_mark : ByteArray := prog_1_method_33_code
def yX11_mark : MethodName := ⟨RX11, "mark", "(IZ)Z"⟩
abbrev cX11_count : ByteArray := prog_1_method_34_code
def yX11_count : MethodName := ⟨RX11, "count", "(I)I"⟩
abbrev cX11_isBook : ByteArray := prog_1_method_35_code
def yX11_isBook : MethodName := ⟨RX11, "isBook", "(I)Z"⟩
abbrev cX11_isQuarter : ByteArray := prog_1_method_36_code
def yX11_isQuarter : MethodName := ⟨RX11, "isQuarter", "(I)Z"⟩
abbrev cX11_isOctet : ByteArray := prog_1_method_37_code
def yX11_isOctet : MethodName := ⟨RX11, "isOctet", "(I)Z"⟩
abbrev cX11_isNumber : ByteArray := prog_1_method_38_code
def yX11_isNumber : MethodName := ⟨RX11, "isNumber", "(I)Z"⟩
abbrev cX11_isHow : ByteArray := prog_1_method_39_code
def yX11_isHow : MethodName := ⟨RX11, "isHow", "(I)Z"⟩
abbrev cX11_isSetSize : ByteArray := prog_1_method_40_code
def yX11_isSetSize : MethodName := ⟨RX11, "isSetSize", "(II)Z"⟩
abbrev cX11_isTold : ByteArray := prog_1_method_41_code
def yX11_isTold : MethodName := ⟨RX11, "isTold", "(I)Z"⟩
abbrev cX11_isLeaflet : ByteArray := prog_1_method_42_code
def yX11_isLeaflet : MethodName := ⟨RX11, "isLeaflet", "(II)Z"⟩
abbrev cX11_isPageOf : ByteArray := prog_1_method_43_code
def yX11_isPageOf : MethodName := ⟨RX11, "isPageOf", "(II)Z"⟩
abbrev cX11_isTouched : ByteArray := prog_1_method_44_code
def yX11_isTouched : MethodName := ⟨RX11, "isTouched", "(I)Z"⟩
abbrev cX11_paperAt : ByteArray := prog_1_method_45_code
def yX11_paperAt : MethodName := ⟨RX11, "paperAt", "(II)LThousandLeaflets$Paper;"⟩
abbrev cX11_send : ByteArray := prog_1_method_46_code
def yX11_send : MethodName := ⟨RX11, "send", "(ILThousandLeaflets$Book;III)I"⟩
abbrev cX11_forgetMarks : ByteArray := prog_1_method_47_code
def yX11_forgetMarks : MethodName := ⟨RX11, "forgetMarks", "()V"⟩
abbrev cX11_unknownPages : ByteArray := prog_1_method_48_code
def yX11_unknownPages : MethodName := ⟨RX11, "unknownPages", "(ILThousandLeaflets$Paper;)I"⟩
abbrev cX11_gather : ByteArray := prog_1_method_49_code
def yX11_gather : MethodName := ⟨RX11, "gather", "(III)LThousandLeaflets$Equations;"⟩
abbrev cX11_readOctet : ByteArray := prog_1_method_50_code
def yX11_readOctet : MethodName := ⟨RX11, "readOctet", "(IIIII)I"⟩
abbrev cX11_soonPeeled : ByteArray := prog_1_method_51_code
def yX11_soonPeeled : MethodName := ⟨RX11, "soonPeeled", "(III)I"⟩
abbrev cX11_spreadWith : ByteArray := prog_1_method_52_code
def yX11_spreadWith : MethodName := ⟨RX11, "spreadWith", "(LThousandLeaflets$Paper;III)I"⟩
abbrev cX11_soonSolved : ByteArray := prog_1_method_53_code
def yX11_soonSolved : MethodName := ⟨RX11, "soonSolved", "(III)I"⟩
abbrev cX11_falls : ByteArray := prog_1_method_54_code
def yX11_falls : MethodName := ⟨RX11, "falls", "(LThousandLeaflets$Book;II)Z"⟩
abbrev cX11_isRoomAnywhere : ByteArray := prog_1_method_55_code
def yX11_isRoomAnywhere : MethodName := ⟨RX11, "isRoomAnywhere", "()Z"⟩
abbrev cX11_throwOne : ByteArray := prog_1_method_56_code
def yX11_throwOne : MethodName := ⟨RX11, "throwOne", "(LThousandLeaflets$Book;I)I"⟩
abbrev cX11_neededIn : ByteArray := prog_1_method_57_code
def yX11_neededIn : MethodName := ⟨RX11, "neededIn", "(ILThousandLeaflets$Book;)I"⟩
abbrev cX11_allHouses : ByteArray := prog_1_method_58_code
def yX11_allHouses : MethodName := ⟨RX11, "allHouses", "()I"⟩
abbrev cX11_housesServed : ByteArray := prog_1_method_59_code
def yX11_housesServed : MethodName := ⟨RX11, "housesServed", "(I)I"⟩
abbrev cX11_choose : ByteArray := prog_1_method_60_code
def yX11_choose : MethodName := ⟨RX11, "choose", "(II)I"⟩
abbrev cX11_commonDivisor : ByteArray := prog_1_method_61_code
def yX11_commonDivisor : MethodName := ⟨RX11, "commonDivisor", "(JJ)J"⟩
abbrev cX11_lowestPlace : ByteArray := prog_1_method_62_code
def yX11_lowestPlace : MethodName := ⟨RX11, "lowestPlace", "(I)I"⟩
def RX12 : String := "ThousandLeafletsModel"
def TX12 : u_T := fun k => match k with
  | 0 => ("ThousandLeafletsModel", "thrown", "I", false)
  | 1 => ("ThousandLeafletsModel", "tape", "[I", true)
  | 2 => ("ThousandLeafletsModel", "taped", "I", false)
  | 3 => ("ThousandLeafletsModel", "size", "I", false)
  | 4 => ("ThousandLeafletsModel", "sort", "[I", true)
  | 5 => ("ThousandLeafletsModel", "place", "[I", true)
  | 6 => ("ThousandLeafletsModel", "value", "[J", true)
  | 7 => ("ThousandLeafletsModel", "at", "I", false)
  | 8 => ("ThousandLeafletsModel", "fault", "I", false)
  | 9 => ("ThousandLeafletsModel", "words", "[J", true)
  | 10 => ("ThousandLeafletsModel", "pages", "[I", true)
  | 11 => ("ThousandLeafletsModel", "page", "[I", true)
  | 12 => ("ThousandLeafletsModel", "odds", "[I", true)
  | 13 => ("ThousandLeafletsModel", "firstBelow", "[I", true)
  | 14 => ("ThousandLeafletsModel", "firstWeight", "[I", true)
  | 15 => ("ThousandLeafletsModel", "sums", "[I", true)
  | 16 => ("ThousandLeafletsModel", "sumSet", "[I", true)
  | 17 => ("ThousandLeafletsModel", "sealBy", "[I", true)
  | 18 => ("ThousandLeafletsModel", "readPages", "I", false)
  | 19 => ("ThousandLeafletsModel", "seed", "J", false)
  | 20 => ("ThousandLeafletsModel", "sizes", "[I", true)
  | 21 => ("ThousandLeafletsModel", "numberOf", "[I", true)
  | 22 => ("ThousandLeafletsModel", "bookOf", "[I", true)
  | 23 => ("ThousandLeafletsModel", "sumOn", "[I", true)
  | 24 => ("ThousandLeafletsModel", "bytesOn", "[I", true)
  | 25 => ("ThousandLeafletsModel", "sealOn", "[I", true)
  | 26 => ("ThousandLeafletsModel", "isMarked", "[Z", true)
  | 27 => ("ThousandLeafletsModel", "thrownOut", "I", false)
  | 28 => ("ThousandLeafletsModel", "equations", "I", false)
  | 29 => ("ThousandLeafletsModel", "sets", "[I", true)
  | 30 => ("ThousandLeafletsModel", "bytes", "[I", true)
  | 31 => ("ThousandLeafletsModel", "fromPlace", "[I", true)
  | 32 => ("ThousandLeafletsModel", "isLeft", "[Z", true)
  | 33 => ("ThousandLeafletsModel", "peeled", "I", false)
  | 34 => ("ThousandLeafletsModel", "byteBy", "[I", true)
  | 35 => ("ThousandLeafletsModel", "rank", "I", false)
  | 36 => ("ThousandLeafletsModel", "doAgree", "Z", false)
  | 37 => ("ThousandLeafletsModel", "leadSet", "[I", true)
  | 38 => ("ThousandLeafletsModel", "leadByte", "[I", true)
  | 39 => ("ThousandLeafletsModel", "slippedMany", "I", false)
  | 40 => ("ThousandLeafletsModel", "slippedAt", "[I", true)
  | 41 => ("ThousandLeafletsModel", "withoutSets", "[I", true)
  | 42 => ("ThousandLeafletsModel", "withoutBytes", "[I", true)
  | 43 => ("ThousandLeafletsModel", "sixty", "[I", true)
  | 44 => ("ThousandLeafletsModel", "oddsKept", "[I", true)
  | 45 => ("ThousandLeafletsModel", "burn", "[I", true)
  | 46 => ("ThousandLeafletsModel", "houses", "[I", true)
  | _ => ("ThousandLeafletsModel", "need", "[I", true)
def tyX12 : Nat → FieldType := fun k => match k with
  | 0 => .int
  | 1 => .array .int
  | 2 => .int
  | 3 => .int
  | 4 => .array .int
  | 5 => .array .int
  | 6 => .array .long
  | 7 => .int
  | 8 => .int
  | 9 => .array .long
  | 10 => .array .int
  | 11 => .array .int
  | 12 => .array .int
  | 13 => .array .int
  | 14 => .array .int
  | 15 => .array .int
  | 16 => .array .int
  | 17 => .array .int
  | 18 => .int
  | 19 => .long
  | 20 => .array .int
  | 21 => .array .int
  | 22 => .array .int
  | 23 => .array .int
  | 24 => .array .int
  | 25 => .array .int
  | 26 => .array .boolean
  | 27 => .int
  | 28 => .int
  | 29 => .array .int
  | 30 => .array .int
  | 31 => .array .int
  | 32 => .array .boolean
  | 33 => .int
  | 34 => .array .int
  | 35 => .int
  | 36 => .boolean
  | 37 => .array .int
  | 38 => .array .int
  | 39 => .int
  | 40 => .array .int
  | 41 => .array .int
  | 42 => .array .int
  | 43 => .array .int
  | 44 => .array .int
  | 45 => .array .int
  | 46 => .array .int
  | _ => .array .int
theorem nmX12 : ∀ a, a < 48 → ∀ b, b < 48 → a ≠ b → (TX12 a).2.1 ≠ (TX12 b).2.1 := by decide +kernel
theorem tyX12_ok : ∀ k, k < 48 → parseFieldDescriptor (TX12 k).2.2.1 = some (tyX12 k) := by decide +kernel
abbrev cX12_thrown : ByteArray := prog_14_method_1_code
def yX12_thrown : MethodName := ⟨RX12, "thrown", "()I"⟩
abbrev cX12_feed : ByteArray := prog_14_method_2_code
def yX12_feed : MethodName := ⟨RX12, "feed", "(JJJ)I"⟩
abbrev cX12_lay : ByteArray := prog_14_method_3_code
def yX12_lay : MethodName := ⟨RX12, "lay", "(J)V"⟩
abbrev cX12_init : ByteArray := prog_14_method_4_code
def yX12_init : MethodName := ⟨RX12, "<init>", "()V"⟩
abbrev cX12_isLetter : ByteArray := prog_14_method_5_code
def yX12_isLetter : MethodName := ⟨RX12, "isLetter", "(I)Z"⟩
abbrev cX12_isDigit : ByteArray := prog_14_method_6_code
def yX12_isDigit : MethodName := ⟨RX12, "isDigit", "(I)Z"⟩
abbrev cX12_rank : ByteArray := prog_14_method_7_code
def yX12_rank : MethodName := ⟨RX12, "rank", "(I)I"⟩
abbrev cX12_isSignOf : ByteArray := prog_14_method_8_code
def yX12_isSignOf : MethodName := ⟨RX12, "isSignOf", "(I)Z"⟩
abbrev cX12_cutAll : ByteArray := prog_14_method_9_code
def yX12_cutAll : MethodName := ⟨RX12, "cutAll", "()V"⟩
abbrev cX12_wrong : ByteArray := prog_14_method_10_code
def yX12_wrong : MethodName := ⟨RX12, "wrong", "(I)V"⟩
abbrev cX12_isSign : ByteArray := prog_14_method_11_code
def yX12_isSign : MethodName := ⟨RX12, "isSign", "(I)Z"⟩
abbrev cX12_isWord : ByteArray := prog_14_method_12_code
def yX12_isWord : MethodName := ⟨RX12, "isWord", "(I)Z"⟩
abbrev cX12_takeSign : ByteArray := prog_14_method_13_code
def yX12_takeSign : MethodName := ⟨RX12, "takeSign", "(I)V"⟩
abbrev cX12_hasWord : ByteArray := prog_14_method_15_code
def yX12_hasWord : MethodName := ⟨RX12, "hasWord", "(I)Z"⟩
abbrev cX12_within : ByteArray := prog_14_method_17_code
def yX12_within : MethodName := ⟨RX12, "within", "(III)Z"⟩
abbrev cX12_isBook : ByteArray := prog_14_method_18_code
def yX12_isBook : MethodName := ⟨RX12, "isBook", "(I)Z"⟩
abbrev cX12_forgetsDraw : ByteArray := prog_14_method_19_code
def yX12_forgetsDraw : MethodName := ⟨RX12, "forgetsDraw", "(I)V"⟩
abbrev cX12_book : ByteArray := prog_14_method_20_code
def yX12_book : MethodName := ⟨RX12, "book", "(II)Z"⟩
abbrev cX12_isOut : ByteArray := prog_14_method_21_code
def yX12_isOut : MethodName := ⟨RX12, "isOut", "(I)Z"⟩
abbrev cX12_page : ByteArray := prog_14_method_22_code
def yX12_page : MethodName := ⟨RX12, "page", "(III)Z"⟩
abbrev cX12_takeNumber : ByteArray := prog_14_method_23_code
def yX12_takeNumber : MethodName := ⟨RX12, "takeNumber", "(II)I"⟩
abbrev cX12_draw : ByteArray := prog_14_method_24_code
def yX12_draw : MethodName := ⟨RX12, "draw", "(I)I"⟩
abbrev cX12_readLine : ByteArray := prog_14_method_25_code
def yX12_readLine : MethodName := ⟨RX12, "readLine", "()V"⟩
abbrev cX12_readOdds : ByteArray := prog_14_method_26_code
def yX12_readOdds : MethodName := ⟨RX12, "readOdds", "()V"⟩
abbrev cX12_readSum : ByteArray := prog_14_method_27_code
def yX12_readSum : MethodName := ⟨RX12, "readSum", "()V"⟩
abbrev cX12_allOf : ByteArray := prog_14_method_28_code
def yX12_allOf : MethodName := ⟨RX12, "allOf", "(I)I"⟩
abbrev cX12_valueOf : ByteArray := prog_14_method_29_code
def yX12_valueOf : MethodName := ⟨RX12, "valueOf", "(II)I"⟩
abbrev cX12_sumOf : ByteArray := prog_14_method_30_code
def yX12_sumOf : MethodName := ⟨RX12, "sumOf", "(II)I"⟩
abbrev cX12_drawn : ByteArray := prog_14_method_31_code
def yX12_drawn : MethodName := ⟨RX12, "drawn", "()I"⟩
abbrev cX12_oddsOf : ByteArray := prog_14_method_32_code
def yX12_oddsOf : MethodName := ⟨RX12, "oddsOf", "(II)I"⟩
abbrev cX12_howMany : ByteArray := prog_14_method_33_code
def yX12_howMany : MethodName := ⟨RX12, "howMany", "(I)I"⟩
abbrev cX12_weightOf : ByteArray := prog_14_method_34_code
def yX12_weightOf : MethodName := ⟨RX12, "weightOf", "(II)I"⟩
abbrev cX12_setOf : ByteArray := prog_14_method_35_code
def yX12_setOf : MethodName := ⟨RX12, "setOf", "(II)I"⟩
abbrev cX12_sealOf : ByteArray := prog_14_method_36_code
def yX12_sealOf : MethodName := ⟨RX12, "sealOf", "(III)I"⟩
abbrev cX12_isNumber : ByteArray := prog_14_method_37_code
def yX12_isNumber : MethodName := ⟨RX12, "isNumber", "(I)Z"⟩
abbrev cX12_bits : ByteArray := prog_14_method_38_code
def yX12_bits : MethodName := ⟨RX12, "bits", "(I)I"⟩
abbrev cX12_leaflet : ByteArray := prog_14_method_39_code
def yX12_leaflet : MethodName := ⟨RX12, "leaflet", "(III)I"⟩
abbrev cX12_told : ByteArray := prog_14_method_40_code
def yX12_told : MethodName := ⟨RX12, "told", "(II)I"⟩
abbrev cX12_isQuarter : ByteArray := prog_14_method_41_code
def yX12_isQuarter : MethodName := ⟨RX12, "isQuarter", "(I)Z"⟩
abbrev cX12_moves : ByteArray := prog_14_method_42_code
def yX12_moves : MethodName := ⟨RX12, "moves", "(II)V"⟩
abbrev cX12_takesOut : ByteArray := prog_14_method_43_code
def yX12_takesOut : MethodName := ⟨RX12, "takesOut", "(II)V"⟩
abbrev cX12_lays : ByteArray := prog_14_method_44_code
def yX12_lays : MethodName := ⟨RX12, "lays", "(IIIIII)I"⟩
abbrev cX12_cutTo : ByteArray := prog_14_method_45_code
def yX12_cutTo : MethodName := ⟨RX12, "cutTo", "(II)I"⟩
abbrev cX12_comes : ByteArray := prog_14_method_46_code
def yX12_comes : MethodName := ⟨RX12, "comes", "(IIII)I"⟩
abbrev cX12_laysIf : ByteArray := prog_14_method_47_code
def yX12_laysIf : MethodName := ⟨RX12, "laysIf", "(IIIII)I"⟩
abbrev cX12_slip : ByteArray := prog_14_method_48_code
def yX12_slip : MethodName := ⟨RX12, "slip", "(IIII)I"⟩
abbrev cX12_forged : ByteArray := prog_14_method_49_code
def yX12_forged : MethodName := ⟨RX12, "forged", "(IIIII)I"⟩
abbrev cX12_namelessIn : ByteArray := prog_14_method_50_code
def yX12_namelessIn : MethodName := ⟨RX12, "namelessIn", "(I)I"⟩
abbrev cX12_nameless : ByteArray := prog_14_method_51_code
def yX12_nameless : MethodName := ⟨RX12, "nameless", "(III)I"⟩
abbrev cX12_isPaper : ByteArray := prog_14_method_52_code
def yX12_isPaper : MethodName := ⟨RX12, "isPaper", "(II)Z"⟩
abbrev cX12_away : ByteArray := prog_14_method_53_code
def yX12_away : MethodName := ⟨RX12, "away", "(II)Z"⟩
abbrev cX12_copies : ByteArray := prog_14_method_54_code
def yX12_copies : MethodName := ⟨RX12, "copies", "(II)V"⟩
abbrev cX12_forgetsMarks : ByteArray := prog_14_method_55_code
def yX12_forgetsMarks : MethodName := ⟨RX12, "forgetsMarks", "()V"⟩
abbrev cX12_mark : ByteArray := prog_14_method_56_code
def yX12_mark : MethodName := ⟨RX12, "mark", "(IZ)Z"⟩
abbrev cX12_adds : ByteArray := prog_14_method_57_code
def yX12_adds : MethodName := ⟨RX12, "adds", "(III)V"⟩
abbrev cX12_begins : ByteArray := prog_14_method_58_code
def yX12_begins : MethodName := ⟨RX12, "begins", "(I)V"⟩
abbrev cX12_byteOf : ByteArray := prog_14_method_59_code
def yX12_byteOf : MethodName := ⟨RX12, "byteOf", "(II)I"⟩
abbrev cX12_gathers : ByteArray := prog_14_method_60_code
def yX12_gathers : MethodName := ⟨RX12, "gathers", "(IIII)V"⟩
abbrev cX12_leavesNone : ByteArray := prog_14_method_61_code
def yX12_leavesNone : MethodName := ⟨RX12, "leavesNone", "()V"⟩
abbrev cX12_findPeeled : ByteArray := prog_14_method_62_code
def yX12_findPeeled : MethodName := ⟨RX12, "findPeeled", "()V"⟩
abbrev cX12_comesTo : ByteArray := prog_14_method_63_code
def yX12_comesTo : MethodName := ⟨RX12, "comesTo", "(I)I"⟩
abbrev cX12_findSolved : ByteArray := prog_14_method_64_code
def yX12_findSolved : MethodName := ⟨RX12, "findSolved", "()V"⟩
abbrev cX12_isFixed : ByteArray := prog_14_method_65_code
def yX12_isFixed : MethodName := ⟨RX12, "isFixed", "(I)Z"⟩
abbrev cX12_fixedSet : ByteArray := prog_14_method_66_code
def yX12_fixedSet : MethodName := ⟨RX12, "fixedSet", "()I"⟩
abbrev cX12_isAsked : ByteArray := prog_14_method_67_code
def yX12_isAsked : MethodName := ⟨RX12, "isAsked", "(III)Z"⟩
abbrev cX12_peels : ByteArray := prog_14_method_68_code
def yX12_peels : MethodName := ⟨RX12, "peels", "(IIII)I"⟩
abbrev cX12_solves : ByteArray := prog_14_method_69_code
def yX12_solves : MethodName := ⟨RX12, "solves", "(IIII)I"⟩
abbrev cX12_readBy : ByteArray := prog_14_method_70_code
def yX12_readBy : MethodName := ⟨RX12, "readBy", "(IIIII)I"⟩
abbrev cX12_isPage : ByteArray := prog_14_method_71_code
def yX12_isPage : MethodName := ⟨RX12, "isPage", "(II)Z"⟩
abbrev cX12_read : ByteArray := prog_14_method_72_code
def yX12_read : MethodName := ⟨RX12, "read", "(IIII)I"⟩
abbrev cX12_soon : ByteArray := prog_14_method_73_code
def yX12_soon : MethodName := ⟨RX12, "soon", "(IIII)I"⟩
abbrev cX12_unknownOf : ByteArray := prog_14_method_74_code
def yX12_unknownOf : MethodName := ⟨RX12, "unknownOf", "(II)I"⟩
abbrev cX12_paper : ByteArray := prog_14_method_75_code
def yX12_paper : MethodName := ⟨RX12, "paper", "(III)I"⟩
abbrev cX12_findSlipped : ByteArray := prog_14_method_76_code
def yX12_findSlipped : MethodName := ⟨RX12, "findSlipped", "(III)Z"⟩
abbrev cX12_slipped : ByteArray := prog_14_method_77_code
def yX12_slipped : MethodName := ⟨RX12, "slipped", "(IIII)I"⟩
abbrev cX12_right : ByteArray := prog_14_method_78_code
def yX12_right : MethodName := ⟨RX12, "right", "(IIII)I"⟩
abbrev cX12_doubles : ByteArray := prog_14_method_79_code
def yX12_doubles : MethodName := ⟨RX12, "doubles", "(III)I"⟩
abbrev cX12_isFixedWithout : ByteArray := prog_14_method_80_code
def yX12_isFixedWithout : MethodName := ⟨RX12, "isFixedWithout", "(IIII)Z"⟩
abbrev cX12_guard : ByteArray := prog_14_method_81_code
def yX12_guard : MethodName := ⟨RX12, "guard", "(IIII)I"⟩
abbrev cX12_isAllWith : ByteArray := prog_14_method_82_code
def yX12_isAllWith : MethodName := ⟨RX12, "isAllWith", "(III)Z"⟩
abbrev cX12_givesAll : ByteArray := prog_14_method_83_code
def yX12_givesAll : MethodName := ⟨RX12, "givesAll", "(II)Z"⟩
abbrev cX12_tocome : ByteArray := prog_14_method_84_code
def yX12_tocome : MethodName := ⟨RX12, "tocome", "(III)I"⟩
abbrev cX12_chancesOf : ByteArray := prog_14_method_85_code
def yX12_chancesOf : MethodName := ⟨RX12, "chancesOf", "(IIII)I"⟩
abbrev cX12_keepsSets : ByteArray := prog_14_method_86_code
def yX12_keepsSets : MethodName := ⟨RX12, "keepsSets", "(II)V"⟩
abbrev cX12_areChances : ByteArray := prog_14_method_87_code
def yX12_areChances : MethodName := ⟨RX12, "areChances", "(III)Z"⟩
abbrev cX12_chances : ByteArray := prog_14_method_88_code
def yX12_chances : MethodName := ⟨RX12, "chances", "(IIII)I"⟩
abbrev cX12_choices : ByteArray := prog_14_method_89_code
def yX12_choices : MethodName := ⟨RX12, "choices", "(II)I"⟩
abbrev cX12_enough : ByteArray := prog_14_method_90_code
def yX12_enough : MethodName := ⟨RX12, "enough", "(IIIZ)I"⟩
abbrev cX12_common : ByteArray := prog_14_method_91_code
def yX12_common : MethodName := ⟨RX12, "common", "(JJ)J"⟩
abbrev cX12_average : ByteArray := prog_14_method_92_code
def yX12_average : MethodName := ⟨RX12, "average", "(IIII)J"⟩
abbrev cX12_degree : ByteArray := prog_14_method_93_code
def yX12_degree : MethodName := ⟨RX12, "degree", "(IIII)I"⟩
abbrev cX12_agreesBy : ByteArray := prog_14_method_94_code
def yX12_agreesBy : MethodName := ⟨RX12, "agreesBy", "(III)Z"⟩
abbrev cX12_apart : ByteArray := prog_14_method_95_code
def yX12_apart : MethodName := ⟨RX12, "apart", "(II)I"⟩
abbrev cX12_quarter : ByteArray := prog_14_method_96_code
def yX12_quarter : MethodName := ⟨RX12, "quarter", "(III)Z"⟩
abbrev cX12_falls : ByteArray := prog_14_method_97_code
def yX12_falls : MethodName := ⟨RX12, "falls", "(III)Z"⟩
abbrev cX12_isAlike : ByteArray := prog_14_method_98_code
def yX12_isAlike : MethodName := ⟨RX12, "isAlike", "(II)Z"⟩
abbrev cX12_hasAlike : ByteArray := prog_14_method_99_code
def yX12_hasAlike : MethodName := ⟨RX12, "hasAlike", "(II)Z"⟩
abbrev cX12_scatter : ByteArray := prog_14_method_100_code
def yX12_scatter : MethodName := ⟨RX12, "scatter", "(III)I"⟩
abbrev cX12_needsOf : ByteArray := prog_14_method_101_code
def yX12_needsOf : MethodName := ⟨RX12, "needsOf", "(II)I"⟩
abbrev cX12_needs : ByteArray := prog_14_method_102_code
def yX12_needs : MethodName := ⟨RX12, "needs", "(II)I"⟩
abbrev cX12_allHouses : ByteArray := prog_14_method_103_code
def yX12_allHouses : MethodName := ⟨RX12, "allHouses", "()I"⟩
abbrev cX12_town : ByteArray := prog_14_method_104_code
def yX12_town : MethodName := ⟨RX12, "town", "(II)I"⟩
abbrev cX12_swap : ByteArray := prog_14_method_105_code
def yX12_swap : MethodName := ⟨RX12, "swap", "(III)I"⟩
abbrev cX12_count : ByteArray := prog_14_method_106_code
def yX12_count : MethodName := ⟨RX12, "count", "(I)I"⟩
def RJ6 : String := "java/lang/Integer"
def TJ6 : u_T := fun k => match k with
  | _ => ("", "", "", false)
def tyJ6 : Nat → FieldType := fun k => match k with
  | _ => .int
abbrev cJ6_bitCount_0f7a4 : ByteArray := prog_16_method_49_code
def yJ6_bitCount_0f7a4 : MethodName := ⟨RJ6, "bitCount", "(I)I"⟩
def RJ13 : String := "java/lang/Long"
def TJ13 : u_T := fun k => match k with
  | _ => ("", "", "", false)
def tyJ13 : Nat → FieldType := fun k => match k with
  | _ => .int
abbrev cJ13_bitCount_95d88 : ByteArray := prog_17_method_50_code
def yJ13_bitCount_95d88 : MethodName := ⟨RJ13, "bitCount", "(J)I"⟩
def RJ9 : String := "java/lang/Math"
def TJ9 : u_T := fun k => match k with
  | _ => ("", "", "", false)
def tyJ9 : Nat → FieldType := fun k => match k with
  | _ => .int
abbrev cJ9_min_7cf53 : ByteArray := prog_18_method_69_code
def yJ9_min_7cf53 : MethodName := ⟨RJ9, "min", "(II)I"⟩
def RJ0 : String := "java/lang/String"
def TJ0 : u_T := fun k => match k with
  | _ => ("", "", "", false)
def tyJ0 : Nat → FieldType := fun k => match k with
  | _ => .int
abbrev cJ0_length_8abf5 : ByteArray := prog_20_method_54_code
def yJ0_length_8abf5 : MethodName := ⟨RJ0, "length", "()I"⟩
abbrev cJ0_charAt_5068e : ByteArray := prog_20_method_56_code
def yJ0_charAt_5068e : MethodName := ⟨RJ0, "charAt", "(I)C"⟩
abbrev cJ0_coder_7d493 : ByteArray := prog_20_method_152_code
def yJ0_coder_7d493 : MethodName := ⟨RJ0, "coder", "()B"⟩
abbrev cJ0_isLatin1_aae02 : ByteArray := prog_20_method_154_code
def yJ0_isLatin1_aae02 : MethodName := ⟨RJ0, "isLatin1", "()Z"⟩
abbrev cJ0_checkIndex_df160 : ByteArray := prog_20_method_155_code
def yJ0_checkIndex_df160 : MethodName := ⟨RJ0, "checkIndex", "(II)V"⟩
def RJ1 : String := "java/lang/StringLatin1"
def TJ1 : u_T := fun k => match k with
  | _ => ("", "", "", false)
def tyJ1 : Nat → FieldType := fun k => match k with
  | _ => .int
abbrev cJ1_charAt_3b067 : ByteArray := prog_21_method_2_code
def yJ1_charAt_3b067 : MethodName := ⟨RJ1, "charAt", "([BI)C"⟩
def RJ2 : String := "java/lang/StringUTF16"
def TJ2 : u_T := fun k => match k with
  | _ => ("", "", "", false)
def tyJ2 : Nat → FieldType := fun k => match k with
  | _ => .int
abbrev cJ2_getChar_3b067 : ByteArray := prog_22_method_5_code
def yJ2_getChar_3b067 : MethodName := ⟨RJ2, "getChar", "([BI)C"⟩
abbrev cJ2_length_9d52b : ByteArray := prog_22_method_6_code
def yJ2_length_9d52b : MethodName := ⟨RJ2, "length", "([B)I"⟩
abbrev cJ2_charAt_3b067 : ByteArray := prog_22_method_83_code
def yJ2_charAt_3b067 : MethodName := ⟨RJ2, "charAt", "([BI)C"⟩
abbrev cJ2_checkIndex_2214a : ByteArray := prog_22_method_91_code
def yJ2_checkIndex_2214a : MethodName := ⟨RJ2, "checkIndex", "(I[B)V"⟩
def RJ10 : String := "java/lang/System"
def TJ10 : u_T := fun k => match k with
  | _ => ("", "", "", false)
def tyJ10 : Nat → FieldType := fun k => match k with
  | _ => .int
def RJ3 : String := "jdk/internal/util/Preconditions"
def TJ3 : u_T := fun k => match k with
  | _ => ("", "", "", false)
def tyJ3 : Nat → FieldType := fun k => match k with
  | _ => .int
abbrev cJ3_checkIndex_8e157 : ByteArray := prog_26_method_11_code
def yJ3_checkIndex_8e157 : MethodName := ⟨RJ3, "checkIndex", "(IILjava/util/function/BiFunction;)I"⟩
def RL : String := "ThousandLeafletsLaw"
abbrev cL_paper : ByteArray := method_3_code
def yL_paper : MethodName := ⟨RL, "paper", "(LThousandLeaflets;III[J)I"⟩
abbrev cL_law : ByteArray := code
def yL_law : MethodName := ⟨RL, "law", "([I)Z"⟩
abbrev vwCl : List vw_C := [(RX0, TX0, 4), (RX1, TX1, 7), (RX2, TX2, 7), (RX3, TX3, 6), (RX4, TX4, 2), (RX5, TX5, 6), (RX6, TX6, 2), (RX7, TX7, 7), (RX8, TX8, 8), (RX9, TX9, 6), (RX10, TX10, 6), (RX11, TX11, 14), (RX12, TX12, 48)]
def ft : Nat → List Nat := fun c => match c with
  | 0 => [1, 1, 0, 3]
  | 1 => [0, 1, 1, 1, 3, 0, 0]
  | 2 => [1, 1, 1, 1, 0, 0, 0]
  | 3 => [1, 1, 0, 0, 0, 0]
  | 4 => [1, 1]
  | 5 => [1, 1, 1, 1, 0, 0]
  | 6 => [1, 0]
  | 7 => [0, 0, 0, 0, 0, 0, 0]
  | 8 => [1, 1, 1, 1, 0, 0, 0, 0]
  | 9 => [1, 0, 0, 0, 0, 0]
  | 10 => [1, 1, 1, 0, 0, 0]
  | 11 => [1, 1, 1, 1, 1, 1, 1, 1, 1, 1, 1, 1, 1, 0]
  | 12 => [0, 1, 0, 0, 1, 1, 1, 0, 0, 1, 1, 1, 1, 1, 1, 1, 1, 1, 0, 2, 1, 1, 1, 1, 1, 1, 1, 0, 0, 1, 1, 1, 1, 0, 1, 0, 3, 1, 1, 0, 1, 1, 1, 1, 1, 1, 1, 1]
  | _ => []
end
section
/-! THE LAYER: a method's world is one pool of cells; the words of the tables ride with the state; a goal is 'G': the machine at a place of the code, with a pool. -/
def okW : Cond → Bool
  | .methodLinkNest _ _ _ _ => true
  | .fieldLinkNest _ _ _ _ _ _ => true
  | .arrayOver (.object _) => true
  | w => goodWord w
theorem okW_warm {w : Cond} (ho : okW w = true) {A A' : Array Value} {s U : State} (hW : s.WarmedH U.vm) (h : w.before A s = true) : w.before A' U = true := by
  by_cases hg : goodWord w = true
  · exact word_at hW (good_of_word hg) h
  · cases w
    case methodLinkNest => exact va_Nw.use rfl (va_Nw.warmM hW (va_Nw.of rfl h))
    case fieldLinkNest => exact va_Nw.use rfl (va_Nw.warmF hW (va_Nw.of rfl h))
    case arrayOver ty =>
      cases ty
      case object => exact va_AO.use (va_AO.moved hW.alike (va_AO.of h))
      all_goals exact absurd ho hg
    all_goals exact absurd ho hg
/-- the tables' words hold -/
def TB (U : State) : Prop := ∀ w ∈ lw_tbl, okW w = true → w.before #[] U = true
theorem TB.warm {s U : State} (h : TB s) (hW : s.WarmedH U.vm) : TB U := fun w hw ho => okW_warm ho hW (h w hw ho)
theorem TB.of {s : State} {A : Array Value} (h : ∀ w ∈ lw_tbl, w.before A s = true) : TB s := fun w hw ho => okW_warm ho (State.WarmedH.refl s) (h w hw)
def TW (w : Cond) : Prop := ∀ U : State, TB U → ∀ A : Array Value, w.before A U = true
theorem TW.of {w : Cond} (hm : w ∈ lw_tbl) (ho : okW w = true) : TW w := fun U h _ => okW_warm ho (State.WarmedH.refl U) (h w hm ho)
theorem TW.at {w : Cond} (i : Nat) (hm : tables_1[i]? = some w) (ho : okW w = true) : TW w := TW.of (List.mem_append_right _ (List.mem_of_getElem? hm)) ho
/-! pools -/
abbrev PP : Type := List Nat × (Nat → Nat) × (Nat → Nat) × (Nat → Nat → Int32) × (Nat → Nat → Option Nat) × (Nat → Nat → Int64)
def pL (P : PP) : List Nat := P.1
def pK (P : PP) : Nat → Nat := P.2.1
def pN (P : PP) : Nat → Nat := P.2.2.1
def pI (P : PP) : Nat → Nat → Int32 := P.2.2.2.1
def pR (P : PP) : Nat → Nat → Option Nat := P.2.2.2.2.1
def pJ (P : PP) : Nat → Nat → Int64 := P.2.2.2.2.2
def pSI (P : PP) (a k : Nat) (v : Int32) : PP := (pL P, pK P, pN P, va_up (pI P) a (va_up (pI P a) k v), pR P, pJ P)
def pSR (P : PP) (a k : Nat) (v : Option Nat) : PP := (pL P, pK P, pN P, pI P, va_up (pR P) a (va_up (pR P a) k v), pJ P)
def pSJ (P : PP) (a k : Nat) (v : Int64) : PP := (pL P, pK P, pN P, pI P, pR P, va_up (pJ P) a (va_up (pJ P a) k v))
def pNw (P : PP) (a kd n : Nat) : PP := (pL P ++ [a], va_up (pK P) a kd, va_up (pN P) a n, va_up (pI P) a (fun _ => 0), va_up (pR P) a (fun _ => none), va_up (pJ P) a (fun _ => 0))
def fv (t : Nat) (P : PP) (a k : Nat) : Value := if t = 1 then va_rf (pR P a k) else if t = 2 then .long (pJ P a k) else .int (pI P a k)
def fl (ts : List Nat) (P : PP) (a : Nat) : List Value := ts.mapIdx (fun k t => fv t P a k)
def fl0 (ts : List Nat) : List Value := ts.map (fun t => if t = 1 then Value.null else if t = 2 then .long 0 else .int 0)
theorem fl_get (ts : List Nat) (P : PP) (a k : Nat) {t : Nat} (h : ts[k]? = some t) : (fl ts P a)[k]? = some (fv t P a k) := by
  simp [fl, List.getElem?_mapIdx, h]
theorem fl_len (ts : List Nat) (P : PP) (a : Nat) : (fl ts P a).length = ts.length := by simp [fl]
def pe (cy : Nat → ClassId) (P : PP) (a : Nat) : va_E :=
  if pK P a < 13 then .inr (pK P a, fl (ft (pK P a)) P a)
  else .inl (cy (pK P a), pN P a, if pK P a = 14 then .inr (.inl (pJ P a)) else if pK P a < 16 then .inl (pI P a) else .inr (.inr (.inr (.inr (pR P a)))))
def pw (cy : Nat → ClassId) (P : PP) : va_W := va_pl (pL P) (pe cy P)
theorem pe_obj {cy : Nat → ClassId} {P : PP} {a ci : Nat} (h : pK P a = ci) (hc : ci < 13) : pe cy P a = .inr (ci, fl (ft ci) P a) := by
  subst h; simp [pe, hc]
theorem pe_int {cy : Nat → ClassId} {P : PP} {a kd : Nat} (h : pK P a = kd) (hk : kd = 13 ∨ kd = 15) : pe cy P a = .inl (cy kd, pN P a, .inl (pI P a)) := by
  subst h; rcases hk with hk | hk <;> simp [pe, hk]
theorem pe_lng {cy : Nat → ClassId} {P : PP} {a : Nat} (h : pK P a = 14) : pe cy P a = .inl (cy 14, pN P a, .inr (.inl (pJ P a))) := by
  simp [pe, h]
theorem pe_ref {cy : Nat → ClassId} {P : PP} {a kd : Nat} (h : pK P a = kd) (hk : 16 ≤ kd) : pe cy P a = .inl (cy kd, pN P a, .inr (.inr (.inr (.inr (pR P a))))) := by
  subst h
  have h1 : ¬ pK P a < 13 := by omega
  have h2 : ¬ pK P a = 14 := by omega
  have h3 : ¬ pK P a < 16 := by omega
  simp [pe, h1, h2, h3]
theorem fl_set {ts : List Nat} {P P' : PP} {a k t : Nat} {v : Value} (ht : ts[k]? = some t) (hv : fv t P' a k = v) (ho : ∀ (j u : Nat), j ≠ k → fv u P' a j = fv u P a j) : (fl ts P a).set k v = fl ts P' a := by
  apply List.ext_getElem?
  intro j
  have hk : k < (fl ts P a).length := by rw [fl_len]; exact (List.getElem?_eq_some_iff.mp ht).1
  by_cases hj : k = j
  · subst hj
    rw [List.getElem?_set_self hk, fl_get _ _ _ _ ht, hv]
  · rw [List.getElem?_set_ne hj]
    cases hq : ts[j]? with
    | none => simp [fl, List.getElem?_mapIdx, hq]
    | some u => rw [fl_get _ _ _ _ hq, fl_get _ _ _ _ hq, ho j u (fun h => hj h.symm)]
theorem fl_off {ts : List Nat} {P P' : PP} {a : Nat} (h1 : pI P' a = pI P a) (h2 : pR P' a = pR P a) (h3 : pJ P' a = pJ P a) : fl ts P' a = fl ts P a := by
  unfold fl fv
  rw [h1, h2, h3]
theorem pe_off {cy : Nat → ClassId} {P P' : PP} {a : Nat} (h0 : pK P' a = pK P a) (hn : pN P' a = pN P a) (h1 : pI P' a = pI P a) (h2 : pR P' a = pR P a) (h3 : pJ P' a = pJ P a) : pe cy P' a = pe cy P a := by
  unfold pe
  rw [h0, hn, h1, h2, h3, fl_off h1 h2 h3]
theorem up_self {α : Type} {f : Nat → α} {a : Nat} {v : α} : va_up f a v a = v := by simp [va_up]
theorem up_ne {α : Type} {f : Nat → α} {a b : Nat} {v : α} (h : b ≠ a) : va_up f a v b = f b := by simp [va_up, h]
theorem pe_SI {cy : Nat → ClassId} {P : PP} {a ci k t : Nat} {v : Int32} (h : pK P a = ci) (hc : ci < 13) (ht : (ft ci)[k]? = some t) (h1 : t ≠ 1) (h2 : t ≠ 2) (b : Nat) : va_up (pe cy P) a (.inr (ci, (fl (ft ci) P a).set k (.int v))) b = pe cy (pSI P a k v) b := by
  by_cases hb : b = a
  · subst hb
    rw [up_self, pe_obj (P := pSI P b k v) (show pK (pSI P b k v) b = ci from h) hc]
    congr 2
    refine fl_set ht ?_ ?_
    · simp [fv, h1, h2, pSI, pI, va_up]
    · intro j u hj
      simp [fv, pSI, pI, pR, pJ, va_up, hj]
  · rw [up_ne hb]
    exact (pe_off (P' := pSI P a k v) (P := P) rfl rfl (by simp [pSI, pI, va_up, hb]) rfl rfl).symm
theorem pe_SR {cy : Nat → ClassId} {P : PP} {a ci k : Nat} {v : Option Nat} (h : pK P a = ci) (hc : ci < 13) (ht : (ft ci)[k]? = some 1) (b : Nat) : va_up (pe cy P) a (.inr (ci, (fl (ft ci) P a).set k (va_rf v))) b = pe cy (pSR P a k v) b := by
  by_cases hb : b = a
  · subst hb
    rw [up_self, pe_obj (P := pSR P b k v) (show pK (pSR P b k v) b = ci from h) hc]
    congr 2
    refine fl_set ht ?_ ?_
    · simp [fv, pSR, pR, va_up]
    · intro j u hj
      simp [fv, pSR, pI, pR, pJ, va_up, hj]
  · rw [up_ne hb]
    exact (pe_off (P' := pSR P a k v) (P := P) rfl rfl rfl (by simp [pSR, pR, va_up, hb]) rfl).symm
theorem pe_SJ {cy : Nat → ClassId} {P : PP} {a ci k : Nat} {v : Int64} (h : pK P a = ci) (hc : ci < 13) (ht : (ft ci)[k]? = some 2) (b : Nat) : va_up (pe cy P) a (.inr (ci, (fl (ft ci) P a).set k (.long v))) b = pe cy (pSJ P a k v) b := by
  by_cases hb : b = a
  · subst hb
    rw [up_self, pe_obj (P := pSJ P b k v) (show pK (pSJ P b k v) b = ci from h) hc]
    congr 2
    refine fl_set ht ?_ ?_
    · simp [fv, pSJ, pJ, va_up]
    · intro j u hj
      simp [fv, pSJ, pI, pR, pJ, va_up, hj]
  · rw [up_ne hb]
    exact (pe_off (P' := pSJ P a k v) (P := P) rfl rfl rfl rfl (by simp [pSJ, pJ, va_up, hb])).symm
theorem pe_AI {cy : Nat → ClassId} {P : PP} {a kd k : Nat} {v : Int32} (h : pK P a = kd) (hk : kd = 13 ∨ kd = 15) (b : Nat) : va_up (pe cy P) a (.inl (cy kd, pN P a, .inl (upd (pI P a) k v))) b = pe cy (pSI P a k v) b := by
  by_cases hb : b = a
  · subst hb
    have e : pI (pSI P b k v) b = upd (pI P b) k v := by
      show va_up (pI P) b (va_up (pI P b) k v) b = _
      rw [up_self]; rfl
    rw [up_self, pe_int (P := pSI P b k v) (show pK (pSI P b k v) b = kd from h) hk, e]; rfl
  · rw [up_ne hb]
    exact (pe_off (P' := pSI P a k v) (P := P) rfl rfl (by simp [pSI, pI, va_up, hb]) rfl rfl).symm
theorem pe_AJ {cy : Nat → ClassId} {P : PP} {a k : Nat} {v : Int64} (h : pK P a = 14) (b : Nat) : va_up (pe cy P) a (.inl (cy 14, pN P a, .inr (.inl (vp_updL (pJ P a) k v)))) b = pe cy (pSJ P a k v) b := by
  by_cases hb : b = a
  · subst hb
    have e : pJ (pSJ P b k v) b = vp_updL (pJ P b) k v := by
      show va_up (pJ P) b (va_up (pJ P b) k v) b = _
      rw [up_self]; rfl
    rw [up_self, pe_lng (P := pSJ P b k v) (show pK (pSJ P b k v) b = 14 from h), e]; rfl
  · rw [up_ne hb]
    exact (pe_off (P' := pSJ P a k v) (P := P) rfl rfl rfl rfl (by simp [pSJ, pJ, va_up, hb])).symm
theorem pe_AR {cy : Nat → ClassId} {P : PP} {a kd k : Nat} {v : Option Nat} (h : pK P a = kd) (hk : 16 ≤ kd) (b : Nat) : va_up (pe cy P) a (.inl (cy kd, pN P a, .inr (.inr (.inr (.inr (va_up (pR P a) k v)))))) b = pe cy (pSR P a k v) b := by
  by_cases hb : b = a
  · subst hb
    have e : pR (pSR P b k v) b = va_up (pR P b) k v := by
      show va_up (pR P) b (va_up (pR P b) k v) b = _
      rw [up_self]
    rw [up_self, pe_ref (P := pSR P b k v) (show pK (pSR P b k v) b = kd from h) hk, e]; rfl
  · rw [up_ne hb]
    exact (pe_off (P' := pSR P a k v) (P := P) rfl rfl rfl (by simp [pSR, pR, va_up, hb]) rfl).symm
theorem pw_get {cy : Nat → ClassId} {P : PP} {a : Nat} (h : a ∈ pL P) : ∃ k : Nat, (pw cy P)[k]? = some (a, pe cy P a) := va_pl_get (X := []) h
theorem pw_set {A : Nat → Prop} {cy : Nat → ClassId} {P P' : PP} {a k : Nat} {x : va_E} (hD : va_D A (pw cy P)) (h : a ∈ pL P) (hk : (pw cy P)[k]? = some (a, pe cy P a)) (hL : pL P' = pL P) (hx : ∀ b, va_up (pe cy P) a x b = pe cy P' b) : (pw cy P).set k (a, x) = pw cy P' := by
  have e := va_pl_set (X := []) (e := x) hD h hk
  have e2 : (pw cy P).set k (a, x) = va_pl (pL P) (va_up (pe cy P) a x) := e
  rw [e2]
  unfold pw
  rw [hL]
  exact va_pl_congr hx
theorem pw_push {cy : Nat → ClassId} {P : PP} {a kd n : Nat} {x : va_E} (h : a ∉ pL P) (hx : x = pe cy (pNw P a kd n) a) : pw cy P ++ [(a, x)] = pw cy (pNw P a kd n) := by
  unfold pw
  rw [va_pl_push h]
  refine va_pl_congr (fun b => ?_)
  by_cases hb : b = a
  · subst hb; rw [up_self, hx]
  · rw [up_ne hb]
    exact (pe_off (P' := pNw P a kd n) (P := P) (by simp [pNw, pK, va_up, hb]) (by simp [pNw, pN, va_up, hb]) (by simp [pNw, pI, va_up, hb]) (by simp [pNw, pR, va_up, hb]) (by simp [pNw, pJ, va_up, hb])).symm
theorem fl_new {P : PP} {a kd n : Nat} (ts : List Nat) : fl ts (pNw P a kd n) a = fl0 ts := by
  unfold fl fl0
  rw [List.mapIdx_eq_iff]
  intro i
  rw [List.getElem?_map]
  cases ts[i]? with
  | none => rfl
  | some t => simp [fv, pNw, pR, pJ, pI, va_up, va_rf]
end
section
/-! THE JUDGEMENT -/
def tysL (cy : Nat → ClassId) : List (ClassId × FieldType) := [(cy 13, .int), (cy 14, .long), (cy 15, .boolean), (cy 16, .object RX0), (cy 17, .object RX1), (cy 18, .object RX5), (cy 19, .object RX6), (cy 20, .object RX7)]
abbrev EV : Type := Program × Launch × Env × State × MethodId × Array Value × List Frame × Method × Code × (State → Prop) × (Nat → Prop)
def G (E : EV) (R : Room) (D : va_G) (cy : Nat → ClassId) (nL : Nat) (P : PP) (cs sl pc : Nat) (lv : List (Nat × Value)) (st : List Value) : Prop := match E with
  | (p, l, e, s, m, args, below, meth, c, Q, A) => ∀ (H : Heap) (locs : List Loc) (ls : Array Slot), va_P D vwCl (pw cy P) H → va_D A (pw cy P) → va_S A s.heap H locs → lv_has ls nL lv → W p l e R s m args below meth c H locs cs sl Q (F0 m pc ls st)
def Cx (E : EV) (D : va_G) (cy : Nat → ClassId) (nL : Nat) (cc : ByteArray) (own : String) : Prop := match E with
  | (p, l, e, s, m, args, below, meth, c, Q, A) => p.tables.exec = Jvm.exec ∧ c.code = cc ∧ c.maxLocals = nL ∧ s.vm.findClass own = some m.cls ∧ TB s ∧ va_K D vwCl (tysL cy) s ∧ (∀ q : Nat, s.heap.size ≤ q → A q) ∧ meth.locks = false
def Ci (E : EV) : Prop := match E with
  | (p, l, e, s, m, args, below, meth, c, Q, A) => meth.name = "<init>"
/-- an index and the place that it names -/
def IX (i : Int32) (n j : Nat) : Prop := i.toNatClampNeg = j ∧ vp_in i n
theorem IX.of {i : Int32} {n j : Nat} (h : i = nI j) (hj : j < n) (hn : n < 2 ^ 31) : IX i n j := by
  subst h; exact ⟨nI_clamp (by omega), vp_in_nI hj hn⟩
/-- the words of a field by an entry of a class's pool -/
def FI (own : String) (idx ci k t : Nat) (fin : Bool) : Prop := ∃ (Cn : String) (T : u_T) (N : Nat) (ty : Nat → FieldType), vwCl[ci]? = some (Cn, T, N) ∧ (∀ w ∈ u_ws Cn T N, TW w) ∧ (∀ k, k < N → parseFieldDescriptor (T k).2.2.1 = some (ty k)) ∧ (∀ a, a < N → ∀ b, b < N → a ≠ b → (T a).2.1 ≠ (T b).2.1) ∧ k < N ∧ TW (.fieldLink own idx (T k).1 (T k).2.1 (T k).2.2.1) ∧ (ft ci)[k]? = some t ∧ ci < 13 ∧ (T k).2.2.2 = fin ∧ (ft ci).length = N ∧ (T k).1 = Cn ∧ (match t with | 0 => ty k = .int | 1 => (∃ C, ty k = .object C) ∨ (∃ C, ty k = .array C) | 2 => ty k = .long | _ => ty k = .boolean)
section GR
variable {E : EV} {R : Room} {D : va_G} {cy : Nat → ClassId} {nL : Nat} {P : PP} {cs sl pc : Nat} {lv lv' : List (Nat × Value)} {st rest : List Value} {cc : ByteArray} {own : String}
theorem g_iconst (C : Cx E D cy nL cc own) {n : Int} {v : Int32} (d : decode cc pc = .ok (.iconst n, 1)) (hv : Int32.ofInt n = v) (k : G E R D cy nL P cs sl (pc + 1) lv (.int v :: rest)) : G E R D cy nL P cs sl pc lv rest := by
  obtain ⟨p, l, e, s, m, args, below, meth, c, Q, A⟩ := E
  obtain ⟨hx, hb, hml, hown, hT, hK, hA, hlk⟩ := C
  intro H locs ls hP hD hS hl
  exact lv_iconst hx hb d hv (k H locs ls hP hD hS hl)
theorem g_bipush (C : Cx E D cy nL cc own) {n : Int} {v : Int32} (d : decode cc pc = .ok (.bipush n, 2)) (hv : (Int8.ofInt n).toInt32 = v) (k : G E R D cy nL P cs sl (pc + 2) lv (.int v :: rest)) : G E R D cy nL P cs sl pc lv rest := by
  obtain ⟨p, l, e, s, m, args, below, meth, c, Q, A⟩ := E
  obtain ⟨hx, hb, hml, hown, hT, hK, hA, hlk⟩ := C
  intro H locs ls hP hD hS hl
  exact lv_bipush hx hb d hv (k H locs ls hP hD hS hl)
theorem g_sipush (C : Cx E D cy nL cc own) {n : Int} {v : Int32} (d : decode cc pc = .ok (.sipush n, 3)) (hv : (Int16.ofInt n).toInt32 = v) (k : G E R D cy nL P cs sl (pc + 3) lv (.int v :: rest)) : G E R D cy nL P cs sl pc lv rest := by
  obtain ⟨p, l, e, s, m, args, below, meth, c, Q, A⟩ := E
  obtain ⟨hx, hb, hml, hown, hT, hK, hA, hlk⟩ := C
  intro H locs ls hP hD hS hl
  exact lv_sipush hx hb d hv (k H locs ls hP hD hS hl)
theorem g_ldc (C : Cx E D cy nL cc own) {index : Nat} {v : Int32} (hw : TW (.constant own index v)) (d : decode cc pc = .ok (.ldc index, 2)) (k : G E R D cy nL P cs sl (pc + 2) lv (.int v :: rest)) : G E R D cy nL P cs sl pc lv rest := by
  obtain ⟨p, l, e, s, m, args, below, meth, c, Q, A⟩ := E
  obtain ⟨hx, hb, hml, hown, hT, hK, hA, hlk⟩ := C
  intro H locs ls hP hD hS hl
  exact lv_ldc hx hb hown (hw s hT args) d (k H locs ls hP hD hS hl)
theorem g_ldc2 (C : Cx E D cy nL cc own) {index : Nat} {v : Int64} (hw : TW (.constantLong own index v)) (d : decode cc pc = .ok (.ldc2_w index, 3)) (k : G E R D cy nL P cs sl (pc + 3) lv (.long v :: rest)) : G E R D cy nL P cs sl pc lv rest := by
  obtain ⟨p, l, e, s, m, args, below, meth, c, Q, A⟩ := E
  obtain ⟨hx, hb, hml, hown, hT, hK, hA, hlk⟩ := C
  intro H locs ls hP hD hS hl
  exact lv_ldc2 hx hb hown (hw s hT args) d (k H locs ls hP hD hS hl)
theorem g_lconst (C : Cx E D cy nL cc own) {n : Fin 2} {v : Int64} (d : decode cc pc = .ok (.lconst n, 1)) (hv : Int64.ofNat (n : Nat) = v) (k : G E R D cy nL P cs sl (pc + 1) lv (.long v :: rest)) : G E R D cy nL P cs sl pc lv rest := by
  obtain ⟨p, l, e, s, m, args, below, meth, c, Q, A⟩ := E
  obtain ⟨hx, hb, hml, hown, hT, hK, hA, hlk⟩ := C
  intro H locs ls hP hD hS hl
  exact lv_lconst hx hb d hv (k H locs ls hP hD hS hl)
theorem g_null (C : Cx E D cy nL cc own)  (d : decode cc pc = .ok (.aconst_null, 1)) (k : G E R D cy nL P cs sl (pc + 1) lv (.null :: rest)) : G E R D cy nL P cs sl pc lv rest := by
  obtain ⟨p, l, e, s, m, args, below, meth, c, Q, A⟩ := E
  obtain ⟨hx, hb, hml, hown, hT, hK, hA, hlk⟩ := C
  intro H locs ls hP hD hS hl
  exact lv_null hx hb d (k H locs ls hP hD hS hl)
theorem g_iload_n (C : Cx E D cy nL cc own) {z : Fin 4} {i : Nat} {x : Int32} (d : decode cc pc = .ok (.iload_n z, 1)) (hi : (z : Nat) = i) (j : Nat) (h : lv[j]? = some (i, .int x)) (k : G E R D cy nL P cs sl (pc + 1) lv (.int x :: rest)) : G E R D cy nL P cs sl pc lv rest := by
  obtain ⟨p, l, e, s, m, args, below, meth, c, Q, A⟩ := E
  obtain ⟨hx, hb, hml, hown, hT, hK, hA, hlk⟩ := C
  intro H locs ls hP hD hS hl
  exact lv_iload_n hx hb d hi (lv_at hl j h) (k H locs ls hP hD hS hl)
theorem g_iload (C : Cx E D cy nL cc own) {i : Nat} {x : Int32} (d : decode cc pc = .ok (.iload i, 2)) (j : Nat) (h : lv[j]? = some (i, .int x)) (k : G E R D cy nL P cs sl (pc + 2) lv (.int x :: rest)) : G E R D cy nL P cs sl pc lv rest := by
  obtain ⟨p, l, e, s, m, args, below, meth, c, Q, A⟩ := E
  obtain ⟨hx, hb, hml, hown, hT, hK, hA, hlk⟩ := C
  intro H locs ls hP hD hS hl
  exact lv_iload hx hb d (lv_at hl j h) (k H locs ls hP hD hS hl)
theorem g_lload_n (C : Cx E D cy nL cc own) {z : Fin 4} {i : Nat} {x : Int64} (d : decode cc pc = .ok (.lload_n z, 1)) (hi : (z : Nat) = i) (j : Nat) (h : lv[j]? = some (i, .long x)) (k : G E R D cy nL P cs sl (pc + 1) lv (.long x :: rest)) : G E R D cy nL P cs sl pc lv rest := by
  obtain ⟨p, l, e, s, m, args, below, meth, c, Q, A⟩ := E
  obtain ⟨hx, hb, hml, hown, hT, hK, hA, hlk⟩ := C
  intro H locs ls hP hD hS hl
  exact lv_lload_n hx hb d hi (lv_at hl j h) (k H locs ls hP hD hS hl)
theorem g_lload (C : Cx E D cy nL cc own) {i : Nat} {x : Int64} (d : decode cc pc = .ok (.lload i, 2)) (j : Nat) (h : lv[j]? = some (i, .long x)) (k : G E R D cy nL P cs sl (pc + 2) lv (.long x :: rest)) : G E R D cy nL P cs sl pc lv rest := by
  obtain ⟨p, l, e, s, m, args, below, meth, c, Q, A⟩ := E
  obtain ⟨hx, hb, hml, hown, hT, hK, hA, hlk⟩ := C
  intro H locs ls hP hD hS hl
  exact lv_lload hx hb d (lv_at hl j h) (k H locs ls hP hD hS hl)
theorem g_aload_n (C : Cx E D cy nL cc own) {z : Fin 4} {i : Nat} {x : Nat} (d : decode cc pc = .ok (.aload_n z, 1)) (hi : (z : Nat) = i) (j : Nat) (h : lv[j]? = some (i, .ref x)) (k : G E R D cy nL P cs sl (pc + 1) lv (.ref x :: rest)) : G E R D cy nL P cs sl pc lv rest := by
  obtain ⟨p, l, e, s, m, args, below, meth, c, Q, A⟩ := E
  obtain ⟨hx, hb, hml, hown, hT, hK, hA, hlk⟩ := C
  intro H locs ls hP hD hS hl
  exact lv_aload_n hx hb d hi (lv_at hl j h) (k H locs ls hP hD hS hl)
theorem g_aload (C : Cx E D cy nL cc own) {i : Nat} {x : Nat} (d : decode cc pc = .ok (.aload i, 2)) (j : Nat) (h : lv[j]? = some (i, .ref x)) (k : G E R D cy nL P cs sl (pc + 2) lv (.ref x :: rest)) : G E R D cy nL P cs sl pc lv rest := by
  obtain ⟨p, l, e, s, m, args, below, meth, c, Q, A⟩ := E
  obtain ⟨hx, hb, hml, hown, hT, hK, hA, hlk⟩ := C
  intro H locs ls hP hD hS hl
  exact lv_aload hx hb d (lv_at hl j h) (k H locs ls hP hD hS hl)
theorem g_aload_nN (C : Cx E D cy nL cc own) {z : Fin 4} {i : Nat} (d : decode cc pc = .ok (.aload_n z, 1)) (hi : (z : Nat) = i) (j : Nat) (h : lv[j]? = some (i, .null)) (k : G E R D cy nL P cs sl (pc + 1) lv (.null :: rest)) : G E R D cy nL P cs sl pc lv rest := by
  obtain ⟨p, l, e, s, m, args, below, meth, c, Q, A⟩ := E
  obtain ⟨hx, hb, hml, hown, hT, hK, hA, hlk⟩ := C
  intro H locs ls hP hD hS hl
  exact lv_aload_nN hx hb d hi (lv_at hl j h) (k H locs ls hP hD hS hl)
theorem g_istore_n (C : Cx E D cy nL cc own) {z : Fin 4} {i : Nat} {x : Int32} (d : decode cc pc = .ok (.istore_n z, 1)) (hi : (z : Nat) = i) (hn : i < nL) (hv : (i, Value.int x) :: lv.filter (fun q => !(q.1 == i) && !(q.1 + 1 == i && q.2.category == 2)) = lv') (k : G E R D cy nL P cs sl (pc + 1) lv' rest) : G E R D cy nL P cs sl pc lv (.int x :: rest) := by
  obtain ⟨p, l, e, s, m, args, below, meth, c, Q, A⟩ := E
  obtain ⟨hx, hb, hml, hown, hT, hK, hA, hlk⟩ := C
  intro H locs ls hP hD hS hl
  exact lv_istore_n hx hb d hi hl hn hv (fun ls' hl' => k H locs ls' hP hD hS hl')
theorem g_istore (C : Cx E D cy nL cc own) {i : Nat} {x : Int32} (d : decode cc pc = .ok (.istore i, 2)) (hn : i < nL) (hv : (i, Value.int x) :: lv.filter (fun q => !(q.1 == i) && !(q.1 + 1 == i && q.2.category == 2)) = lv') (k : G E R D cy nL P cs sl (pc + 2) lv' rest) : G E R D cy nL P cs sl pc lv (.int x :: rest) := by
  obtain ⟨p, l, e, s, m, args, below, meth, c, Q, A⟩ := E
  obtain ⟨hx, hb, hml, hown, hT, hK, hA, hlk⟩ := C
  intro H locs ls hP hD hS hl
  exact lv_istore hx hb d hl hn hv (fun ls' hl' => k H locs ls' hP hD hS hl')
theorem g_lstore_n (C : Cx E D cy nL cc own) {z : Fin 4} {i : Nat} {x : Int64} (d : decode cc pc = .ok (.lstore_n z, 1)) (hi : (z : Nat) = i) (hn : i + 1 < nL) (hv : (i, Value.long x) :: lv.filter (fun q => !(q.1 == i) && (!(q.1 == i + 1) && !(q.1 + 1 == i && q.2.category == 2))) = lv') (k : G E R D cy nL P cs sl (pc + 1) lv' rest) : G E R D cy nL P cs sl pc lv (.long x :: rest) := by
  obtain ⟨p, l, e, s, m, args, below, meth, c, Q, A⟩ := E
  obtain ⟨hx, hb, hml, hown, hT, hK, hA, hlk⟩ := C
  intro H locs ls hP hD hS hl
  exact lv_lstore_n hx hb d hi hl hn hv (fun ls' hl' => k H locs ls' hP hD hS hl')
theorem g_lstore (C : Cx E D cy nL cc own) {i : Nat} {x : Int64} (d : decode cc pc = .ok (.lstore i, 2)) (hn : i + 1 < nL) (hv : (i, Value.long x) :: lv.filter (fun q => !(q.1 == i) && (!(q.1 == i + 1) && !(q.1 + 1 == i && q.2.category == 2))) = lv') (k : G E R D cy nL P cs sl (pc + 2) lv' rest) : G E R D cy nL P cs sl pc lv (.long x :: rest) := by
  obtain ⟨p, l, e, s, m, args, below, meth, c, Q, A⟩ := E
  obtain ⟨hx, hb, hml, hown, hT, hK, hA, hlk⟩ := C
  intro H locs ls hP hD hS hl
  exact lv_lstore hx hb d hl hn hv (fun ls' hl' => k H locs ls' hP hD hS hl')
theorem g_astore_n (C : Cx E D cy nL cc own) {z : Fin 4} {i : Nat} {x : Nat} (d : decode cc pc = .ok (.astore_n z, 1)) (hi : (z : Nat) = i) (hn : i < nL) (hv : (i, Value.ref x) :: lv.filter (fun q => !(q.1 == i) && !(q.1 + 1 == i && q.2.category == 2)) = lv') (k : G E R D cy nL P cs sl (pc + 1) lv' rest) : G E R D cy nL P cs sl pc lv (.ref x :: rest) := by
  obtain ⟨p, l, e, s, m, args, below, meth, c, Q, A⟩ := E
  obtain ⟨hx, hb, hml, hown, hT, hK, hA, hlk⟩ := C
  intro H locs ls hP hD hS hl
  exact lv_astore_n hx hb d hi hl hn hv (fun ls' hl' => k H locs ls' hP hD hS hl')
theorem g_astore (C : Cx E D cy nL cc own) {i : Nat} {x : Nat} (d : decode cc pc = .ok (.astore i, 2)) (hn : i < nL) (hv : (i, Value.ref x) :: lv.filter (fun q => !(q.1 == i) && !(q.1 + 1 == i && q.2.category == 2)) = lv') (k : G E R D cy nL P cs sl (pc + 2) lv' rest) : G E R D cy nL P cs sl pc lv (.ref x :: rest) := by
  obtain ⟨p, l, e, s, m, args, below, meth, c, Q, A⟩ := E
  obtain ⟨hx, hb, hml, hown, hT, hK, hA, hlk⟩ := C
  intro H locs ls hP hD hS hl
  exact lv_astore hx hb d hl hn hv (fun ls' hl' => k H locs ls' hP hD hS hl')
theorem g_iinc (C : Cx E D cy nL cc own) {i : Nat} {n : Int} {x v : Int32} (d : decode cc pc = .ok (.iinc i n, 3)) (j : Nat) (h : lv[j]? = some (i, .int x)) (hv : x + Int32.ofInt n = v) (hn : i < nL) (hw : (i, Value.int v) :: lv.filter (fun q => !(q.1 == i) && !(q.1 + 1 == i && q.2.category == 2)) = lv') (k : G E R D cy nL P cs sl (pc + 3) lv' rest) : G E R D cy nL P cs sl pc lv rest := by
  obtain ⟨p, l, e, s, m, args, below, meth, c, Q, A⟩ := E
  obtain ⟨hx, hb, hml, hown, hT, hK, hA, hlk⟩ := C
  intro H locs ls hP hD hS hl
  exact lv_iinc hx hb d hl h hv hn hw (fun ls' hl' => k H locs ls' hP hD hS hl')
theorem g_iadd (C : Cx E D cy nL cc own) {x y : Int32} (d : decode cc pc = .ok (.iadd, 1)) (k : G E R D cy nL P cs sl (pc + 1) lv (.int (x + y) :: rest)) : G E R D cy nL P cs sl pc lv (.int y :: .int x :: rest) := by
  obtain ⟨p, l, e, s, m, args, below, meth, c, Q, A⟩ := E
  obtain ⟨hx, hb, hml, hown, hT, hK, hA, hlk⟩ := C
  intro H locs ls hP hD hS hl
  exact lv_iadd hx hb d (k H locs ls hP hD hS hl)
theorem g_isub (C : Cx E D cy nL cc own) {x y : Int32} (d : decode cc pc = .ok (.isub, 1)) (k : G E R D cy nL P cs sl (pc + 1) lv (.int (x - y) :: rest)) : G E R D cy nL P cs sl pc lv (.int y :: .int x :: rest) := by
  obtain ⟨p, l, e, s, m, args, below, meth, c, Q, A⟩ := E
  obtain ⟨hx, hb, hml, hown, hT, hK, hA, hlk⟩ := C
  intro H locs ls hP hD hS hl
  exact lv_isub hx hb d (k H locs ls hP hD hS hl)
theorem g_imul (C : Cx E D cy nL cc own) {x y : Int32} (d : decode cc pc = .ok (.imul, 1)) (k : G E R D cy nL P cs sl (pc + 1) lv (.int (x * y) :: rest)) : G E R D cy nL P cs sl pc lv (.int y :: .int x :: rest) := by
  obtain ⟨p, l, e, s, m, args, below, meth, c, Q, A⟩ := E
  obtain ⟨hx, hb, hml, hown, hT, hK, hA, hlk⟩ := C
  intro H locs ls hP hD hS hl
  exact lv_imul hx hb d (k H locs ls hP hD hS hl)
theorem g_iand (C : Cx E D cy nL cc own) {x y : Int32} (d : decode cc pc = .ok (.iand, 1)) (k : G E R D cy nL P cs sl (pc + 1) lv (.int (x &&& y) :: rest)) : G E R D cy nL P cs sl pc lv (.int y :: .int x :: rest) := by
  obtain ⟨p, l, e, s, m, args, below, meth, c, Q, A⟩ := E
  obtain ⟨hx, hb, hml, hown, hT, hK, hA, hlk⟩ := C
  intro H locs ls hP hD hS hl
  exact lv_iand hx hb d (k H locs ls hP hD hS hl)
theorem g_ior (C : Cx E D cy nL cc own) {x y : Int32} (d : decode cc pc = .ok (.ior, 1)) (k : G E R D cy nL P cs sl (pc + 1) lv (.int (x ||| y) :: rest)) : G E R D cy nL P cs sl pc lv (.int y :: .int x :: rest) := by
  obtain ⟨p, l, e, s, m, args, below, meth, c, Q, A⟩ := E
  obtain ⟨hx, hb, hml, hown, hT, hK, hA, hlk⟩ := C
  intro H locs ls hP hD hS hl
  exact lv_ior hx hb d (k H locs ls hP hD hS hl)
theorem g_ixor (C : Cx E D cy nL cc own) {x y : Int32} (d : decode cc pc = .ok (.ixor, 1)) (k : G E R D cy nL P cs sl (pc + 1) lv (.int (x ^^^ y) :: rest)) : G E R D cy nL P cs sl pc lv (.int y :: .int x :: rest) := by
  obtain ⟨p, l, e, s, m, args, below, meth, c, Q, A⟩ := E
  obtain ⟨hx, hb, hml, hown, hT, hK, hA, hlk⟩ := C
  intro H locs ls hP hD hS hl
  exact lv_ixor hx hb d (k H locs ls hP hD hS hl)
theorem g_ishl (C : Cx E D cy nL cc own) {x y : Int32} (d : decode cc pc = .ok (.ishl, 1)) (k : G E R D cy nL P cs sl (pc + 1) lv (.int (x <<< (y &&& 31)) :: rest)) : G E R D cy nL P cs sl pc lv (.int y :: .int x :: rest) := by
  obtain ⟨p, l, e, s, m, args, below, meth, c, Q, A⟩ := E
  obtain ⟨hx, hb, hml, hown, hT, hK, hA, hlk⟩ := C
  intro H locs ls hP hD hS hl
  exact lv_ishl hx hb d (k H locs ls hP hD hS hl)
theorem g_ishr (C : Cx E D cy nL cc own) {x y : Int32} (d : decode cc pc = .ok (.ishr, 1)) (k : G E R D cy nL P cs sl (pc + 1) lv (.int (x >>> (y &&& 31)) :: rest)) : G E R D cy nL P cs sl pc lv (.int y :: .int x :: rest) := by
  obtain ⟨p, l, e, s, m, args, below, meth, c, Q, A⟩ := E
  obtain ⟨hx, hb, hml, hown, hT, hK, hA, hlk⟩ := C
  intro H locs ls hP hD hS hl
  exact lv_ishr hx hb d (k H locs ls hP hD hS hl)
theorem g_iushr (C : Cx E D cy nL cc own) {x y v : Int32} (d : decode cc pc = .ok (.iushr, 1)) (hv : (x.toUInt32 >>> (y.toUInt32 &&& Int32.toUInt32 31)).toInt32 = v) (k : G E R D cy nL P cs sl (pc + 1) lv (.int v :: rest)) : G E R D cy nL P cs sl pc lv (.int y :: .int x :: rest) := by
  obtain ⟨p, l, e, s, m, args, below, meth, c, Q, A⟩ := E
  obtain ⟨hx, hb, hml, hown, hT, hK, hA, hlk⟩ := C
  intro H locs ls hP hD hS hl
  exact lv_iushr hx hb d hv (k H locs ls hP hD hS hl)
theorem g_ineg (C : Cx E D cy nL cc own) {x : Int32} (d : decode cc pc = .ok (.ineg, 1)) (k : G E R D cy nL P cs sl (pc + 1) lv (.int (-x) :: rest)) : G E R D cy nL P cs sl pc lv (.int x :: rest) := by
  obtain ⟨p, l, e, s, m, args, below, meth, c, Q, A⟩ := E
  obtain ⟨hx, hb, hml, hown, hT, hK, hA, hlk⟩ := C
  intro H locs ls hP hD hS hl
  exact lv_ineg hx hb d (k H locs ls hP hD hS hl)
theorem g_idiv (C : Cx E D cy nL cc own) {x y : Int32} (d : decode cc pc = .ok (.idiv, 1)) (hne : ¬ y = 0) (k : G E R D cy nL P cs sl (pc + 1) lv (.int (x / y) :: rest)) : G E R D cy nL P cs sl pc lv (.int y :: .int x :: rest) := by
  obtain ⟨p, l, e, s, m, args, below, meth, c, Q, A⟩ := E
  obtain ⟨hx, hb, hml, hown, hT, hK, hA, hlk⟩ := C
  intro H locs ls hP hD hS hl
  exact lv_idiv hx hb d hne (k H locs ls hP hD hS hl)
theorem g_irem (C : Cx E D cy nL cc own) {x y : Int32} (d : decode cc pc = .ok (.irem, 1)) (hne : ¬ y = 0) (k : G E R D cy nL P cs sl (pc + 1) lv (.int (x - x / y * y) :: rest)) : G E R D cy nL P cs sl pc lv (.int y :: .int x :: rest) := by
  obtain ⟨p, l, e, s, m, args, below, meth, c, Q, A⟩ := E
  obtain ⟨hx, hb, hml, hown, hT, hK, hA, hlk⟩ := C
  intro H locs ls hP hD hS hl
  exact lv_irem hx hb d hne (k H locs ls hP hD hS hl)
theorem g_ladd (C : Cx E D cy nL cc own) {x y : Int64} (d : decode cc pc = .ok (.ladd, 1)) (k : G E R D cy nL P cs sl (pc + 1) lv (.long (x + y) :: rest)) : G E R D cy nL P cs sl pc lv (.long y :: .long x :: rest) := by
  obtain ⟨p, l, e, s, m, args, below, meth, c, Q, A⟩ := E
  obtain ⟨hx, hb, hml, hown, hT, hK, hA, hlk⟩ := C
  intro H locs ls hP hD hS hl
  exact lv_ladd hx hb d (k H locs ls hP hD hS hl)
theorem g_lsub (C : Cx E D cy nL cc own) {x y : Int64} (d : decode cc pc = .ok (.lsub, 1)) (k : G E R D cy nL P cs sl (pc + 1) lv (.long (x - y) :: rest)) : G E R D cy nL P cs sl pc lv (.long y :: .long x :: rest) := by
  obtain ⟨p, l, e, s, m, args, below, meth, c, Q, A⟩ := E
  obtain ⟨hx, hb, hml, hown, hT, hK, hA, hlk⟩ := C
  intro H locs ls hP hD hS hl
  exact lv_lsub hx hb d (k H locs ls hP hD hS hl)
theorem g_lmul (C : Cx E D cy nL cc own) {x y : Int64} (d : decode cc pc = .ok (.lmul, 1)) (k : G E R D cy nL P cs sl (pc + 1) lv (.long (x * y) :: rest)) : G E R D cy nL P cs sl pc lv (.long y :: .long x :: rest) := by
  obtain ⟨p, l, e, s, m, args, below, meth, c, Q, A⟩ := E
  obtain ⟨hx, hb, hml, hown, hT, hK, hA, hlk⟩ := C
  intro H locs ls hP hD hS hl
  exact lv_lmul hx hb d (k H locs ls hP hD hS hl)
theorem g_land (C : Cx E D cy nL cc own) {x y : Int64} (d : decode cc pc = .ok (.land, 1)) (k : G E R D cy nL P cs sl (pc + 1) lv (.long (x &&& y) :: rest)) : G E R D cy nL P cs sl pc lv (.long y :: .long x :: rest) := by
  obtain ⟨p, l, e, s, m, args, below, meth, c, Q, A⟩ := E
  obtain ⟨hx, hb, hml, hown, hT, hK, hA, hlk⟩ := C
  intro H locs ls hP hD hS hl
  exact lv_land hx hb d (k H locs ls hP hD hS hl)
theorem g_lor (C : Cx E D cy nL cc own) {x y : Int64} (d : decode cc pc = .ok (.lor, 1)) (k : G E R D cy nL P cs sl (pc + 1) lv (.long (x ||| y) :: rest)) : G E R D cy nL P cs sl pc lv (.long y :: .long x :: rest) := by
  obtain ⟨p, l, e, s, m, args, below, meth, c, Q, A⟩ := E
  obtain ⟨hx, hb, hml, hown, hT, hK, hA, hlk⟩ := C
  intro H locs ls hP hD hS hl
  exact lv_lor hx hb d (k H locs ls hP hD hS hl)
theorem g_lxor (C : Cx E D cy nL cc own) {x y : Int64} (d : decode cc pc = .ok (.lxor, 1)) (k : G E R D cy nL P cs sl (pc + 1) lv (.long (x ^^^ y) :: rest)) : G E R D cy nL P cs sl pc lv (.long y :: .long x :: rest) := by
  obtain ⟨p, l, e, s, m, args, below, meth, c, Q, A⟩ := E
  obtain ⟨hx, hb, hml, hown, hT, hK, hA, hlk⟩ := C
  intro H locs ls hP hD hS hl
  exact lv_lxor hx hb d (k H locs ls hP hD hS hl)
theorem g_ldiv (C : Cx E D cy nL cc own) {x y : Int64} (d : decode cc pc = .ok (.ldiv, 1)) (hne : ¬ y = 0) (k : G E R D cy nL P cs sl (pc + 1) lv (.long (x / y) :: rest)) : G E R D cy nL P cs sl pc lv (.long y :: .long x :: rest) := by
  obtain ⟨p, l, e, s, m, args, below, meth, c, Q, A⟩ := E
  obtain ⟨hx, hb, hml, hown, hT, hK, hA, hlk⟩ := C
  intro H locs ls hP hD hS hl
  exact lv_ldiv hx hb d hne (k H locs ls hP hD hS hl)
theorem g_lrem (C : Cx E D cy nL cc own) {x y : Int64} (d : decode cc pc = .ok (.lrem, 1)) (hne : ¬ y = 0) (k : G E R D cy nL P cs sl (pc + 1) lv (.long (x - x / y * y) :: rest)) : G E R D cy nL P cs sl pc lv (.long y :: .long x :: rest) := by
  obtain ⟨p, l, e, s, m, args, below, meth, c, Q, A⟩ := E
  obtain ⟨hx, hb, hml, hown, hT, hK, hA, hlk⟩ := C
  intro H locs ls hP hD hS hl
  exact lv_lrem hx hb d hne (k H locs ls hP hD hS hl)
theorem g_lushr (C : Cx E D cy nL cc own) {x v : Int64} {y : Int32} (d : decode cc pc = .ok (.lushr, 1)) (hv : (x.toUInt64 >>> (y.toInt64.toUInt64 &&& Int64.toUInt64 63)).toInt64 = v) (k : G E R D cy nL P cs sl (pc + 1) lv (.long v :: rest)) : G E R D cy nL P cs sl pc lv (.int y :: .long x :: rest) := by
  obtain ⟨p, l, e, s, m, args, below, meth, c, Q, A⟩ := E
  obtain ⟨hx, hb, hml, hown, hT, hK, hA, hlk⟩ := C
  intro H locs ls hP hD hS hl
  exact lv_lushr hx hb d hv (k H locs ls hP hD hS hl)
theorem g_lshr (C : Cx E D cy nL cc own) {x v : Int64} {y : Int32} (d : decode cc pc = .ok (.lshr, 1)) (hv : x >>> (y.toInt64 &&& 63) = v) (k : G E R D cy nL P cs sl (pc + 1) lv (.long v :: rest)) : G E R D cy nL P cs sl pc lv (.int y :: .long x :: rest) := by
  obtain ⟨p, l, e, s, m, args, below, meth, c, Q, A⟩ := E
  obtain ⟨hx, hb, hml, hown, hT, hK, hA, hlk⟩ := C
  intro H locs ls hP hD hS hl
  exact lv_lshr hx hb d hv (k H locs ls hP hD hS hl)
theorem g_lshl (C : Cx E D cy nL cc own) {x v : Int64} {y : Int32} (d : decode cc pc = .ok (.lshl, 1)) (hv : x <<< (y.toInt64 &&& 63) = v) (k : G E R D cy nL P cs sl (pc + 1) lv (.long v :: rest)) : G E R D cy nL P cs sl pc lv (.int y :: .long x :: rest) := by
  obtain ⟨p, l, e, s, m, args, below, meth, c, Q, A⟩ := E
  obtain ⟨hx, hb, hml, hown, hT, hK, hA, hlk⟩ := C
  intro H locs ls hP hD hS hl
  exact lv_lshl hx hb d hv (k H locs ls hP hD hS hl)
theorem g_i2l (C : Cx E D cy nL cc own) {x : Int32} {v : Int64} (d : decode cc pc = .ok (.i2l, 1)) (hv : x.toInt64 = v) (k : G E R D cy nL P cs sl (pc + 1) lv (.long v :: rest)) : G E R D cy nL P cs sl pc lv (.int x :: rest) := by
  obtain ⟨p, l, e, s, m, args, below, meth, c, Q, A⟩ := E
  obtain ⟨hx, hb, hml, hown, hT, hK, hA, hlk⟩ := C
  intro H locs ls hP hD hS hl
  exact lv_i2l hx hb d hv (k H locs ls hP hD hS hl)
theorem g_l2i (C : Cx E D cy nL cc own) {x : Int64} {v : Int32} (d : decode cc pc = .ok (.l2i, 1)) (hv : x.toInt32 = v) (k : G E R D cy nL P cs sl (pc + 1) lv (.int v :: rest)) : G E R D cy nL P cs sl pc lv (.long x :: rest) := by
  obtain ⟨p, l, e, s, m, args, below, meth, c, Q, A⟩ := E
  obtain ⟨hx, hb, hml, hown, hT, hK, hA, hlk⟩ := C
  intro H locs ls hP hD hS hl
  exact lv_l2i hx hb d hv (k H locs ls hP hD hS hl)
theorem g_lcmp (C : Cx E D cy nL cc own) {x y : Int64} (d : decode cc pc = .ok (.lcmp, 1)) (k : G E R D cy nL P cs sl (pc + 1) lv (.int (lg_cmp x y) :: rest)) : G E R D cy nL P cs sl pc lv (.long y :: .long x :: rest) := by
  obtain ⟨p, l, e, s, m, args, below, meth, c, Q, A⟩ := E
  obtain ⟨hx, hb, hml, hown, hT, hK, hA, hlk⟩ := C
  intro H locs ls hP hD hS hl
  exact W.lcmp hx hb d (k H locs ls hP hD hS hl)
theorem g_dup (C : Cx E D cy nL cc own) {va : Value} (d : decode cc pc = .ok (.dup, 1)) (hva : va.category = 1) (k : G E R D cy nL P cs sl (pc + 1) lv (va :: va :: rest)) : G E R D cy nL P cs sl pc lv (va :: rest) := by
  obtain ⟨p, l, e, s, m, args, below, meth, c, Q, A⟩ := E
  obtain ⟨hx, hb, hml, hown, hT, hK, hA, hlk⟩ := C
  intro H locs ls hP hD hS hl
  exact lv_dup hx hb d hva (k H locs ls hP hD hS hl)
theorem g_pop (C : Cx E D cy nL cc own) {va : Value} (d : decode cc pc = .ok (.pop, 1)) (hva : va.category = 1) (k : G E R D cy nL P cs sl (pc + 1) lv rest) : G E R D cy nL P cs sl pc lv (va :: rest) := by
  obtain ⟨p, l, e, s, m, args, below, meth, c, Q, A⟩ := E
  obtain ⟨hx, hb, hml, hown, hT, hK, hA, hlk⟩ := C
  intro H locs ls hP hD hS hl
  exact lv_pop hx hb d hva (k H locs ls hP hD hS hl)
theorem g_dup_x1 (C : Cx E D cy nL cc own) {va vb : Value} (d : decode cc pc = .ok (.dup_x1, 1)) (hva : va.category = 1) (hvb : vb.category = 1) (k : G E R D cy nL P cs sl (pc + 1) lv (va :: vb :: va :: rest)) : G E R D cy nL P cs sl pc lv (va :: vb :: rest) := by
  obtain ⟨p, l, e, s, m, args, below, meth, c, Q, A⟩ := E
  obtain ⟨hx, hb, hml, hown, hT, hK, hA, hlk⟩ := C
  intro H locs ls hP hD hS hl
  exact lv_dup_x1 hx hb d hva hvb (k H locs ls hP hD hS hl)
theorem g_dup_x2 (C : Cx E D cy nL cc own) {va vb vc : Value} (d : decode cc pc = .ok (.dup_x2, 1)) (hva : va.category = 1) (hvb : vb.category = 1) (hvc : vc.category = 1) (k : G E R D cy nL P cs sl (pc + 1) lv (va :: vb :: vc :: va :: rest)) : G E R D cy nL P cs sl pc lv (va :: vb :: vc :: rest) := by
  obtain ⟨p, l, e, s, m, args, below, meth, c, Q, A⟩ := E
  obtain ⟨hx, hb, hml, hown, hT, hK, hA, hlk⟩ := C
  intro H locs ls hP hD hS hl
  exact lv_dup_x2 hx hb d hva hvb hvc (k H locs ls hP hD hS hl)
theorem g_dup2_11 (C : Cx E D cy nL cc own) {va vb : Value} (d : decode cc pc = .ok (.dup2, 1)) (hva : va.category = 1) (hvb : vb.category = 1) (k : G E R D cy nL P cs sl (pc + 1) lv (va :: vb :: va :: vb :: rest)) : G E R D cy nL P cs sl pc lv (va :: vb :: rest) := by
  obtain ⟨p, l, e, s, m, args, below, meth, c, Q, A⟩ := E
  obtain ⟨hx, hb, hml, hown, hT, hK, hA, hlk⟩ := C
  intro H locs ls hP hD hS hl
  exact lv_dup2_11 hx hb d hva hvb (k H locs ls hP hD hS hl)
theorem g_topi {x : Int32} (k : ∀ y : Int32, y = x → G E R D cy nL P cs sl pc lv (.int y :: rest)) : G E R D cy nL P cs sl pc lv (.int x :: rest) := k x rfl
theorem g_topl {x : Int64} (k : ∀ y : Int64, y = x → G E R D cy nL P cs sl pc lv (.long y :: rest)) : G E R D cy nL P cs sl pc lv (.long x :: rest) := k x rfl
theorem g_st {st2 : List Value} (h : st = st2) (k : G E R D cy nL P cs sl pc lv st2) : G E R D cy nL P cs sl pc lv st := h ▸ k
theorem g_lv (js : List Nat) (h : lv_pick lv js = lv') (k : G E R D cy nL P cs sl pc lv' st) : G E R D cy nL P cs sl pc lv st := by
  obtain ⟨p, l, e, s, m, args, below, meth, c, Q, A⟩ := E
  exact fun H locs ls hP hD hS hl => k H locs ls hP hD hS (lv_sub hl js h)
theorem g_widen {cs2 sl2 : Nat} (h1 : cs ≤ cs2) (h2 : sl ≤ sl2) (k : G E R D cy nL P cs2 sl2 pc lv st) : G E R D cy nL P cs sl pc lv st := by
  obtain ⟨p, l, e, s, m, args, below, meth, c, Q, A⟩ := E
  exact fun H locs ls hP hD hS hl => W.widen h1 h2 (k H locs ls hP hD hS hl)
theorem g_if_eq (C : Cx E D cy nL cc own) {x : Int32} {off : Int} (tgt : Nat) (d : decode cc pc = .ok (.ifCond .eq off, 3)) (ht : (pc : Int) + off = (tgt : Int)) (kt : x = 0 → G E R D cy nL P cs sl tgt lv rest) (kf : ¬ (x = 0) → G E R D cy nL P cs sl (pc + 3) lv rest) : G E R D cy nL P cs sl pc lv (.int x :: rest) := by
  obtain ⟨p, l, e, s, m, args, below, meth, c, Q, A⟩ := E
  obtain ⟨hx, hb, hml, hown, hT, hK, hA, hlk⟩ := C
  intro H locs ls hP hD hS hl
  exact lv_if_eq hx hb d ht (fun q => kt q H locs ls hP hD hS hl) (fun q => kf q H locs ls hP hD hS hl)
theorem g_icmp_eq (C : Cx E D cy nL cc own) {x y : Int32} {off : Int} (tgt : Nat) (d : decode cc pc = .ok (.if_icmp .eq off, 3)) (ht : (pc : Int) + off = (tgt : Int)) (kt : x = y → G E R D cy nL P cs sl tgt lv rest) (kf : ¬ (x = y) → G E R D cy nL P cs sl (pc + 3) lv rest) : G E R D cy nL P cs sl pc lv (.int y :: .int x :: rest) := by
  obtain ⟨p, l, e, s, m, args, below, meth, c, Q, A⟩ := E
  obtain ⟨hx, hb, hml, hown, hT, hK, hA, hlk⟩ := C
  intro H locs ls hP hD hS hl
  exact lv_icmp_eq hx hb d ht (fun q => kt q H locs ls hP hD hS hl) (fun q => kf q H locs ls hP hD hS hl)
theorem g_if_ne (C : Cx E D cy nL cc own) {x : Int32} {off : Int} (tgt : Nat) (d : decode cc pc = .ok (.ifCond .ne off, 3)) (ht : (pc : Int) + off = (tgt : Int)) (kt : ¬ x = 0 → G E R D cy nL P cs sl tgt lv rest) (kf : x = 0 → G E R D cy nL P cs sl (pc + 3) lv rest) : G E R D cy nL P cs sl pc lv (.int x :: rest) := by
  obtain ⟨p, l, e, s, m, args, below, meth, c, Q, A⟩ := E
  obtain ⟨hx, hb, hml, hown, hT, hK, hA, hlk⟩ := C
  intro H locs ls hP hD hS hl
  exact lv_if_ne hx hb d ht (fun q => kt q H locs ls hP hD hS hl) (fun q => kf q H locs ls hP hD hS hl)
theorem g_icmp_ne (C : Cx E D cy nL cc own) {x y : Int32} {off : Int} (tgt : Nat) (d : decode cc pc = .ok (.if_icmp .ne off, 3)) (ht : (pc : Int) + off = (tgt : Int)) (kt : ¬ x = y → G E R D cy nL P cs sl tgt lv rest) (kf : x = y → G E R D cy nL P cs sl (pc + 3) lv rest) : G E R D cy nL P cs sl pc lv (.int y :: .int x :: rest) := by
  obtain ⟨p, l, e, s, m, args, below, meth, c, Q, A⟩ := E
  obtain ⟨hx, hb, hml, hown, hT, hK, hA, hlk⟩ := C
  intro H locs ls hP hD hS hl
  exact lv_icmp_ne hx hb d ht (fun q => kt q H locs ls hP hD hS hl) (fun q => kf q H locs ls hP hD hS hl)
theorem g_if_lt (C : Cx E D cy nL cc own) {x : Int32} {off : Int} (tgt : Nat) (d : decode cc pc = .ok (.ifCond .lt off, 3)) (ht : (pc : Int) + off = (tgt : Int)) (kt : x < 0 → G E R D cy nL P cs sl tgt lv rest) (kf : ¬ (x < 0) → G E R D cy nL P cs sl (pc + 3) lv rest) : G E R D cy nL P cs sl pc lv (.int x :: rest) := by
  obtain ⟨p, l, e, s, m, args, below, meth, c, Q, A⟩ := E
  obtain ⟨hx, hb, hml, hown, hT, hK, hA, hlk⟩ := C
  intro H locs ls hP hD hS hl
  exact lv_if_lt hx hb d ht (fun q => kt q H locs ls hP hD hS hl) (fun q => kf q H locs ls hP hD hS hl)
theorem g_icmp_lt (C : Cx E D cy nL cc own) {x y : Int32} {off : Int} (tgt : Nat) (d : decode cc pc = .ok (.if_icmp .lt off, 3)) (ht : (pc : Int) + off = (tgt : Int)) (kt : x < y → G E R D cy nL P cs sl tgt lv rest) (kf : ¬ (x < y) → G E R D cy nL P cs sl (pc + 3) lv rest) : G E R D cy nL P cs sl pc lv (.int y :: .int x :: rest) := by
  obtain ⟨p, l, e, s, m, args, below, meth, c, Q, A⟩ := E
  obtain ⟨hx, hb, hml, hown, hT, hK, hA, hlk⟩ := C
  intro H locs ls hP hD hS hl
  exact lv_icmp_lt hx hb d ht (fun q => kt q H locs ls hP hD hS hl) (fun q => kf q H locs ls hP hD hS hl)
theorem g_if_ge (C : Cx E D cy nL cc own) {x : Int32} {off : Int} (tgt : Nat) (d : decode cc pc = .ok (.ifCond .ge off, 3)) (ht : (pc : Int) + off = (tgt : Int)) (kt : 0 ≤ x → G E R D cy nL P cs sl tgt lv rest) (kf : ¬ (0 ≤ x) → G E R D cy nL P cs sl (pc + 3) lv rest) : G E R D cy nL P cs sl pc lv (.int x :: rest) := by
  obtain ⟨p, l, e, s, m, args, below, meth, c, Q, A⟩ := E
  obtain ⟨hx, hb, hml, hown, hT, hK, hA, hlk⟩ := C
  intro H locs ls hP hD hS hl
  exact lv_if_ge hx hb d ht (fun q => kt q H locs ls hP hD hS hl) (fun q => kf q H locs ls hP hD hS hl)
theorem g_icmp_ge (C : Cx E D cy nL cc own) {x y : Int32} {off : Int} (tgt : Nat) (d : decode cc pc = .ok (.if_icmp .ge off, 3)) (ht : (pc : Int) + off = (tgt : Int)) (kt : y ≤ x → G E R D cy nL P cs sl tgt lv rest) (kf : ¬ (y ≤ x) → G E R D cy nL P cs sl (pc + 3) lv rest) : G E R D cy nL P cs sl pc lv (.int y :: .int x :: rest) := by
  obtain ⟨p, l, e, s, m, args, below, meth, c, Q, A⟩ := E
  obtain ⟨hx, hb, hml, hown, hT, hK, hA, hlk⟩ := C
  intro H locs ls hP hD hS hl
  exact lv_icmp_ge hx hb d ht (fun q => kt q H locs ls hP hD hS hl) (fun q => kf q H locs ls hP hD hS hl)
theorem g_if_gt (C : Cx E D cy nL cc own) {x : Int32} {off : Int} (tgt : Nat) (d : decode cc pc = .ok (.ifCond .gt off, 3)) (ht : (pc : Int) + off = (tgt : Int)) (kt : 0 < x → G E R D cy nL P cs sl tgt lv rest) (kf : ¬ (0 < x) → G E R D cy nL P cs sl (pc + 3) lv rest) : G E R D cy nL P cs sl pc lv (.int x :: rest) := by
  obtain ⟨p, l, e, s, m, args, below, meth, c, Q, A⟩ := E
  obtain ⟨hx, hb, hml, hown, hT, hK, hA, hlk⟩ := C
  intro H locs ls hP hD hS hl
  exact lv_if_gt hx hb d ht (fun q => kt q H locs ls hP hD hS hl) (fun q => kf q H locs ls hP hD hS hl)
theorem g_icmp_gt (C : Cx E D cy nL cc own) {x y : Int32} {off : Int} (tgt : Nat) (d : decode cc pc = .ok (.if_icmp .gt off, 3)) (ht : (pc : Int) + off = (tgt : Int)) (kt : y < x → G E R D cy nL P cs sl tgt lv rest) (kf : ¬ (y < x) → G E R D cy nL P cs sl (pc + 3) lv rest) : G E R D cy nL P cs sl pc lv (.int y :: .int x :: rest) := by
  obtain ⟨p, l, e, s, m, args, below, meth, c, Q, A⟩ := E
  obtain ⟨hx, hb, hml, hown, hT, hK, hA, hlk⟩ := C
  intro H locs ls hP hD hS hl
  exact lv_icmp_gt hx hb d ht (fun q => kt q H locs ls hP hD hS hl) (fun q => kf q H locs ls hP hD hS hl)
theorem g_if_le (C : Cx E D cy nL cc own) {x : Int32} {off : Int} (tgt : Nat) (d : decode cc pc = .ok (.ifCond .le off, 3)) (ht : (pc : Int) + off = (tgt : Int)) (kt : x ≤ 0 → G E R D cy nL P cs sl tgt lv rest) (kf : ¬ (x ≤ 0) → G E R D cy nL P cs sl (pc + 3) lv rest) : G E R D cy nL P cs sl pc lv (.int x :: rest) := by
  obtain ⟨p, l, e, s, m, args, below, meth, c, Q, A⟩ := E
  obtain ⟨hx, hb, hml, hown, hT, hK, hA, hlk⟩ := C
  intro H locs ls hP hD hS hl
  exact lv_if_le hx hb d ht (fun q => kt q H locs ls hP hD hS hl) (fun q => kf q H locs ls hP hD hS hl)
theorem g_icmp_le (C : Cx E D cy nL cc own) {x y : Int32} {off : Int} (tgt : Nat) (d : decode cc pc = .ok (.if_icmp .le off, 3)) (ht : (pc : Int) + off = (tgt : Int)) (kt : x ≤ y → G E R D cy nL P cs sl tgt lv rest) (kf : ¬ (x ≤ y) → G E R D cy nL P cs sl (pc + 3) lv rest) : G E R D cy nL P cs sl pc lv (.int y :: .int x :: rest) := by
  obtain ⟨p, l, e, s, m, args, below, meth, c, Q, A⟩ := E
  obtain ⟨hx, hb, hml, hown, hT, hK, hA, hlk⟩ := C
  intro H locs ls hP hD hS hl
  exact lv_icmp_le hx hb d ht (fun q => kt q H locs ls hP hD hS hl) (fun q => kf q H locs ls hP hD hS hl)
theorem g_goto (C : Cx E D cy nL cc own) {off : Int} (tgt : Nat) (d : decode cc pc = .ok (.goto off, 3)) (ht : (pc : Int) + off = (tgt : Int)) (k : G E R D cy nL P cs sl tgt lv rest) : G E R D cy nL P cs sl pc lv rest := by
  obtain ⟨p, l, e, s, m, args, below, meth, c, Q, A⟩ := E
  obtain ⟨hx, hb, hml, hown, hT, hK, hA, hlk⟩ := C
  intro H locs ls hP hD hS hl
  exact lv_goto hx hb d ht (k H locs ls hP hD hS hl)
theorem g_ifnull (C : Cx E D cy nL cc own) {x : Nat} {off : Int} (d : decode cc pc = .ok (.ifnull off, 3)) (k : G E R D cy nL P cs sl (pc + 3) lv rest) : G E R D cy nL P cs sl pc lv (.ref x :: rest) := by
  obtain ⟨p, l, e, s, m, args, below, meth, c, Q, A⟩ := E
  obtain ⟨hx, hb, hml, hown, hT, hK, hA, hlk⟩ := C
  intro H locs ls hP hD hS hl
  exact lv_ifnull hx hb d (k H locs ls hP hD hS hl)
theorem g_ifnullN (C : Cx E D cy nL cc own) {off : Int} (tgt : Nat) (d : decode cc pc = .ok (.ifnull off, 3)) (ht : (pc : Int) + off = (tgt : Int)) (k : G E R D cy nL P cs sl tgt lv rest) : G E R D cy nL P cs sl pc lv (.null :: rest) := by
  obtain ⟨p, l, e, s, m, args, below, meth, c, Q, A⟩ := E
  obtain ⟨hx, hb, hml, hown, hT, hK, hA, hlk⟩ := C
  intro H locs ls hP hD hS hl
  exact lv_ifnullN hx hb d ht (k H locs ls hP hD hS hl)
theorem g_ifnonnull (C : Cx E D cy nL cc own) {x : Nat} {off : Int} (tgt : Nat) (d : decode cc pc = .ok (.ifnonnull off, 3)) (ht : (pc : Int) + off = (tgt : Int)) (k : G E R D cy nL P cs sl tgt lv rest) : G E R D cy nL P cs sl pc lv (.ref x :: rest) := by
  obtain ⟨p, l, e, s, m, args, below, meth, c, Q, A⟩ := E
  obtain ⟨hx, hb, hml, hown, hT, hK, hA, hlk⟩ := C
  intro H locs ls hP hD hS hl
  exact lv_ifnonnull hx hb d ht (k H locs ls hP hD hS hl)
theorem g_ifnonnullN (C : Cx E D cy nL cc own) {off : Int} (d : decode cc pc = .ok (.ifnonnull off, 3)) (k : G E R D cy nL P cs sl (pc + 3) lv rest) : G E R D cy nL P cs sl pc lv (.null :: rest) := by
  obtain ⟨p, l, e, s, m, args, below, meth, c, Q, A⟩ := E
  obtain ⟨hx, hb, hml, hown, hT, hK, hA, hlk⟩ := C
  intro H locs ls hP hD hS hl
  exact lv_ifnonnullN hx hb d (k H locs ls hP hD hS hl)
theorem g_tableIn (C : Cx E D cy nL cc own) {dflt lo hi : Int} {offs : Array Int} {len : Nat} {x : Int32} {off : Int} (tgt : Nat) (d : decode cc pc = .ok (.tableswitch dflt lo hi offs, len)) (h1 : ¬ x.toInt < lo) (h2 : ¬ hi < x.toInt) (ho : offs[(x.toInt - lo).toNat]? = some off) (ht : (pc : Int) + off = (tgt : Int)) (k : G E R D cy nL P cs sl tgt lv rest) : G E R D cy nL P cs sl pc lv (.int x :: rest) := by
  obtain ⟨p, l, e, s, m, args, below, meth, c, Q, A⟩ := E
  obtain ⟨hx, hb, hml, hown, hT, hK, hA, hlk⟩ := C
  intro H locs ls hP hD hS hl
  exact lv_tableIn hx hb d h1 h2 ho ht (k H locs ls hP hD hS hl)
theorem g_tableOut (C : Cx E D cy nL cc own) {dflt lo hi : Int} {offs : Array Int} {len : Nat} {x : Int32} (tgt : Nat) (d : decode cc pc = .ok (.tableswitch dflt lo hi offs, len)) (h : x.toInt < lo ∨ hi < x.toInt) (ht : (pc : Int) + dflt = (tgt : Int)) (k : G E R D cy nL P cs sl tgt lv rest) : G E R D cy nL P cs sl pc lv (.int x :: rest) := by
  obtain ⟨p, l, e, s, m, args, below, meth, c, Q, A⟩ := E
  obtain ⟨hx, hb, hml, hown, hT, hK, hA, hlk⟩ := C
  intro H locs ls hP hD hS hl
  exact lv_tableOut hx hb d h ht (k H locs ls hP hD hS hl)
theorem g_getI (C : Cx E D cy nL cc own) {idx ci k t a : Nat} {fin : Bool} (f : FI own idx ci k t fin) (ht : t ≠ 1 ∧ t ≠ 2) (haL : a ∈ pL P) (haK : pK P a = ci) (d : decode cc pc = .ok (.getfield idx, 3)) (kk : G E R D cy nL P cs sl (pc + 3) lv (.int (pI P a k) :: rest)) : G E R D cy nL P cs sl pc lv (.ref a :: rest) := by
  obtain ⟨p, l, e, s, m, args, below, meth, c, Q, A⟩ := E
  obtain ⟨hx, hb, hml, hown, hT, hK, hA, hlk⟩ := C
  intro H locs ls hP hD hS hl
  obtain ⟨Cn, T, N, ty, hc, hin, hty, hnm, hk, hl9, hft, hci, hfin, hlen, hdecl, hk9⟩ := f
  obtain ⟨q0, hq⟩ := pw_get (cy := cy) haL
  rw [pe_obj haK hci] at hq
  exact va_get hx hb (fun w hw => hin w hw s hT args) (fun w hw => hw) hown hK hP q0 hq hc k hk (hl9 s hT args) (fun _ h9 => h9) ((fl_get _ _ _ _ hft).trans (congrArg some (show fv t P a k = .int (pI P a k) by simp [fv, ht.1, ht.2]))) d (kk H locs ls hP hD hS hl)
theorem g_getQ (C : Cx E D cy nL cc own) {idx ci k t a : Nat} {fin : Bool} (f : FI own idx ci k t fin) (ht : t = 1) (haL : a ∈ pL P) (haK : pK P a = ci) (d : decode cc pc = .ok (.getfield idx, 3)) (kk : G E R D cy nL P cs sl (pc + 3) lv (va_rf (pR P a k) :: rest)) : G E R D cy nL P cs sl pc lv (.ref a :: rest) := by
  obtain ⟨p, l, e, s, m, args, below, meth, c, Q, A⟩ := E
  obtain ⟨hx, hb, hml, hown, hT, hK, hA, hlk⟩ := C
  intro H locs ls hP hD hS hl
  obtain ⟨Cn, T, N, ty, hc, hin, hty, hnm, hk, hl9, hft, hci, hfin, hlen, hdecl, hk9⟩ := f
  obtain ⟨q0, hq⟩ := pw_get (cy := cy) haL
  rw [pe_obj haK hci] at hq
  exact va_get hx hb (fun w hw => hin w hw s hT args) (fun w hw => hw) hown hK hP q0 hq hc k hk (hl9 s hT args) (fun _ h9 => h9) ((fl_get _ _ _ _ hft).trans (congrArg some (show fv t P a k = va_rf (pR P a k) by simp [fv, ht]))) d (kk H locs ls hP hD hS hl)
theorem g_getR (C : Cx E D cy nL cc own) {idx ci k t a : Nat} {fin : Bool} {b : Nat} (f : FI own idx ci k t fin) (ht : t = 1) (hv : pR P a k = some b) (haL : a ∈ pL P) (haK : pK P a = ci) (d : decode cc pc = .ok (.getfield idx, 3)) (kk : G E R D cy nL P cs sl (pc + 3) lv (.ref b :: rest)) : G E R D cy nL P cs sl pc lv (.ref a :: rest) := by
  obtain ⟨p, l, e, s, m, args, below, meth, c, Q, A⟩ := E
  obtain ⟨hx, hb, hml, hown, hT, hK, hA, hlk⟩ := C
  intro H locs ls hP hD hS hl
  obtain ⟨Cn, T, N, ty, hc, hin, hty, hnm, hk, hl9, hft, hci, hfin, hlen, hdecl, hk9⟩ := f
  obtain ⟨q0, hq⟩ := pw_get (cy := cy) haL
  rw [pe_obj haK hci] at hq
  exact va_get hx hb (fun w hw => hin w hw s hT args) (fun w hw => hw) hown hK hP q0 hq hc k hk (hl9 s hT args) (fun _ h9 => h9) ((fl_get _ _ _ _ hft).trans (congrArg some (show fv t P a k = .ref b by simp [fv, ht, hv, va_rf]))) d (kk H locs ls hP hD hS hl)
theorem g_getJ (C : Cx E D cy nL cc own) {idx ci k t a : Nat} {fin : Bool} (f : FI own idx ci k t fin) (ht : t = 2) (haL : a ∈ pL P) (haK : pK P a = ci) (d : decode cc pc = .ok (.getfield idx, 3)) (kk : G E R D cy nL P cs sl (pc + 3) lv (.long (pJ P a k) :: rest)) : G E R D cy nL P cs sl pc lv (.ref a :: rest) := by
  obtain ⟨p, l, e, s, m, args, below, meth, c, Q, A⟩ := E
  obtain ⟨hx, hb, hml, hown, hT, hK, hA, hlk⟩ := C
  intro H locs ls hP hD hS hl
  obtain ⟨Cn, T, N, ty, hc, hin, hty, hnm, hk, hl9, hft, hci, hfin, hlen, hdecl, hk9⟩ := f
  obtain ⟨q0, hq⟩ := pw_get (cy := cy) haL
  rw [pe_obj haK hci] at hq
  exact va_get hx hb (fun w hw => hin w hw s hT args) (fun w hw => hw) hown hK hP q0 hq hc k hk (hl9 s hT args) (fun _ h9 => h9) ((fl_get _ _ _ _ hft).trans (congrArg some (show fv t P a k = .long (pJ P a k) by simp [fv, ht]))) d (kk H locs ls hP hD hS hl)
theorem g_putI (C : Cx E D cy nL cc own) {idx ci k t a : Nat} {v : Int32} (f : FI own idx ci k t false) (ht : t = 0) (haL : a ∈ pL P) (haK : pK P a = ci) (d : decode cc pc = .ok (.putfield idx, 3)) (kk : G E R D cy nL (pSI P a k v) cs sl (pc + 3) lv rest) : G E R D cy nL P cs sl pc lv (.int v :: .ref a :: rest) := by
  obtain ⟨p, l, e, s, m, args, below, meth, c, Q, A⟩ := E
  obtain ⟨hx, hb, hml, hown, hT, hK, hA, hlk⟩ := C
  intro H locs ls hP hD hS hl
  obtain ⟨Cn, T, N, ty, hc, hin, hty, hnm, hk, hl9, hft, hci, hfin, hlen, hdecl, hk9⟩ := f
  obtain ⟨q0, hq⟩ := pw_get (cy := cy) haL
  have hq2 := hq
  rw [pe_obj haK hci] at hq
  refine va_put hx hb (fun w hw => hin w hw s hT args) (fun w hw => hw) ty hty hnm hown hK hP hD hS q0 hq hc k hk (hl9 s hT args) (fun _ h9 => h9) hfin (hty k hk) (by subst ht; rw [hk9]; rfl) (by subst ht; rw [hk9]; rfl) (by rw [fl_len, hlen]; exact hk) d (fun H1 locs1 hP1 hD1 hS1 => ?_)
  have e9 := pw_set (P' := pSI P a k v) (x := .inr (ci, (fl (ft ci) P a).set k (.int v))) hD haL hq2 rfl (pe_SI haK hci hft (by omega) (by omega))
  rw [e9] at hP1 hD1
  exact kk H1 locs1 ls hP1 hD1 hS1 hl
theorem g_putZ (C : Cx E D cy nL cc own) {idx ci k t a : Nat} {v : Int32} (f : FI own idx ci k t false) (ht : t = 3) (hv : v = 0 ∨ v = 1) (haL : a ∈ pL P) (haK : pK P a = ci) (d : decode cc pc = .ok (.putfield idx, 3)) (kk : G E R D cy nL (pSI P a k v) cs sl (pc + 3) lv rest) : G E R D cy nL P cs sl pc lv (.int v :: .ref a :: rest) := by
  obtain ⟨p, l, e, s, m, args, below, meth, c, Q, A⟩ := E
  obtain ⟨hx, hb, hml, hown, hT, hK, hA, hlk⟩ := C
  intro H locs ls hP hD hS hl
  obtain ⟨Cn, T, N, ty, hc, hin, hty, hnm, hk, hl9, hft, hci, hfin, hlen, hdecl, hk9⟩ := f
  obtain ⟨q0, hq⟩ := pw_get (cy := cy) haL
  have hq2 := hq
  rw [pe_obj haK hci] at hq
  refine va_put hx hb (fun w hw => hin w hw s hT args) (fun w hw => hw) ty hty hnm hown hK hP hD hS q0 hq hc k hk (hl9 s hT args) (fun _ h9 => h9) hfin (hty k hk) (by subst ht; rw [hk9]; rcases hv with rfl | rfl <;> rfl) (by subst ht; rw [hk9]; rcases hv with rfl | rfl <;> rfl) (by rw [fl_len, hlen]; exact hk) d (fun H1 locs1 hP1 hD1 hS1 => ?_)
  have e9 := pw_set (P' := pSI P a k v) (x := .inr (ci, (fl (ft ci) P a).set k (.int v))) hD haL hq2 rfl (pe_SI haK hci hft (by omega) (by omega))
  rw [e9] at hP1 hD1
  exact kk H1 locs1 ls hP1 hD1 hS1 hl
theorem g_putR (C : Cx E D cy nL cc own) {idx ci k t a : Nat} {v : Nat} (f : FI own idx ci k t false) (ht : t = 1) (haL : a ∈ pL P) (haK : pK P a = ci) (d : decode cc pc = .ok (.putfield idx, 3)) (kk : G E R D cy nL (pSR P a k (some v)) cs sl (pc + 3) lv rest) : G E R D cy nL P cs sl pc lv (.ref v :: .ref a :: rest) := by
  obtain ⟨p, l, e, s, m, args, below, meth, c, Q, A⟩ := E
  obtain ⟨hx, hb, hml, hown, hT, hK, hA, hlk⟩ := C
  intro H locs ls hP hD hS hl
  obtain ⟨Cn, T, N, ty, hc, hin, hty, hnm, hk, hl9, hft, hci, hfin, hlen, hdecl, hk9⟩ := f
  obtain ⟨q0, hq⟩ := pw_get (cy := cy) haL
  have hq2 := hq
  rw [pe_obj haK hci] at hq
  refine va_put hx hb (fun w hw => hin w hw s hT args) (fun w hw => hw) ty hty hnm hown hK hP hD hS q0 hq hc k hk (hl9 s hT args) (fun _ h9 => h9) hfin (hty k hk) (by subst ht; rcases hk9 with ⟨_, e⟩ | ⟨_, e⟩ <;> rw [e] <;> rfl) (by subst ht; rcases hk9 with ⟨_, e⟩ | ⟨_, e⟩ <;> rw [e] <;> rfl) (by rw [fl_len, hlen]; exact hk) d (fun H1 locs1 hP1 hD1 hS1 => ?_)
  have e9 := pw_set (P' := pSR P a k (some v)) (x := .inr (ci, (fl (ft ci) P a).set k (.ref v))) hD haL hq2 rfl (fun b => by subst ht; exact pe_SR (v := some v) haK hci hft b)
  rw [e9] at hP1 hD1
  exact kk H1 locs1 ls hP1 hD1 hS1 hl
theorem g_putJ (C : Cx E D cy nL cc own) {idx ci k t a : Nat} {v : Int64} (f : FI own idx ci k t false) (ht : t = 2) (haL : a ∈ pL P) (haK : pK P a = ci) (d : decode cc pc = .ok (.putfield idx, 3)) (kk : G E R D cy nL (pSJ P a k v) cs sl (pc + 3) lv rest) : G E R D cy nL P cs sl pc lv (.long v :: .ref a :: rest) := by
  obtain ⟨p, l, e, s, m, args, below, meth, c, Q, A⟩ := E
  obtain ⟨hx, hb, hml, hown, hT, hK, hA, hlk⟩ := C
  intro H locs ls hP hD hS hl
  obtain ⟨Cn, T, N, ty, hc, hin, hty, hnm, hk, hl9, hft, hci, hfin, hlen, hdecl, hk9⟩ := f
  obtain ⟨q0, hq⟩ := pw_get (cy := cy) haL
  have hq2 := hq
  rw [pe_obj haK hci] at hq
  refine va_put hx hb (fun w hw => hin w hw s hT args) (fun w hw => hw) ty hty hnm hown hK hP hD hS q0 hq hc k hk (hl9 s hT args) (fun _ h9 => h9) hfin (hty k hk) (by subst ht; rw [hk9]; rfl) (by subst ht; rw [hk9]; rfl) (by rw [fl_len, hlen]; exact hk) d (fun H1 locs1 hP1 hD1 hS1 => ?_)
  have e9 := pw_set (P' := pSJ P a k v) (x := .inr (ci, (fl (ft ci) P a).set k (.long v))) hD haL hq2 rfl (fun b => by subst ht; exact pe_SJ haK hci hft b)
  rw [e9] at hP1 hD1
  exact kk H1 locs1 ls hP1 hD1 hS1 hl
theorem g_putFI (C : Cx E D cy nL cc own) {idx ci k t a : Nat} {v : Int32} (f : FI own idx ci k t true) (ci9 : Ci E) (ho : ∃ r, vwCl[ci]? = some r ∧ r.1 = own) (ht : t = 0) (haL : a ∈ pL P) (haK : pK P a = ci) (d : decode cc pc = .ok (.putfield idx, 3)) (kk : G E R D cy nL (pSI P a k v) cs sl (pc + 3) lv rest) : G E R D cy nL P cs sl pc lv (.int v :: .ref a :: rest) := by
  obtain ⟨p, l, e, s, m, args, below, meth, c, Q, A⟩ := E
  obtain ⟨hx, hb, hml, hown, hT, hK, hA, hlk⟩ := C
  intro H locs ls hP hD hS hl
  obtain ⟨Cn, T, N, ty, hc, hin, hty, hnm, hk, hl9, hft, hci, hfin, hlen, hdecl, hk9⟩ := f
  obtain ⟨q0, hq⟩ := pw_get (cy := cy) haL
  have hq2 := hq
  rw [pe_obj haK hci] at hq
  refine va_putF hx hb (fun w hw => hin w hw s hT args) (fun w hw => hw) ty hty hnm hown hK hP hD hS q0 hq hc k hk (hl9 s hT args) (fun _ h9 => h9) hfin ci9 (by obtain ⟨r, h1, h2⟩ := ho; rw [hc] at h1; cases h1; rw [hdecl]; exact h2) (hty k hk) (by subst ht; rw [hk9]; rfl) (by subst ht; rw [hk9]; rfl) (by rw [fl_len, hlen]; exact hk) d (fun H1 locs1 hP1 hD1 hS1 => ?_)
  have e9 := pw_set (P' := pSI P a k v) (x := .inr (ci, (fl (ft ci) P a).set k (.int v))) hD haL hq2 rfl (pe_SI haK hci hft (by omega) (by omega))
  rw [e9] at hP1 hD1
  exact kk H1 locs1 ls hP1 hD1 hS1 hl
theorem g_putFR (C : Cx E D cy nL cc own) {idx ci k t a : Nat} {v : Nat} (f : FI own idx ci k t true) (ci9 : Ci E) (ho : ∃ r, vwCl[ci]? = some r ∧ r.1 = own) (ht : t = 1) (haL : a ∈ pL P) (haK : pK P a = ci) (d : decode cc pc = .ok (.putfield idx, 3)) (kk : G E R D cy nL (pSR P a k (some v)) cs sl (pc + 3) lv rest) : G E R D cy nL P cs sl pc lv (.ref v :: .ref a :: rest) := by
  obtain ⟨p, l, e, s, m, args, below, meth, c, Q, A⟩ := E
  obtain ⟨hx, hb, hml, hown, hT, hK, hA, hlk⟩ := C
  intro H locs ls hP hD hS hl
  obtain ⟨Cn, T, N, ty, hc, hin, hty, hnm, hk, hl9, hft, hci, hfin, hlen, hdecl, hk9⟩ := f
  obtain ⟨q0, hq⟩ := pw_get (cy := cy) haL
  have hq2 := hq
  rw [pe_obj haK hci] at hq
  refine va_putF hx hb (fun w hw => hin w hw s hT args) (fun w hw => hw) ty hty hnm hown hK hP hD hS q0 hq hc k hk (hl9 s hT args) (fun _ h9 => h9) hfin ci9 (by obtain ⟨r, h1, h2⟩ := ho; rw [hc] at h1; cases h1; rw [hdecl]; exact h2) (hty k hk) (by subst ht; rcases hk9 with ⟨_, e⟩ | ⟨_, e⟩ <;> rw [e] <;> rfl) (by subst ht; rcases hk9 with ⟨_, e⟩ | ⟨_, e⟩ <;> rw [e] <;> rfl) (by rw [fl_len, hlen]; exact hk) d (fun H1 locs1 hP1 hD1 hS1 => ?_)
  have e9 := pw_set (P' := pSR P a k (some v)) (x := .inr (ci, (fl (ft ci) P a).set k (.ref v))) hD haL hq2 rfl (fun b => by subst ht; exact pe_SR (v := some v) haK hci hft b)
  rw [e9] at hP1 hD1
  exact kk H1 locs1 ls hP1 hD1 hS1 hl
theorem g_iald (C : Cx E D cy nL cc own) {a j : Nat} {i : Int32} (haL : a ∈ pL P) (haK : pK P a = 13) (hi : IX i (pN P a) j) (d : decode cc pc = .ok (.iaload, 1)) (kk : G E R D cy nL P cs sl (pc + 1) lv (.int (pI P a j) :: rest)) : G E R D cy nL P cs sl pc lv (.int i :: .ref a :: rest) := by
  obtain ⟨p, l, e, s, m, args, below, meth, c, Q, A⟩ := E
  obtain ⟨hx, hb, hml, hown, hT, hK, hA, hlk⟩ := C
  intro H locs ls hP hD hS hl
  obtain ⟨rfl, hin⟩ := hi
  obtain ⟨q0, hq⟩ := pw_get (cy := cy) haL
  rw [pe_int haK (by decide)] at hq
  exact va_iald hx hb hK hP q0 0 hq rfl hin d (kk H locs ls hP hD hS hl)
theorem g_zald (C : Cx E D cy nL cc own) {a j : Nat} {i : Int32} (haL : a ∈ pL P) (haK : pK P a = 15) (hi : IX i (pN P a) j) (d : decode cc pc = .ok (.baload, 1)) (kk : G E R D cy nL P cs sl (pc + 1) lv (.int (pI P a j) :: rest)) : G E R D cy nL P cs sl pc lv (.int i :: .ref a :: rest) := by
  obtain ⟨p, l, e, s, m, args, below, meth, c, Q, A⟩ := E
  obtain ⟨hx, hb, hml, hown, hT, hK, hA, hlk⟩ := C
  intro H locs ls hP hD hS hl
  obtain ⟨rfl, hin⟩ := hi
  obtain ⟨q0, hq⟩ := pw_get (cy := cy) haL
  rw [pe_int haK (by decide)] at hq
  exact va_zald hx hb hK hP q0 2 hq rfl hin d (kk H locs ls hP hD hS hl)
theorem g_lald (C : Cx E D cy nL cc own) {a j : Nat} {i : Int32} (haL : a ∈ pL P) (haK : pK P a = 14) (hi : IX i (pN P a) j) (d : decode cc pc = .ok (.laload, 1)) (kk : G E R D cy nL P cs sl (pc + 1) lv (.long (pJ P a j) :: rest)) : G E R D cy nL P cs sl pc lv (.int i :: .ref a :: rest) := by
  obtain ⟨p, l, e, s, m, args, below, meth, c, Q, A⟩ := E
  obtain ⟨hx, hb, hml, hown, hT, hK, hA, hlk⟩ := C
  intro H locs ls hP hD hS hl
  obtain ⟨rfl, hin⟩ := hi
  obtain ⟨q0, hq⟩ := pw_get (cy := cy) haL
  rw [pe_lng haK] at hq
  exact va_lald hx hb hK hP q0 1 hq rfl hin d (kk H locs ls hP hD hS hl)
theorem g_iast (C : Cx E D cy nL cc own) {a j : Nat} {i : Int32} {x : Int32} (haL : a ∈ pL P) (haK : pK P a = 13) (hi : IX i (pN P a) j) (d : decode cc pc = .ok (.iastore, 1)) (kk : G E R D cy nL (pSI P a j x) cs sl (pc + 1) lv rest) : G E R D cy nL P cs sl pc lv (.int x :: .int i :: .ref a :: rest) := by
  obtain ⟨p, l, e, s, m, args, below, meth, c, Q, A⟩ := E
  obtain ⟨hx, hb, hml, hown, hT, hK, hA, hlk⟩ := C
  intro H locs ls hP hD hS hl
  obtain ⟨rfl, hin⟩ := hi
  obtain ⟨q0, hq⟩ := pw_get (cy := cy) haL
  have hq2 := hq
  rw [pe_int haK (by decide)] at hq
  refine va_iast hx hb hK hP hD hS q0 0 hq rfl hin d (fun H1 locs1 hP1 hD1 hS1 => ?_)
  have e9 := pw_set (P' := pSI P a i.toNatClampNeg x) (x := .inl (cy 13, pN P a, .inl (upd (pI P a) i.toNatClampNeg x))) hD haL hq2 rfl (pe_AI haK (by decide))
  rw [e9] at hP1 hD1
  exact kk H1 locs1 ls hP1 hD1 hS1 hl
theorem g_last (C : Cx E D cy nL cc own) {a j : Nat} {i : Int32} {x : Int64} (haL : a ∈ pL P) (haK : pK P a = 14) (hi : IX i (pN P a) j) (d : decode cc pc = .ok (.lastore, 1)) (kk : G E R D cy nL (pSJ P a j x) cs sl (pc + 1) lv rest) : G E R D cy nL P cs sl pc lv (.long x :: .int i :: .ref a :: rest) := by
  obtain ⟨p, l, e, s, m, args, below, meth, c, Q, A⟩ := E
  obtain ⟨hx, hb, hml, hown, hT, hK, hA, hlk⟩ := C
  intro H locs ls hP hD hS hl
  obtain ⟨rfl, hin⟩ := hi
  obtain ⟨q0, hq⟩ := pw_get (cy := cy) haL
  have hq2 := hq
  rw [pe_lng haK] at hq
  refine va_last hx hb hK hP hD hS q0 1 hq rfl hin d (fun H1 locs1 hP1 hD1 hS1 => ?_)
  have e9 := pw_set (P' := pSJ P a i.toNatClampNeg x) (x := .inl (cy 14, pN P a, .inr (.inl (vp_updL (pJ P a) i.toNatClampNeg x)))) hD haL hq2 rfl (pe_AJ haK)
  rw [e9] at hP1 hD1
  exact kk H1 locs1 ls hP1 hD1 hS1 hl
theorem g_zast (C : Cx E D cy nL cc own) {a j : Nat} {i : Int32} {x : Int32} (haL : a ∈ pL P) (haK : pK P a = 15) (hi : IX i (pN P a) j) (hz : x = 0 ∨ x = 1) (d : decode cc pc = .ok (.bastore, 1)) (kk : G E R D cy nL (pSI P a j x) cs sl (pc + 1) lv rest) : G E R D cy nL P cs sl pc lv (.int x :: .int i :: .ref a :: rest) := by
  obtain ⟨p, l, e, s, m, args, below, meth, c, Q, A⟩ := E
  obtain ⟨hx, hb, hml, hown, hT, hK, hA, hlk⟩ := C
  intro H locs ls hP hD hS hl
  obtain ⟨rfl, hin⟩ := hi
  obtain ⟨q0, hq⟩ := pw_get (cy := cy) haL
  have hq2 := hq
  rw [pe_int haK (by decide)] at hq
  refine va_zast hx hb hK hP hD hS q0 2 hq rfl hin d (fun H1 locs1 hP1 hD1 hS1 => ?_)
  rw [show vp_nar .boolean x = x by rcases hz with rfl | rfl <;> rfl] at hP1 hD1
  have e9 := pw_set (P' := pSI P a i.toNatClampNeg x) (x := .inl (cy 15, pN P a, .inl (upd (pI P a) i.toNatClampNeg x))) hD haL hq2 rfl (pe_AI haK (by decide))
  rw [e9] at hP1 hD1
  exact kk H1 locs1 ls hP1 hD1 hS1 hl
def rk : Nat → String := fun k => match k with
  | 16 => RX0
  | 17 => RX1
  | 18 => RX5
  | 19 => RX6
  | _ => RX7
theorem tysL_rk (cy : Nat → ClassId) {kd : Nat} (h : 16 ≤ kd) (h2 : kd ≤ 20) : (tysL cy)[kd - 13]? = some (cy kd, .object (rk kd)) := by
  rcases (show kd = 16 ∨ kd = 17 ∨ kd = 18 ∨ kd = 19 ∨ kd = 20 by omega) with rfl | rfl | rfl | rfl | rfl <;> rfl
theorem g_aldQ (C : Cx E D cy nL cc own) {a j kd : Nat} {i : Int32} (haL : a ∈ pL P) (haK : pK P a = kd) (h16 : 16 ≤ kd ∧ kd ≤ 20) (hi : IX i (pN P a) j) (d : decode cc pc = .ok (.aaload, 1)) (kk : G E R D cy nL P cs sl (pc + 1) lv (va_rf (pR P a j) :: rest)) : G E R D cy nL P cs sl pc lv (.int i :: .ref a :: rest) := by
  obtain ⟨p, l, e, s, m, args, below, meth, c, Q, A⟩ := E
  obtain ⟨hx, hb, hml, hown, hT, hK, hA, hlk⟩ := C
  intro H locs ls hP hD hS hl
  obtain ⟨rfl, hin⟩ := hi
  obtain ⟨q0, hq⟩ := pw_get (cy := cy) haL
  rw [pe_ref haK h16.1] at hq
  refine va_aldq hx hb hK hP q0 (kd - 13) hq (tysL_rk cy h16.1 h16.2) hin d ?_
  exact kk H locs ls hP hD hS hl
theorem g_aldR (C : Cx E D cy nL cc own) {a j kd b : Nat} {i : Int32} (haL : a ∈ pL P) (haK : pK P a = kd) (h16 : 16 ≤ kd ∧ kd ≤ 20) (hi : IX i (pN P a) j) (hv : pR P a j = some b) (d : decode cc pc = .ok (.aaload, 1)) (kk : G E R D cy nL P cs sl (pc + 1) lv (.ref b :: rest)) : G E R D cy nL P cs sl pc lv (.int i :: .ref a :: rest) := by
  obtain ⟨p, l, e, s, m, args, below, meth, c, Q, A⟩ := E
  obtain ⟨hx, hb, hml, hown, hT, hK, hA, hlk⟩ := C
  intro H locs ls hP hD hS hl
  obtain ⟨rfl, hin⟩ := hi
  obtain ⟨q0, hq⟩ := pw_get (cy := cy) haL
  rw [pe_ref haK h16.1] at hq
  refine va_aldq hx hb hK hP q0 (kd - 13) hq (tysL_rk cy h16.1 h16.2) hin d ?_
  rw [hv]
  exact kk H locs ls hP hD hS hl
theorem g_astR (C : Cx E D cy nL cc own) {a j kd v ci : Nat} {r : vw_C} {i : Int32} (haL : a ∈ pL P) (haK : pK P a = kd) (h16 : 16 ≤ kd ∧ kd ≤ 20) (hi : IX i (pN P a) j) (hvL : v ∈ pL P) (hvK : pK P v = ci) (hci : ci < 13) (hr : vwCl[ci]? = some r) (hrk : rk kd = r.1) (d : decode cc pc = .ok (.aastore, 1)) (kk : G E R D cy nL (pSR P a j (some v)) cs sl (pc + 1) lv rest) : G E R D cy nL P cs sl pc lv (.ref v :: .int i :: .ref a :: rest) := by
  obtain ⟨p, l, e, s, m, args, below, meth, c, Q, A⟩ := E
  obtain ⟨hx, hb, hml, hown, hT, hK, hA, hlk⟩ := C
  intro H locs ls hP hD hS hl
  obtain ⟨rfl, hin⟩ := hi
  obtain ⟨q0, hq⟩ := pw_get (cy := cy) haL
  obtain ⟨q1, hq1⟩ := pw_get (cy := cy) hvL
  have hq2 := hq
  rw [pe_ref haK h16.1] at hq
  rw [pe_obj hvK hci] at hq1
  refine va_astq hx hb hK hP hD hS q0 (kd - 13) q1 ci hq (by rw [tysL_rk cy h16.1 h16.2, hrk]) hq1 hr hin d (fun H1 locs1 hP1 hD1 hS1 => ?_)
  have e9 := pw_set (P' := pSR P a i.toNatClampNeg (some v)) (x := .inl (cy kd, pN P a, .inr (.inr (.inr (.inr (va_up (pR P a) i.toNatClampNeg (some v))))))) hD haL hq2 rfl (pe_AR haK h16.1)
  rw [e9] at hP1 hD1
  exact kk H1 locs1 ls hP1 hD1 hS1 hl
theorem g_alen (C : Cx E D cy nL cc own) {a kd : Nat} {v : Int32} (haL : a ∈ pL P) (haK : pK P a = kd) (hkd : 13 ≤ kd ∧ kd ≤ 20) (hv : Int32.ofNat (pN P a) = v) (d : decode cc pc = .ok (.arraylength, 1)) (kk : G E R D cy nL P cs sl (pc + 1) lv (.int v :: rest)) : G E R D cy nL P cs sl pc lv (.ref a :: rest) := by
  obtain ⟨p, l, e, s, m, args, below, meth, c, Q, A⟩ := E
  obtain ⟨hx, hb, hml, hown, hT, hK, hA, hlk⟩ := C
  intro H locs ls hP hD hS hl
  obtain ⟨q0, hq⟩ := pw_get (cy := cy) haL
  have hn : ¬ pK P a < 13 := by omega
  unfold pe at hq
  rw [if_neg hn, haK] at hq
  obtain ⟨ty, hty⟩ : ∃ ty, (tysL cy)[kd - 13]? = some (cy kd, ty) := by
    rcases (show kd = 13 ∨ kd = 14 ∨ kd = 15 ∨ kd = 16 ∨ kd = 17 ∨ kd = 18 ∨ kd = 19 ∨ kd = 20 by omega) with rfl | rfl | rfl | rfl | rfl | rfl | rfl | rfl <;> exact ⟨_, rfl⟩
  exact va_alen hx hb hK hP q0 (kd - 13) hq hty hv d (kk H locs ls hP hD hS hl)
theorem pw_fresh {A : Nat → Prop} {cy : Nat → ClassId} {P : PP} {q : Nat} {x : va_E} (hD : va_D A (pw cy P ++ [(q, x)])) : q ∉ pL P := by
  intro h
  obtain ⟨k, hk⟩ := pw_get (cy := cy) h
  have hlt : k < (pw cy P).length := (List.getElem?_eq_some_iff.mp hk).1
  have e := hD.1 k (pw cy P).length (q, pe cy P q) (q, x) (by rw [List.getElem?_append_left hlt]; exact hk) (by simp) rfl
  omega
theorem ra_one {s : State} {D : va_G} {cl : List vw_C} {tys : List (ClassId × FieldType)} {c1 c2 : ClassId} {ty : FieldType} (h : va_K D cl (tys ++ [(c2, ty)]) s) (k : Nat) (hk : tys[k]? = some (c1, ty)) : c2 = c1 := by
  have hlt : k < tys.length := (List.getElem?_eq_some_iff.mp hk).1
  have h1 := (h.2 k (c1, ty) (by rw [List.getElem?_append_left hlt]; exact hk)).2
  have h2 := (h.2 tys.length (c2, ty) (by simp)).2
  cases ty with
  | object C =>
    obtain ⟨_, _, _, _, _, a1⟩ := h1
    obtain ⟨_, _, _, _, _, a2⟩ := h2
    exact Option.some.inj (a2.symm.trans a1)
  | _ => exact Option.some.inj (h2.symm.trans h1)
theorem g_newI (C : Cx E D cy nL cc own) {n : Int32} {N : Nat} (hw : TW (.arrayClass .int)) (hn : ¬ n < 0) (hN : n.toNatClampNeg = N) (hb9 : N ≤ 100000) (hcs : cs + 1 ≤ R.cells) (hsl : sl + N ≤ R.slots) (d : decode cc pc = .ok (.newarray .int, 2)) (kk : ∀ q : Nat, q ∉ pL P → G E R D cy nL (pNw P q 13 N) (cs + 1) (sl + N) (pc + 2) lv (.ref q :: rest)) : G E R D cy nL P cs sl pc lv (.int n :: rest) := by
  obtain ⟨p, l, e, s, m, args, below, meth, c, Q, A⟩ := E
  obtain ⟨hx, hb, hml, hown, hT, hK, hA, hlk⟩ := C
  intro H locs ls hP hD hS hl
  refine va_newa (atype := .int) (ty := .int) (a0 := (N, .inl (fun _ => 0))) hx hb (hw s hT args) rfl hK hP hD hS hA (fun cA => by rw [vp_cell_i]; rfl) hn hN (by show N * 4 ≤ _; omega) hcs hsl d (fun q cA H1 hK1 hP1 hD1 hS1 => ?_)
  have e1 : cA = cy 13 := ra_one hK1 0 rfl
  have hf := pw_fresh hD1
  subst e1
  rw [pw_push (kd := 13) (n := N) hf (by rw [pe_int (kd := 13) (by simp [pNw, pK, va_up]) (by decide)]; simp [pNw, pN, pI, pJ, va_up])] at hP1 hD1
  exact kk q hf H1 locs ls hP1 hD1 hS1 hl
theorem g_newJ (C : Cx E D cy nL cc own) {n : Int32} {N : Nat} (hw : TW (.arrayClass .long)) (hn : ¬ n < 0) (hN : n.toNatClampNeg = N) (hb9 : N ≤ 100000) (hcs : cs + 1 ≤ R.cells) (hsl : sl + N ≤ R.slots) (d : decode cc pc = .ok (.newarray .long, 2)) (kk : ∀ q : Nat, q ∉ pL P → G E R D cy nL (pNw P q 14 N) (cs + 1) (sl + N) (pc + 2) lv (.ref q :: rest)) : G E R D cy nL P cs sl pc lv (.int n :: rest) := by
  obtain ⟨p, l, e, s, m, args, below, meth, c, Q, A⟩ := E
  obtain ⟨hx, hb, hml, hown, hT, hK, hA, hlk⟩ := C
  intro H locs ls hP hD hS hl
  refine va_newa (atype := .long) (ty := .long) (a0 := (N, .inr (.inl (fun _ => 0)))) hx hb (hw s hT args) rfl hK hP hD hS hA (fun cA => by rw [vp_cell_l]; rfl) hn hN (by show N * 8 ≤ _; omega) hcs hsl d (fun q cA H1 hK1 hP1 hD1 hS1 => ?_)
  have e1 : cA = cy 14 := ra_one hK1 1 rfl
  have hf := pw_fresh hD1
  subst e1
  rw [pw_push (kd := 14) (n := N) hf (by rw [pe_lng (by simp [pNw, pK, va_up])]; simp [pNw, pN, pI, pJ, va_up])] at hP1 hD1
  exact kk q hf H1 locs ls hP1 hD1 hS1 hl
theorem g_newZ (C : Cx E D cy nL cc own) {n : Int32} {N : Nat} (hw : TW (.arrayClass .boolean)) (hn : ¬ n < 0) (hN : n.toNatClampNeg = N) (hb9 : N ≤ 100000) (hcs : cs + 1 ≤ R.cells) (hsl : sl + N ≤ R.slots) (d : decode cc pc = .ok (.newarray .boolean, 2)) (kk : ∀ q : Nat, q ∉ pL P → G E R D cy nL (pNw P q 15 N) (cs + 1) (sl + N) (pc + 2) lv (.ref q :: rest)) : G E R D cy nL P cs sl pc lv (.int n :: rest) := by
  obtain ⟨p, l, e, s, m, args, below, meth, c, Q, A⟩ := E
  obtain ⟨hx, hb, hml, hown, hT, hK, hA, hlk⟩ := C
  intro H locs ls hP hD hS hl
  refine va_newa (atype := .boolean) (ty := .boolean) (a0 := (N, .inl (fun _ => 0))) hx hb (hw s hT args) rfl hK hP hD hS hA (fun cA => by rw [vp_cell_i]; rfl) hn hN (by show N * 1 ≤ _; omega) hcs hsl d (fun q cA H1 hK1 hP1 hD1 hS1 => ?_)
  have e1 : cA = cy 15 := ra_one hK1 2 rfl
  have hf := pw_fresh hD1
  subst e1
  rw [pw_push (kd := 15) (n := N) hf (by rw [pe_int (kd := 15) (by simp [pNw, pK, va_up]) (by decide)]; simp [pNw, pN, pI, pJ, va_up])] at hP1 hD1
  exact kk q hf H1 locs ls hP1 hD1 hS1 hl
theorem g_newQ (C : Cx E D cy nL cc own) {n : Int32} {N idx kd : Nat} (h16 : 16 ≤ kd ∧ kd ≤ 20) (hcl : TW (.classLink own idx (rk kd))) (hao : TW (.arrayOver (.object (rk kd)))) (hn : ¬ n < 0) (hN : n.toNatClampNeg = N) (hb9 : N ≤ 100000) (hcs : cs + 1 ≤ R.cells) (hsl : sl + N ≤ R.slots) (d : decode cc pc = .ok (.anewarray idx, 3)) (kk : ∀ q : Nat, q ∉ pL P → G E R D cy nL (pNw P q kd N) (cs + 1) (sl + N) (pc + 3) lv (.ref q :: rest)) : G E R D cy nL P cs sl pc lv (.int n :: rest) := by
  obtain ⟨p, l, e, s, m, args, below, meth, c, Q, A⟩ := E
  obtain ⟨hx, hb, hml, hown, hT, hK, hA, hlk⟩ := C
  intro H locs ls hP hD hS hl
  refine va_newq hx hb hown (hcl s hT args) (va_AO.of (hao s hT args)) hK hP hD hS hA hn hN (by omega) hcs hsl d (fun q cA H1 hK1 hP1 hD1 hS1 => ?_)
  have e1 : cA = cy kd := ra_one hK1 (kd - 13) (tysL_rk cy h16.1 h16.2)
  have hf := pw_fresh hD1
  subst e1
  rw [pw_push (kd := kd) (n := N) hf (by rw [pe_ref (kd := kd) (by simp [pNw, pK, va_up]) h16.1]; simp [pNw, pN, pR, va_up])] at hP1 hD1
  exact kk q hf H1 locs ls hP1 hD1 hS1 hl
/-- the words of a class that is made -/
def NI (own : String) (idx ci N : Nat) : Prop := ∃ (Cn : String) (T : u_T) (ty : Nat → FieldType), vwCl[ci]? = some (Cn, T, N) ∧ (∀ w ∈ u_ws Cn T N, TW w) ∧ (∀ k, k < N → parseFieldDescriptor (T k).2.2.1 = some (ty k)) ∧ TW (.classLink own idx Cn) ∧ TW (.instantiable Cn N) ∧ TW (.initialized Cn) ∧ ci < 13 ∧ (∀ j, j < N → defaultValue (ty j) = vp_V (fl0 (ft ci)) j)
theorem g_new (C : Cx E D cy nL cc own) {idx ci N : Nat} (f : NI own idx ci N) (hcs : cs + 1 ≤ R.cells) (hsl : sl + N ≤ R.slots) (d : decode cc pc = .ok (.new idx, 3)) (kk : ∀ q : Nat, q ∉ pL P → G E R D cy nL (pNw P q ci 0) (cs + 1) (sl + N) (pc + 3) lv (.ref q :: rest)) : G E R D cy nL P cs sl pc lv rest := by
  obtain ⟨p, l, e, s, m, args, below, meth, c, Q, A⟩ := E
  obtain ⟨hx, hb, hml, hown, hT, hK, hA, hlk⟩ := C
  intro H locs ls hP hD hS hl
  obtain ⟨Cn, T, ty, hc, hin, hty, h1, h2, h3, hci, hdf⟩ := f
  refine va_new (fs := fl0 (ft ci)) hx hb (fun w hw => hin w hw s hT args) (fun w hw => hw) ty hty hown (h1 s hT args) (h2 s hT args) (h3 s hT args) hK hP hD hS hA hc hdf hcs hsl d (fun q H1 hP1 hD1 hS1 => ?_)
  have hf := pw_fresh hD1
  rw [pw_push (kd := ci) (n := 0) hf (by rw [pe_obj (ci := ci) (by simp [pNw, pK, va_up]) hci, fl_new])] at hP1 hD1
  exact kk q hf H1 locs ls hP1 hD1 hS1 hl
theorem g_objInit (C : Cx E D cy nL cc own) {idx a : Nat} (h1 : TW (.methodLink own idx objectInit)) (h2 : TW (.instanceMethod objectInit)) (h3 : TW (.code objectInit ⟨#[0xb1]⟩ 1 none)) (hf : 1 ≤ R.frames) (hl9 : 20 ≤ R.locals) (hr : (rest.map fun v => v.category).sum ≤ 8) (d : decode cc pc = .ok (.invokespecial idx, 3)) (k : G E R D cy nL P cs sl (pc + 3) lv rest) : G E R D cy nL P cs sl pc lv (.ref a :: rest) := by
  obtain ⟨p, l, e, s, m, args, below, meth, c, Q, A⟩ := E
  obtain ⟨hx, hb, hml, hown, hT, hK, hA, hlk⟩ := C
  intro H locs ls hP hD hS hl
  refine W.objInit hx hb hown (h1 s hT args) (h2 s hT args) (h3 s hT args) rfl (by rw [hml]; exact hl.1) rfl d hf ?_ ?_
  · have := lv_room (m := m) (pc := pc) (ls := ls) (rest := .ref a :: rest) hr
    omega
  · exact k H locs ls hP hD hS hl
end GR
/-! CONTRACTS: over the whole pool -/
def pB (D : va_G) (cy : Nat → ClassId) (P : PP) (sz : Nat) (U : State) : Prop := U.heap.size = sz ∧ TB U ∧ va_P D vwCl (pw cy P) U.heap ∧ va_K D vwCl (tysL cy) U ∧ va_D (fun _ => True) (pw cy P)
def pA (D : va_G) (cy : Nat → ClassId) (A : Nat → Prop) (P : PP) (t : State) : Prop := va_P D vwCl (pw cy P) t.heap ∧ va_K D vwCl (tysL cy) t ∧ va_D A (pw cy P)
theorem pB_blind {D : va_G} {cy : Nat → ClassId} {P : PP} {sz : Nat} {av : List Value} : FrameBlind (va_Pc av (pB D cy P sz)) := fun a U g mk q => by
  obtain ⟨q0, q1, qT, qP, qK, qD⟩ := q
  exact ⟨q0, q1, qT.warm (s := U) (U := U.calling g mk a) (State.WarmedH.refl U), qP, va_K.moved (u := U) (U := U.calling g mk a) (Vm.Alike.refl U.vm) qK, qD⟩
def CtrI (y : MethodName) (yc : ByteArray) (mL : Nat) (ret : Option FieldType) (rm : Room) (mc ms : Nat) (P : PP) (av : List Value) (post : Int32 → PP → Prop) : Prop := ∀ (l : Launch) (D : va_G) (cy : Nat → ClassId) (sz : Nat), Met l y [.code y yc mL ret] rm (va_Pc av (pB D cy P sz)) (va_Qi post (pA D cy (va_A (pw cy P) sz)) (va_A (pw cy P) sz)) mc ms (va_A (pw cy P) sz)
def CtrL (y : MethodName) (yc : ByteArray) (mL : Nat) (ret : Option FieldType) (rm : Room) (mc ms : Nat) (P : PP) (av : List Value) (post : Int64 → PP → Prop) : Prop := ∀ (l : Launch) (D : va_G) (cy : Nat → ClassId) (sz : Nat), Met l y [.code y yc mL ret] rm (va_Pc av (pB D cy P sz)) (va_Ql post (pA D cy (va_A (pw cy P) sz)) (va_A (pw cy P) sz)) mc ms (va_A (pw cy P) sz)
def CtrV (y : MethodName) (yc : ByteArray) (mL : Nat) (ret : Option FieldType) (rm : Room) (mc ms : Nat) (P : PP) (av : List Value) (post : PP → Prop) : Prop := ∀ (l : Launch) (D : va_G) (cy : Nat → ClassId) (sz : Nat), Met l y [.code y yc mL ret] rm (va_Pc av (pB D cy P sz)) (va_Qv post (pA D cy (va_A (pw cy P) sz)) (va_A (pw cy P) sz)) mc ms (va_A (pw cy P) sz)
def CtrQ (y : MethodName) (yc : ByteArray) (mL : Nat) (ret : Option FieldType) (rm : Room) (mc ms : Nat) (P : PP) (av : List Value) (post : Option Nat → PP → Prop) : Prop := ∀ (l : Launch) (D : va_G) (cy : Nat → ClassId) (sz : Nat), Met l y [.code y yc mL ret] rm (va_Pc av (pB D cy P sz)) (va_Qq post (pA D cy (va_A (pw cy P) sz)) (va_A (pw cy P) sz)) mc ms (va_A (pw cy P) sz)
/-- the words of a call -/
def MB (own : String) (idx : Nat) (y : MethodName) (yc : ByteArray) (mL : Nat) (ret : Option FieldType) (n : Nat) : Prop := TW (.methodLink own idx y) ∧ TW (.initialized y.cls) ∧ TW (.code y yc mL ret) ∧ (y.cls ≠ "java/lang/invoke/MethodHandle" ∧ y.cls ≠ "java/lang/invoke/VarHandle" ∧ (parseMethodDescriptor y.desc).map (fun d => d.parameters.length) = some n)
def MV (own : String) (idx : Nat) (y : MethodName) (yc : ByteArray) (mL : Nat) (ret : Option FieldType) (n ci : Nat) : Prop := MB own idx y yc mL ret n ∧ TW (.instanceMethod y) ∧ TW (.selects y.cls y y) ∧ ∃ (T : u_T) (N : Nat), vwCl[ci]? = some (y.cls, T, N) ∧ ci < 13
def MS (own : String) (idx : Nat) (y : MethodName) (yc : ByteArray) (mL : Nat) (ret : Option FieldType) (n : Nat) : Prop := MB own idx y yc mL ret n ∧ TW (.static y)
def MI (own : String) (idx : Nat) (y : MethodName) (yc : ByteArray) (mL : Nat) (n : Nat) : Prop := MB own idx y yc mL none n ∧ TW (.instanceMethod y) ∧ y.name = "<init>"
def MN (own : String) (idx : Nat) (y : MethodName) (yc : ByteArray) (mL : Nat) (n : Nat) (host : String) : Prop := (TW (.methodLinkNest own idx y host) ∧ TW (.initialized y.cls) ∧ TW (.code y yc mL none) ∧ (y.cls ≠ "java/lang/invoke/MethodHandle" ∧ y.cls ≠ "java/lang/invoke/VarHandle" ∧ (parseMethodDescriptor y.desc).map (fun d => d.parameters.length) = some n)) ∧ TW (.instanceMethod y) ∧ y.name = "<init>"
def MSN (own : String) (idx : Nat) (y : MethodName) (yc : ByteArray) (mL : Nat) (ret : Option FieldType) (n : Nat) (host : String) : Prop := (TW (.methodLinkNest own idx y host) ∧ TW (.initialized y.cls) ∧ TW (.code y yc mL ret) ∧ (y.cls ≠ "java/lang/invoke/MethodHandle" ∧ y.cls ≠ "java/lang/invoke/VarHandle" ∧ (parseMethodDescriptor y.desc).map (fun d => d.parameters.length) = some n)) ∧ TW (.static y)
theorem callB_tw {own : String} {idx mL n mc ms : Nat} {y : MethodName} {yc : ByteArray} {ret : Option FieldType} {rm R : Room} {s : State} {args : Array Value} (hT : TB s) (h : MB own idx y yc mL ret n) (hc : rm.cells = mc) (hs : rm.slots = ms) (hf : rm.frames + 1 ≤ R.frames) (hl : 8 + (mL + 11) + rm.locals ≤ R.locals) : CallB R s args own idx y yc mL ret [.code y yc mL ret] rm mc ms n := by
  obtain ⟨h1, h2, h3, h4, h5, h6⟩ := h
  refine ⟨hc, hs, hf, hl, fun w hw a' U hW => ?_, List.mem_cons_self, h3 s hT args, h2 s hT args, ⟨h4, h5⟩, fun sig h => ?_, h1 s hT args⟩
  · rw [List.mem_singleton.mp hw]
    exact h3 U (hT.warm hW) a'
  · rw [h] at h6
    exact (Option.some.inj h6).symm
section GC
variable {E : EV} {R : Room} {D : va_G} {cy : Nat → ClassId} {nL : Nat} {P : PP} {cs sl pc : Nat} {lv lv' : List (Nat × Value)} {st rest : List Value} {cc : ByteArray} {own : String}
theorem g_callVI (C : Cx E D cy nL cc own) {idx mL n ci mc ms b : Nat} {y : MethodName} {yc : ByteArray} {ret : Option FieldType} {rm : Room} (mv : MV own idx y yc mL ret n ci) (As : List Value) {post : Int32 → PP → Prop} (hM : CtrI y yc mL ret rm mc ms P (.ref b :: As) post) (hbL : b ∈ pL P) (hbK : pK P b = ci) (hst : st = As.reverse ++ .ref b :: rest) (hn : As.length = n) (hrm : rm.cells = mc ∧ rm.slots = ms ∧ rm.frames + 1 ≤ R.frames ∧ 8 + (mL + 11) + rm.locals ≤ R.locals) (hrest : (rest.map fun v => v.category).sum ≤ 8) (hroom : cs + mc ≤ R.cells ∧ sl + ms ≤ R.slots) (d : decode cc pc = .ok (.invokevirtual idx, 3)) (k : ∀ (r : Int32) (u : PP), post r u → G E R D cy nL u (cs + mc) (sl + ms) (pc + 3) lv (.int r :: rest)) : G E R D cy nL P cs sl pc lv st := by
  obtain ⟨p, l, e, s, m, args, below, meth, c, Q, A⟩ := E
  obtain ⟨hx, hb, hml, hown, hT, hK, hA, hlk⟩ := C
  intro H locs ls hP hD hS hl
  have hFc : ∀ q : Nat, va_A (pw cy P) H.size q → A q := by
    rintro q (⟨j, x, h⟩ | h)
    · exact hD.2 j _ h
    · exact hA q (Nat.le_trans hS.1 h)
  have hpre : ∀ U : State, U.heap = H → s.WarmedH U.vm → va_Pc (.ref b :: As) (pB D cy P H.size) ((.ref b :: As) : List Value).toArray U := fun U hU hW => ⟨rfl, by rw [hU], hT.warm hW, by rw [hU]; exact hP, va_K.moved hW.alike hK, ⟨hD.1, fun _ _ _ => trivial⟩⟩
  obtain ⟨mb, m1, m2, T, N, m3, m4⟩ := mv
  obtain ⟨q0, hq⟩ := pw_get (cy := cy) hbL
  rw [pe_obj hbK m4] at hq
  have hrun := va_runV (p := p) (l := l) (e := e) (R := R) (below := below) (meth := meth) (locs := locs) (cells := cs) (slots := sl) (g := F0 m pc ls st) (As := As) (rest := rest) (Ts := []) ⟨hx, hb, hml, hown, fun w hw => absurd hw List.not_mem_nil⟩ (hM l D cy H.size) ⟨callB_tw hT mb hrm.1 hrm.2.1 hrm.2.2.1 hrm.2.2.2, m1 s hT args, m2 s hT args⟩ ⟨pB_blind, va_recv hK hP m3 hq, hpre⟩ rfl hn hl.1 hst (lv_room hrest) d hroom
  exact va_calli hrun hS (fun q _ h => hFc q h) hFc (fun r u t H1 locs1 ht hvm hw hB hz1 hk1 hS1 => k r u hw H1 locs1 ls (by rw [← ht]; exact hB.1) ⟨hB.2.2.1, fun j q h => hFc _ (hB.2.2.2 j q h)⟩ hS1 hl)
theorem g_callVL (C : Cx E D cy nL cc own) {idx mL n ci mc ms b : Nat} {y : MethodName} {yc : ByteArray} {ret : Option FieldType} {rm : Room} (mv : MV own idx y yc mL ret n ci) (As : List Value) {post : Int64 → PP → Prop} (hM : CtrL y yc mL ret rm mc ms P (.ref b :: As) post) (hbL : b ∈ pL P) (hbK : pK P b = ci) (hst : st = As.reverse ++ .ref b :: rest) (hn : As.length = n) (hrm : rm.cells = mc ∧ rm.slots = ms ∧ rm.frames + 1 ≤ R.frames ∧ 8 + (mL + 11) + rm.locals ≤ R.locals) (hrest : (rest.map fun v => v.category).sum ≤ 8) (hroom : cs + mc ≤ R.cells ∧ sl + ms ≤ R.slots) (d : decode cc pc = .ok (.invokevirtual idx, 3)) (k : ∀ (r : Int64) (u : PP), post r u → G E R D cy nL u (cs + mc) (sl + ms) (pc + 3) lv (.long r :: rest)) : G E R D cy nL P cs sl pc lv st := by
  obtain ⟨p, l, e, s, m, args, below, meth, c, Q, A⟩ := E
  obtain ⟨hx, hb, hml, hown, hT, hK, hA, hlk⟩ := C
  intro H locs ls hP hD hS hl
  have hFc : ∀ q : Nat, va_A (pw cy P) H.size q → A q := by
    rintro q (⟨j, x, h⟩ | h)
    · exact hD.2 j _ h
    · exact hA q (Nat.le_trans hS.1 h)
  have hpre : ∀ U : State, U.heap = H → s.WarmedH U.vm → va_Pc (.ref b :: As) (pB D cy P H.size) ((.ref b :: As) : List Value).toArray U := fun U hU hW => ⟨rfl, by rw [hU], hT.warm hW, by rw [hU]; exact hP, va_K.moved hW.alike hK, ⟨hD.1, fun _ _ _ => trivial⟩⟩
  obtain ⟨mb, m1, m2, T, N, m3, m4⟩ := mv
  obtain ⟨q0, hq⟩ := pw_get (cy := cy) hbL
  rw [pe_obj hbK m4] at hq
  have hrun := va_runV (p := p) (l := l) (e := e) (R := R) (below := below) (meth := meth) (locs := locs) (cells := cs) (slots := sl) (g := F0 m pc ls st) (As := As) (rest := rest) (Ts := []) ⟨hx, hb, hml, hown, fun w hw => absurd hw List.not_mem_nil⟩ (hM l D cy H.size) ⟨callB_tw hT mb hrm.1 hrm.2.1 hrm.2.2.1 hrm.2.2.2, m1 s hT args, m2 s hT args⟩ ⟨pB_blind, va_recv hK hP m3 hq, hpre⟩ rfl hn hl.1 hst (lv_room hrest) d hroom
  exact va_calll hrun hS (fun q _ h => hFc q h) hFc (fun r u t H1 locs1 ht hvm hw hB hz1 hk1 hS1 => k r u hw H1 locs1 ls (by rw [← ht]; exact hB.1) ⟨hB.2.2.1, fun j q h => hFc _ (hB.2.2.2 j q h)⟩ hS1 hl)
theorem g_callVV (C : Cx E D cy nL cc own) {idx mL n ci mc ms b : Nat} {y : MethodName} {yc : ByteArray} {ret : Option FieldType} {rm : Room} (mv : MV own idx y yc mL ret n ci) (As : List Value) {post : PP → Prop} (hM : CtrV y yc mL ret rm mc ms P (.ref b :: As) post) (hbL : b ∈ pL P) (hbK : pK P b = ci) (hst : st = As.reverse ++ .ref b :: rest) (hn : As.length = n) (hrm : rm.cells = mc ∧ rm.slots = ms ∧ rm.frames + 1 ≤ R.frames ∧ 8 + (mL + 11) + rm.locals ≤ R.locals) (hrest : (rest.map fun v => v.category).sum ≤ 8) (hroom : cs + mc ≤ R.cells ∧ sl + ms ≤ R.slots) (d : decode cc pc = .ok (.invokevirtual idx, 3)) (k : ∀ (u : PP), post u → G E R D cy nL u (cs + mc) (sl + ms) (pc + 3) lv rest) : G E R D cy nL P cs sl pc lv st := by
  obtain ⟨p, l, e, s, m, args, below, meth, c, Q, A⟩ := E
  obtain ⟨hx, hb, hml, hown, hT, hK, hA, hlk⟩ := C
  intro H locs ls hP hD hS hl
  have hFc : ∀ q : Nat, va_A (pw cy P) H.size q → A q := by
    rintro q (⟨j, x, h⟩ | h)
    · exact hD.2 j _ h
    · exact hA q (Nat.le_trans hS.1 h)
  have hpre : ∀ U : State, U.heap = H → s.WarmedH U.vm → va_Pc (.ref b :: As) (pB D cy P H.size) ((.ref b :: As) : List Value).toArray U := fun U hU hW => ⟨rfl, by rw [hU], hT.warm hW, by rw [hU]; exact hP, va_K.moved hW.alike hK, ⟨hD.1, fun _ _ _ => trivial⟩⟩
  obtain ⟨mb, m1, m2, T, N, m3, m4⟩ := mv
  obtain ⟨q0, hq⟩ := pw_get (cy := cy) hbL
  rw [pe_obj hbK m4] at hq
  have hrun := va_runV (p := p) (l := l) (e := e) (R := R) (below := below) (meth := meth) (locs := locs) (cells := cs) (slots := sl) (g := F0 m pc ls st) (As := As) (rest := rest) (Ts := []) ⟨hx, hb, hml, hown, fun w hw => absurd hw List.not_mem_nil⟩ (hM l D cy H.size) ⟨callB_tw hT mb hrm.1 hrm.2.1 hrm.2.2.1 hrm.2.2.2, m1 s hT args, m2 s hT args⟩ ⟨pB_blind, va_recv hK hP m3 hq, hpre⟩ rfl hn hl.1 hst (lv_room hrest) d hroom
  exact va_callv hrun hS (fun q _ h => hFc q h) hFc (fun u t H1 locs1 ht hvm hw hB hz1 hk1 hS1 => k u hw H1 locs1 ls (by rw [← ht]; exact hB.1) ⟨hB.2.2.1, fun j q h => hFc _ (hB.2.2.2 j q h)⟩ hS1 hl)
theorem g_callVQ (C : Cx E D cy nL cc own) {idx mL n ci mc ms b : Nat} {y : MethodName} {yc : ByteArray} {ret : Option FieldType} {rm : Room} (mv : MV own idx y yc mL ret n ci) (As : List Value) {post : Option Nat → PP → Prop} (hM : CtrQ y yc mL ret rm mc ms P (.ref b :: As) post) (hbL : b ∈ pL P) (hbK : pK P b = ci) (hst : st = As.reverse ++ .ref b :: rest) (hn : As.length = n) (hrm : rm.cells = mc ∧ rm.slots = ms ∧ rm.frames + 1 ≤ R.frames ∧ 8 + (mL + 11) + rm.locals ≤ R.locals) (hrest : (rest.map fun v => v.category).sum ≤ 8) (hroom : cs + mc ≤ R.cells ∧ sl + ms ≤ R.slots) (d : decode cc pc = .ok (.invokevirtual idx, 3)) (k : ∀ (r : Option Nat) (u : PP), post r u → G E R D cy nL u (cs + mc) (sl + ms) (pc + 3) lv (va_rf r :: rest)) : G E R D cy nL P cs sl pc lv st := by
  obtain ⟨p, l, e, s, m, args, below, meth, c, Q, A⟩ := E
  obtain ⟨hx, hb, hml, hown, hT, hK, hA, hlk⟩ := C
  intro H locs ls hP hD hS hl
  have hFc : ∀ q : Nat, va_A (pw cy P) H.size q → A q := by
    rintro q (⟨j, x, h⟩ | h)
    · exact hD.2 j _ h
    · exact hA q (Nat.le_trans hS.1 h)
  have hpre : ∀ U : State, U.heap = H → s.WarmedH U.vm → va_Pc (.ref b :: As) (pB D cy P H.size) ((.ref b :: As) : List Value).toArray U := fun U hU hW => ⟨rfl, by rw [hU], hT.warm hW, by rw [hU]; exact hP, va_K.moved hW.alike hK, ⟨hD.1, fun _ _ _ => trivial⟩⟩
  obtain ⟨mb, m1, m2, T, N, m3, m4⟩ := mv
  obtain ⟨q0, hq⟩ := pw_get (cy := cy) hbL
  rw [pe_obj hbK m4] at hq
  have hrun := va_runV (p := p) (l := l) (e := e) (R := R) (below := below) (meth := meth) (locs := locs) (cells := cs) (slots := sl) (g := F0 m pc ls st) (As := As) (rest := rest) (Ts := []) ⟨hx, hb, hml, hown, fun w hw => absurd hw List.not_mem_nil⟩ (hM l D cy H.size) ⟨callB_tw hT mb hrm.1 hrm.2.1 hrm.2.2.1 hrm.2.2.2, m1 s hT args, m2 s hT args⟩ ⟨pB_blind, va_recv hK hP m3 hq, hpre⟩ rfl hn hl.1 hst (lv_room hrest) d hroom
  exact va_callq hrun hS (fun q _ h => hFc q h) hFc (fun r u t H1 locs1 ht hvm hw hB hz1 hk1 hS1 => k r u hw H1 locs1 ls (by rw [← ht]; exact hB.1) ⟨hB.2.2.1, fun j q h => hFc _ (hB.2.2.2 j q h)⟩ hS1 hl)
theorem g_callSI (C : Cx E D cy nL cc own) {idx mL n ci mc ms b : Nat} {y : MethodName} {yc : ByteArray} {ret : Option FieldType} {rm : Room} (mv : MS own idx y yc mL ret n) (As : List Value) {post : Int32 → PP → Prop} (hM : CtrI y yc mL ret rm mc ms P As post) (hst : st = As.reverse ++ rest) (hn : As.length = n) (hrm : rm.cells = mc ∧ rm.slots = ms ∧ rm.frames + 1 ≤ R.frames ∧ 8 + (mL + 11) + rm.locals ≤ R.locals) (hrest : (rest.map fun v => v.category).sum ≤ 8) (hroom : cs + mc ≤ R.cells ∧ sl + ms ≤ R.slots) (d : decode cc pc = .ok (.invokestatic idx, 3)) (k : ∀ (r : Int32) (u : PP), post r u → G E R D cy nL u (cs + mc) (sl + ms) (pc + 3) lv (.int r :: rest)) : G E R D cy nL P cs sl pc lv st := by
  obtain ⟨p, l, e, s, m, args, below, meth, c, Q, A⟩ := E
  obtain ⟨hx, hb, hml, hown, hT, hK, hA, hlk⟩ := C
  intro H locs ls hP hD hS hl
  have hFc : ∀ q : Nat, va_A (pw cy P) H.size q → A q := by
    rintro q (⟨j, x, h⟩ | h)
    · exact hD.2 j _ h
    · exact hA q (Nat.le_trans hS.1 h)
  have hpre : ∀ U : State, U.heap = H → s.WarmedH U.vm → va_Pc As (pB D cy P H.size) (As : List Value).toArray U := fun U hU hW => ⟨rfl, by rw [hU], hT.warm hW, by rw [hU]; exact hP, va_K.moved hW.alike hK, ⟨hD.1, fun _ _ _ => trivial⟩⟩
  obtain ⟨mb, m1⟩ := mv
  have hrun := va_runS (p := p) (l := l) (e := e) (R := R) (below := below) (meth := meth) (locs := locs) (cells := cs) (slots := sl) (g := F0 m pc ls st) (As := As) (rest := rest) (Ts := []) ⟨hx, hb, hml, hown, fun w hw => absurd hw List.not_mem_nil⟩ (hM l D cy H.size) ⟨callB_tw hT mb hrm.1 hrm.2.1 hrm.2.2.1 hrm.2.2.2, m1 s hT args⟩ ⟨pB_blind, hpre⟩ rfl hn hl.1 hst (lv_room hrest) d hroom
  exact va_calli hrun hS (fun q _ h => hFc q h) hFc (fun r u t H1 locs1 ht hvm hw hB hz1 hk1 hS1 => k r u hw H1 locs1 ls (by rw [← ht]; exact hB.1) ⟨hB.2.2.1, fun j q h => hFc _ (hB.2.2.2 j q h)⟩ hS1 hl)
theorem g_callSL (C : Cx E D cy nL cc own) {idx mL n ci mc ms b : Nat} {y : MethodName} {yc : ByteArray} {ret : Option FieldType} {rm : Room} (mv : MS own idx y yc mL ret n) (As : List Value) {post : Int64 → PP → Prop} (hM : CtrL y yc mL ret rm mc ms P As post) (hst : st = As.reverse ++ rest) (hn : As.length = n) (hrm : rm.cells = mc ∧ rm.slots = ms ∧ rm.frames + 1 ≤ R.frames ∧ 8 + (mL + 11) + rm.locals ≤ R.locals) (hrest : (rest.map fun v => v.category).sum ≤ 8) (hroom : cs + mc ≤ R.cells ∧ sl + ms ≤ R.slots) (d : decode cc pc = .ok (.invokestatic idx, 3)) (k : ∀ (r : Int64) (u : PP), post r u → G E R D cy nL u (cs + mc) (sl + ms) (pc + 3) lv (.long r :: rest)) : G E R D cy nL P cs sl pc lv st := by
  obtain ⟨p, l, e, s, m, args, below, meth, c, Q, A⟩ := E
  obtain ⟨hx, hb, hml, hown, hT, hK, hA, hlk⟩ := C
  intro H locs ls hP hD hS hl
  have hFc : ∀ q : Nat, va_A (pw cy P) H.size q → A q := by
    rintro q (⟨j, x, h⟩ | h)
    · exact hD.2 j _ h
    · exact hA q (Nat.le_trans hS.1 h)
  have hpre : ∀ U : State, U.heap = H → s.WarmedH U.vm → va_Pc As (pB D cy P H.size) (As : List Value).toArray U := fun U hU hW => ⟨rfl, by rw [hU], hT.warm hW, by rw [hU]; exact hP, va_K.moved hW.alike hK, ⟨hD.1, fun _ _ _ => trivial⟩⟩
  obtain ⟨mb, m1⟩ := mv
  have hrun := va_runS (p := p) (l := l) (e := e) (R := R) (below := below) (meth := meth) (locs := locs) (cells := cs) (slots := sl) (g := F0 m pc ls st) (As := As) (rest := rest) (Ts := []) ⟨hx, hb, hml, hown, fun w hw => absurd hw List.not_mem_nil⟩ (hM l D cy H.size) ⟨callB_tw hT mb hrm.1 hrm.2.1 hrm.2.2.1 hrm.2.2.2, m1 s hT args⟩ ⟨pB_blind, hpre⟩ rfl hn hl.1 hst (lv_room hrest) d hroom
  exact va_calll hrun hS (fun q _ h => hFc q h) hFc (fun r u t H1 locs1 ht hvm hw hB hz1 hk1 hS1 => k r u hw H1 locs1 ls (by rw [← ht]; exact hB.1) ⟨hB.2.2.1, fun j q h => hFc _ (hB.2.2.2 j q h)⟩ hS1 hl)
theorem g_callSV (C : Cx E D cy nL cc own) {idx mL n ci mc ms b : Nat} {y : MethodName} {yc : ByteArray} {ret : Option FieldType} {rm : Room} (mv : MS own idx y yc mL ret n) (As : List Value) {post : PP → Prop} (hM : CtrV y yc mL ret rm mc ms P As post) (hst : st = As.reverse ++ rest) (hn : As.length = n) (hrm : rm.cells = mc ∧ rm.slots = ms ∧ rm.frames + 1 ≤ R.frames ∧ 8 + (mL + 11) + rm.locals ≤ R.locals) (hrest : (rest.map fun v => v.category).sum ≤ 8) (hroom : cs + mc ≤ R.cells ∧ sl + ms ≤ R.slots) (d : decode cc pc = .ok (.invokestatic idx, 3)) (k : ∀ (u : PP), post u → G E R D cy nL u (cs + mc) (sl + ms) (pc + 3) lv rest) : G E R D cy nL P cs sl pc lv st := by
  obtain ⟨p, l, e, s, m, args, below, meth, c, Q, A⟩ := E
  obtain ⟨hx, hb, hml, hown, hT, hK, hA, hlk⟩ := C
  intro H locs ls hP hD hS hl
  have hFc : ∀ q : Nat, va_A (pw cy P) H.size q → A q := by
    rintro q (⟨j, x, h⟩ | h)
    · exact hD.2 j _ h
    · exact hA q (Nat.le_trans hS.1 h)
  have hpre : ∀ U : State, U.heap = H → s.WarmedH U.vm → va_Pc As (pB D cy P H.size) (As : List Value).toArray U := fun U hU hW => ⟨rfl, by rw [hU], hT.warm hW, by rw [hU]; exact hP, va_K.moved hW.alike hK, ⟨hD.1, fun _ _ _ => trivial⟩⟩
  obtain ⟨mb, m1⟩ := mv
  have hrun := va_runS (p := p) (l := l) (e := e) (R := R) (below := below) (meth := meth) (locs := locs) (cells := cs) (slots := sl) (g := F0 m pc ls st) (As := As) (rest := rest) (Ts := []) ⟨hx, hb, hml, hown, fun w hw => absurd hw List.not_mem_nil⟩ (hM l D cy H.size) ⟨callB_tw hT mb hrm.1 hrm.2.1 hrm.2.2.1 hrm.2.2.2, m1 s hT args⟩ ⟨pB_blind, hpre⟩ rfl hn hl.1 hst (lv_room hrest) d hroom
  exact va_callv hrun hS (fun q _ h => hFc q h) hFc (fun u t H1 locs1 ht hvm hw hB hz1 hk1 hS1 => k u hw H1 locs1 ls (by rw [← ht]; exact hB.1) ⟨hB.2.2.1, fun j q h => hFc _ (hB.2.2.2 j q h)⟩ hS1 hl)
theorem g_callSQ (C : Cx E D cy nL cc own) {idx mL n ci mc ms b : Nat} {y : MethodName} {yc : ByteArray} {ret : Option FieldType} {rm : Room} (mv : MS own idx y yc mL ret n) (As : List Value) {post : Option Nat → PP → Prop} (hM : CtrQ y yc mL ret rm mc ms P As post) (hst : st = As.reverse ++ rest) (hn : As.length = n) (hrm : rm.cells = mc ∧ rm.slots = ms ∧ rm.frames + 1 ≤ R.frames ∧ 8 + (mL + 11) + rm.locals ≤ R.locals) (hrest : (rest.map fun v => v.category).sum ≤ 8) (hroom : cs + mc ≤ R.cells ∧ sl + ms ≤ R.slots) (d : decode cc pc = .ok (.invokestatic idx, 3)) (k : ∀ (r : Option Nat) (u : PP), post r u → G E R D cy nL u (cs + mc) (sl + ms) (pc + 3) lv (va_rf r :: rest)) : G E R D cy nL P cs sl pc lv st := by
  obtain ⟨p, l, e, s, m, args, below, meth, c, Q, A⟩ := E
  obtain ⟨hx, hb, hml, hown, hT, hK, hA, hlk⟩ := C
  intro H locs ls hP hD hS hl
  have hFc : ∀ q : Nat, va_A (pw cy P) H.size q → A q := by
    rintro q (⟨j, x, h⟩ | h)
    · exact hD.2 j _ h
    · exact hA q (Nat.le_trans hS.1 h)
  have hpre : ∀ U : State, U.heap = H → s.WarmedH U.vm → va_Pc As (pB D cy P H.size) (As : List Value).toArray U := fun U hU hW => ⟨rfl, by rw [hU], hT.warm hW, by rw [hU]; exact hP, va_K.moved hW.alike hK, ⟨hD.1, fun _ _ _ => trivial⟩⟩
  obtain ⟨mb, m1⟩ := mv
  have hrun := va_runS (p := p) (l := l) (e := e) (R := R) (below := below) (meth := meth) (locs := locs) (cells := cs) (slots := sl) (g := F0 m pc ls st) (As := As) (rest := rest) (Ts := []) ⟨hx, hb, hml, hown, fun w hw => absurd hw List.not_mem_nil⟩ (hM l D cy H.size) ⟨callB_tw hT mb hrm.1 hrm.2.1 hrm.2.2.1 hrm.2.2.2, m1 s hT args⟩ ⟨pB_blind, hpre⟩ rfl hn hl.1 hst (lv_room hrest) d hroom
  exact va_callq hrun hS (fun q _ h => hFc q h) hFc (fun r u t H1 locs1 ht hvm hw hB hz1 hk1 hS1 => k r u hw H1 locs1 ls (by rw [← ht]; exact hB.1) ⟨hB.2.2.1, fun j q h => hFc _ (hB.2.2.2 j q h)⟩ hS1 hl)
theorem g_callCV (C : Cx E D cy nL cc own) {idx mL n ci mc ms b : Nat} {y : MethodName} {yc : ByteArray} {ret : Option FieldType} {rm : Room} (mv : MI own idx y yc mL n) (As : List Value) {post : PP → Prop} (hM : CtrV y yc mL none rm mc ms P (.ref b :: As) post) (hst : st = As.reverse ++ .ref b :: rest) (hn : As.length = n) (hrm : rm.cells = mc ∧ rm.slots = ms ∧ rm.frames + 1 ≤ R.frames ∧ 8 + (mL + 11) + rm.locals ≤ R.locals) (hrest : (rest.map fun v => v.category).sum ≤ 8) (hroom : cs + mc ≤ R.cells ∧ sl + ms ≤ R.slots) (d : decode cc pc = .ok (.invokespecial idx, 3)) (k : ∀ (u : PP), post u → G E R D cy nL u (cs + mc) (sl + ms) (pc + 3) lv rest) : G E R D cy nL P cs sl pc lv st := by
  obtain ⟨p, l, e, s, m, args, below, meth, c, Q, A⟩ := E
  obtain ⟨hx, hb, hml, hown, hT, hK, hA, hlk⟩ := C
  intro H locs ls hP hD hS hl
  have hFc : ∀ q : Nat, va_A (pw cy P) H.size q → A q := by
    rintro q (⟨j, x, h⟩ | h)
    · exact hD.2 j _ h
    · exact hA q (Nat.le_trans hS.1 h)
  have hpre : ∀ U : State, U.heap = H → s.WarmedH U.vm → va_Pc (.ref b :: As) (pB D cy P H.size) ((.ref b :: As) : List Value).toArray U := fun U hU hW => ⟨rfl, by rw [hU], hT.warm hW, by rw [hU]; exact hP, va_K.moved hW.alike hK, ⟨hD.1, fun _ _ _ => trivial⟩⟩
  obtain ⟨mb, m1, m2⟩ := mv
  have hrun := va_runI (p := p) (l := l) (e := e) (R := R) (below := below) (meth := meth) (locs := locs) (cells := cs) (slots := sl) (g := F0 m pc ls st) (As := As) (rest := rest) (Ts := []) ⟨hx, hb, hml, hown, fun w hw => absurd hw List.not_mem_nil⟩ (hM l D cy H.size) ⟨callB_tw hT mb hrm.1 hrm.2.1 hrm.2.2.1 hrm.2.2.2, m2, m1 s hT args⟩ ⟨pB_blind, hpre⟩ rfl hn hl.1 hst (lv_room hrest) d hroom
  exact va_callv hrun hS (fun q _ h => hFc q h) hFc (fun u t H1 locs1 ht hvm hw hB hz1 hk1 hS1 => k u hw H1 locs1 ls (by rw [← ht]; exact hB.1) ⟨hB.2.2.1, fun j q h => hFc _ (hB.2.2.2 j q h)⟩ hS1 hl)
theorem g_callNV (C : Cx E D cy nL cc own) {idx mL n ci mc ms b : Nat} {y : MethodName} {yc : ByteArray} {ret : Option FieldType} {rm : Room} {host : String} (mv : MN own idx y yc mL n host) (As : List Value) {post : PP → Prop} (hM : CtrV y yc mL none rm mc ms P (.ref b :: As) post) (hst : st = As.reverse ++ .ref b :: rest) (hn : As.length = n) (hrm : rm.cells = mc ∧ rm.slots = ms ∧ rm.frames + 1 ≤ R.frames ∧ 8 + (mL + 11) + rm.locals ≤ R.locals) (hrest : (rest.map fun v => v.category).sum ≤ 8) (hroom : cs + mc ≤ R.cells ∧ sl + ms ≤ R.slots) (d : decode cc pc = .ok (.invokespecial idx, 3)) (k : ∀ (u : PP), post u → G E R D cy nL u (cs + mc) (sl + ms) (pc + 3) lv rest) : G E R D cy nL P cs sl pc lv st := by
  obtain ⟨p, l, e, s, m, args, below, meth, c, Q, A⟩ := E
  obtain ⟨hx, hb, hml, hown, hT, hK, hA, hlk⟩ := C
  intro H locs ls hP hD hS hl
  have hFc : ∀ q : Nat, va_A (pw cy P) H.size q → A q := by
    rintro q (⟨j, x, h⟩ | h)
    · exact hD.2 j _ h
    · exact hA q (Nat.le_trans hS.1 h)
  have hpre : ∀ U : State, U.heap = H → s.WarmedH U.vm → va_Pc (.ref b :: As) (pB D cy P H.size) ((.ref b :: As) : List Value).toArray U := fun U hU hW => ⟨rfl, by rw [hU], hT.warm hW, by rw [hU]; exact hP, va_K.moved hW.alike hK, ⟨hD.1, fun _ _ _ => trivial⟩⟩
  obtain ⟨⟨w1, w2, w3, w4⟩, m1, m2⟩ := mv
  have hcn := va_cnB (R := R) (s := s) (args := args) (Ts := [.code y yc mL none]) (rm := rm) (mc := mc) (ms := ms) n (fun w hw => by rw [List.mem_singleton.mp hw]; exact w3 s hT args) (fun w hw => ⟨hw, by rw [List.mem_singleton.mp hw]; exact good_of_word (w := .code y yc mL none) rfl⟩) rfl hrm.1 hrm.2.1 (va_Nw.of rfl (w1 s hT args)) (w2 s hT args) w4 ⟨hrm.2.2.1, hrm.2.2.2⟩
  have hrun := va_runIN (p := p) (l := l) (e := e) (R := R) (below := below) (meth := meth) (locs := locs) (cells := cs) (slots := sl) (g := F0 m pc ls st) (As := As) (rest := rest) (Ts := []) ⟨hx, hb, hml, hown, fun w hw => absurd hw List.not_mem_nil⟩ (hM l D cy H.size) ⟨hcn, m2, m1 s hT args⟩ ⟨pB_blind, hpre⟩ rfl hn hl.1 hst (lv_room hrest) d hroom
  exact va_callv hrun hS (fun q _ h => hFc q h) hFc (fun u t H1 locs1 ht hvm hw hB hz1 hk1 hS1 => k u hw H1 locs1 ls (by rw [← ht]; exact hB.1) ⟨hB.2.2.1, fun j q h => hFc _ (hB.2.2.2 j q h)⟩ hS1 hl)
theorem g_callSNI (C : Cx E D cy nL cc own) {idx mL n ci mc ms b : Nat} {y : MethodName} {yc : ByteArray} {ret : Option FieldType} {rm : Room} {host : String} (mv : MSN own idx y yc mL ret n host) (As : List Value) {post : Int32 → PP → Prop} (hM : CtrI y yc mL ret rm mc ms P As post) (hst : st = As.reverse ++ rest) (hn : As.length = n) (hrm : rm.cells = mc ∧ rm.slots = ms ∧ rm.frames + 1 ≤ R.frames ∧ 8 + (mL + 11) + rm.locals ≤ R.locals) (hrest : (rest.map fun v => v.category).sum ≤ 8) (hroom : cs + mc ≤ R.cells ∧ sl + ms ≤ R.slots) (d : decode cc pc = .ok (.invokestatic idx, 3)) (k : ∀ (r : Int32) (u : PP), post r u → G E R D cy nL u (cs + mc) (sl + ms) (pc + 3) lv (.int r :: rest)) : G E R D cy nL P cs sl pc lv st := by
  obtain ⟨p, l, e, s, m, args, below, meth, c, Q, A⟩ := E
  obtain ⟨hx, hb, hml, hown, hT, hK, hA, hlk⟩ := C
  intro H locs ls hP hD hS hl
  have hFc : ∀ q : Nat, va_A (pw cy P) H.size q → A q := by
    rintro q (⟨j, x, h⟩ | h)
    · exact hD.2 j _ h
    · exact hA q (Nat.le_trans hS.1 h)
  have hpre : ∀ U : State, U.heap = H → s.WarmedH U.vm → va_Pc As (pB D cy P H.size) (As : List Value).toArray U := fun U hU hW => ⟨rfl, by rw [hU], hT.warm hW, by rw [hU]; exact hP, va_K.moved hW.alike hK, ⟨hD.1, fun _ _ _ => trivial⟩⟩
  obtain ⟨⟨w1, w2, w3, w4⟩, m1⟩ := mv
  have hcn := va_cnB (R := R) (s := s) (args := args) (Ts := [.code y yc mL ret]) (rm := rm) (mc := mc) (ms := ms) n (fun w hw => by rw [List.mem_singleton.mp hw]; exact w3 s hT args) (fun w hw => ⟨hw, by rw [List.mem_singleton.mp hw]; exact good_of_word (w := .code y yc mL ret) rfl⟩) rfl hrm.1 hrm.2.1 (va_Nw.of rfl (w1 s hT args)) (w2 s hT args) w4 ⟨hrm.2.2.1, hrm.2.2.2⟩
  have hrun := va_runSN (p := p) (l := l) (e := e) (R := R) (below := below) (meth := meth) (locs := locs) (cells := cs) (slots := sl) (g := F0 m pc ls st) (As := As) (rest := rest) (Ts := []) ⟨hx, hb, hml, hown, fun w hw => absurd hw List.not_mem_nil⟩ (hM l D cy H.size) ⟨hcn, m1 s hT args, trivial⟩ ⟨pB_blind, hpre⟩ rfl hn hl.1 hst (lv_room hrest) d hroom
  exact va_calli hrun hS (fun q _ h => hFc q h) hFc (fun r u t H1 locs1 ht hvm hw hB hz1 hk1 hS1 => k r u hw H1 locs1 ls (by rw [← ht]; exact hB.1) ⟨hB.2.2.1, fun j q h => hFc _ (hB.2.2.2 j q h)⟩ hS1 hl)
theorem g_callSNL (C : Cx E D cy nL cc own) {idx mL n ci mc ms b : Nat} {y : MethodName} {yc : ByteArray} {ret : Option FieldType} {rm : Room} {host : String} (mv : MSN own idx y yc mL ret n host) (As : List Value) {post : Int64 → PP → Prop} (hM : CtrL y yc mL ret rm mc ms P As post) (hst : st = As.reverse ++ rest) (hn : As.length = n) (hrm : rm.cells = mc ∧ rm.slots = ms ∧ rm.frames + 1 ≤ R.frames ∧ 8 + (mL + 11) + rm.locals ≤ R.locals) (hrest : (rest.map fun v => v.category).sum ≤ 8) (hroom : cs + mc ≤ R.cells ∧ sl + ms ≤ R.slots) (d : decode cc pc = .ok (.invokestatic idx, 3)) (k : ∀ (r : Int64) (u : PP), post r u → G E R D cy nL u (cs + mc) (sl + ms) (pc + 3) lv (.long r :: rest)) : G E R D cy nL P cs sl pc lv st := by
  obtain ⟨p, l, e, s, m, args, below, meth, c, Q, A⟩ := E
  obtain ⟨hx, hb, hml, hown, hT, hK, hA, hlk⟩ := C
  intro H locs ls hP hD hS hl
  have hFc : ∀ q : Nat, va_A (pw cy P) H.size q → A q := by
    rintro q (⟨j, x, h⟩ | h)
    · exact hD.2 j _ h
    · exact hA q (Nat.le_trans hS.1 h)
  have hpre : ∀ U : State, U.heap = H → s.WarmedH U.vm → va_Pc As (pB D cy P H.size) (As : List Value).toArray U := fun U hU hW => ⟨rfl, by rw [hU], hT.warm hW, by rw [hU]; exact hP, va_K.moved hW.alike hK, ⟨hD.1, fun _ _ _ => trivial⟩⟩
  obtain ⟨⟨w1, w2, w3, w4⟩, m1⟩ := mv
  have hcn := va_cnB (R := R) (s := s) (args := args) (Ts := [.code y yc mL ret]) (rm := rm) (mc := mc) (ms := ms) n (fun w hw => by rw [List.mem_singleton.mp hw]; exact w3 s hT args) (fun w hw => ⟨hw, by rw [List.mem_singleton.mp hw]; exact good_of_word (w := .code y yc mL ret) rfl⟩) rfl hrm.1 hrm.2.1 (va_Nw.of rfl (w1 s hT args)) (w2 s hT args) w4 ⟨hrm.2.2.1, hrm.2.2.2⟩
  have hrun := va_runSN (p := p) (l := l) (e := e) (R := R) (below := below) (meth := meth) (locs := locs) (cells := cs) (slots := sl) (g := F0 m pc ls st) (As := As) (rest := rest) (Ts := []) ⟨hx, hb, hml, hown, fun w hw => absurd hw List.not_mem_nil⟩ (hM l D cy H.size) ⟨hcn, m1 s hT args, trivial⟩ ⟨pB_blind, hpre⟩ rfl hn hl.1 hst (lv_room hrest) d hroom
  exact va_calll hrun hS (fun q _ h => hFc q h) hFc (fun r u t H1 locs1 ht hvm hw hB hz1 hk1 hS1 => k r u hw H1 locs1 ls (by rw [← ht]; exact hB.1) ⟨hB.2.2.1, fun j q h => hFc _ (hB.2.2.2 j q h)⟩ hS1 hl)
theorem g_callSNV (C : Cx E D cy nL cc own) {idx mL n ci mc ms b : Nat} {y : MethodName} {yc : ByteArray} {ret : Option FieldType} {rm : Room} {host : String} (mv : MSN own idx y yc mL ret n host) (As : List Value) {post : PP → Prop} (hM : CtrV y yc mL ret rm mc ms P As post) (hst : st = As.reverse ++ rest) (hn : As.length = n) (hrm : rm.cells = mc ∧ rm.slots = ms ∧ rm.frames + 1 ≤ R.frames ∧ 8 + (mL + 11) + rm.locals ≤ R.locals) (hrest : (rest.map fun v => v.category).sum ≤ 8) (hroom : cs + mc ≤ R.cells ∧ sl + ms ≤ R.slots) (d : decode cc pc = .ok (.invokestatic idx, 3)) (k : ∀ (u : PP), post u → G E R D cy nL u (cs + mc) (sl + ms) (pc + 3) lv rest) : G E R D cy nL P cs sl pc lv st := by
  obtain ⟨p, l, e, s, m, args, below, meth, c, Q, A⟩ := E
  obtain ⟨hx, hb, hml, hown, hT, hK, hA, hlk⟩ := C
  intro H locs ls hP hD hS hl
  have hFc : ∀ q : Nat, va_A (pw cy P) H.size q → A q := by
    rintro q (⟨j, x, h⟩ | h)
    · exact hD.2 j _ h
    · exact hA q (Nat.le_trans hS.1 h)
  have hpre : ∀ U : State, U.heap = H → s.WarmedH U.vm → va_Pc As (pB D cy P H.size) (As : List Value).toArray U := fun U hU hW => ⟨rfl, by rw [hU], hT.warm hW, by rw [hU]; exact hP, va_K.moved hW.alike hK, ⟨hD.1, fun _ _ _ => trivial⟩⟩
  obtain ⟨⟨w1, w2, w3, w4⟩, m1⟩ := mv
  have hcn := va_cnB (R := R) (s := s) (args := args) (Ts := [.code y yc mL ret]) (rm := rm) (mc := mc) (ms := ms) n (fun w hw => by rw [List.mem_singleton.mp hw]; exact w3 s hT args) (fun w hw => ⟨hw, by rw [List.mem_singleton.mp hw]; exact good_of_word (w := .code y yc mL ret) rfl⟩) rfl hrm.1 hrm.2.1 (va_Nw.of rfl (w1 s hT args)) (w2 s hT args) w4 ⟨hrm.2.2.1, hrm.2.2.2⟩
  have hrun := va_runSN (p := p) (l := l) (e := e) (R := R) (below := below) (meth := meth) (locs := locs) (cells := cs) (slots := sl) (g := F0 m pc ls st) (As := As) (rest := rest) (Ts := []) ⟨hx, hb, hml, hown, fun w hw => absurd hw List.not_mem_nil⟩ (hM l D cy H.size) ⟨hcn, m1 s hT args, trivial⟩ ⟨pB_blind, hpre⟩ rfl hn hl.1 hst (lv_room hrest) d hroom
  exact va_callv hrun hS (fun q _ h => hFc q h) hFc (fun u t H1 locs1 ht hvm hw hB hz1 hk1 hS1 => k u hw H1 locs1 ls (by rw [← ht]; exact hB.1) ⟨hB.2.2.1, fun j q h => hFc _ (hB.2.2.2 j q h)⟩ hS1 hl)
theorem g_callSNQ (C : Cx E D cy nL cc own) {idx mL n ci mc ms b : Nat} {y : MethodName} {yc : ByteArray} {ret : Option FieldType} {rm : Room} {host : String} (mv : MSN own idx y yc mL ret n host) (As : List Value) {post : Option Nat → PP → Prop} (hM : CtrQ y yc mL ret rm mc ms P As post) (hst : st = As.reverse ++ rest) (hn : As.length = n) (hrm : rm.cells = mc ∧ rm.slots = ms ∧ rm.frames + 1 ≤ R.frames ∧ 8 + (mL + 11) + rm.locals ≤ R.locals) (hrest : (rest.map fun v => v.category).sum ≤ 8) (hroom : cs + mc ≤ R.cells ∧ sl + ms ≤ R.slots) (d : decode cc pc = .ok (.invokestatic idx, 3)) (k : ∀ (r : Option Nat) (u : PP), post r u → G E R D cy nL u (cs + mc) (sl + ms) (pc + 3) lv (va_rf r :: rest)) : G E R D cy nL P cs sl pc lv st := by
  obtain ⟨p, l, e, s, m, args, below, meth, c, Q, A⟩ := E
  obtain ⟨hx, hb, hml, hown, hT, hK, hA, hlk⟩ := C
  intro H locs ls hP hD hS hl
  have hFc : ∀ q : Nat, va_A (pw cy P) H.size q → A q := by
    rintro q (⟨j, x, h⟩ | h)
    · exact hD.2 j _ h
    · exact hA q (Nat.le_trans hS.1 h)
  have hpre : ∀ U : State, U.heap = H → s.WarmedH U.vm → va_Pc As (pB D cy P H.size) (As : List Value).toArray U := fun U hU hW => ⟨rfl, by rw [hU], hT.warm hW, by rw [hU]; exact hP, va_K.moved hW.alike hK, ⟨hD.1, fun _ _ _ => trivial⟩⟩
  obtain ⟨⟨w1, w2, w3, w4⟩, m1⟩ := mv
  have hcn := va_cnB (R := R) (s := s) (args := args) (Ts := [.code y yc mL ret]) (rm := rm) (mc := mc) (ms := ms) n (fun w hw => by rw [List.mem_singleton.mp hw]; exact w3 s hT args) (fun w hw => ⟨hw, by rw [List.mem_singleton.mp hw]; exact good_of_word (w := .code y yc mL ret) rfl⟩) rfl hrm.1 hrm.2.1 (va_Nw.of rfl (w1 s hT args)) (w2 s hT args) w4 ⟨hrm.2.2.1, hrm.2.2.2⟩
  have hrun := va_runSN (p := p) (l := l) (e := e) (R := R) (below := below) (meth := meth) (locs := locs) (cells := cs) (slots := sl) (g := F0 m pc ls st) (As := As) (rest := rest) (Ts := []) ⟨hx, hb, hml, hown, fun w hw => absurd hw List.not_mem_nil⟩ (hM l D cy H.size) ⟨hcn, m1 s hT args, trivial⟩ ⟨pB_blind, hpre⟩ rfl hn hl.1 hst (lv_room hrest) d hroom
  exact va_callq hrun hS (fun q _ h => hFc q h) hFc (fun r u t H1 locs1 ht hvm hw hB hz1 hk1 hS1 => k r u hw H1 locs1 ls (by rw [← ht]; exact hB.1) ⟨hB.2.2.1, fun j q h => hFc _ (hB.2.2.2 j q h)⟩ hS1 hl)
end GC
def RetI (E : EV) (R : Room) (D : va_G) (cy : Nat → ClassId) (nL : Nat) (cc : ByteArray) (mc ms : Nat) (rt : FieldType) (post : Int32 → PP → Prop) : Prop := ∀ (P : PP) (cs sl pc : Nat) (lv : List (Nat × Value)) (v : Int32) , decode cc pc = .ok (.ireturn, 1) → narrow rt (.int v) = .int v → cs ≤ mc → sl ≤ ms → post v P → G E R D cy nL P cs sl pc lv [.int v]
theorem enI {y : MethodName} {yc : ByteArray} {mL : Nat} {rt : FieldType} {rm : Room} {mc ms : Nat} {P : PP} {av : List Value} {post : Int32 → PP → Prop} {lv : List (Nat × Value)} (hy : plainName y.cls = true) (hlen : (lg_sl av).length ≤ mL) (hlv : lv_args 0 av = lv) (body : ∀ (E : EV) (D : va_G) (cy : Nat → ClassId), Cx E D cy mL yc y.cls → (y.name = "<init>" → Ci E) → RetI E rm D cy mL yc mc ms rt post → G E rm D cy mL P 0 0 0 lv []) : CtrI y yc mL (some rt) rm mc ms P av post := by
  intro l D cy sz
  refine Met.ofW (cc := yc) (maxL := mL) (ret := some rt) hy rfl ?_
  intro p e s m args below meth c s₁ B hml hv
  obtain ⟨rfl, hsz, hT, hP, hK, hD0⟩ := hv
  have hx := B.exec
  have hb := B.bytes
  have hr := B.returns
  have hown : s.vm.findClass y.cls = some m.cls := findClass_of_methodNamed B.named
  have hlocks := B.notSynchronized
  have hin : meth.name = y.name := (name_of_methodNamed B.named B.method).1
  subst hsz
  have hD := hD0.self (sz := s.heap.size)
  have hA : ∀ q : Nat, s.heap.size ≤ q → va_A (pw cy P) s.heap.size q := fun q h => Or.inr h
  have hS : va_S (va_A (pw cy P) s.heap.size) s.heap s.heap [] := va_S.rf
  have hl := lv_entry av (n := mL) hlen
  rw [hlv] at hl
  rw [lg_entry_eq]
  refine body (p, l, e, s, m, av.toArray, below, meth, c, _, va_A (pw cy P) s.heap.size) D cy ⟨hx, hb, hml, hown, hT, hK, hA, hlocks⟩ (fun h => hin.trans h) ?_ s.heap [] _ hP hD hS hl
  intro P2 cs sl pc lv2 v d hn h1 h2 hp H locs ls hP2 hD2 hS2 hl2
  refine W.widen h1 h2 ?_
  exact W.zret hx hb hr hn (fun t ht hW => ⟨⟨v, P2, rfl, hp, by rw [ht]; exact hP2, va_K.moved hW.alike hK, hD2⟩, hS2.F ht⟩) hS2.2.2 d
def RetL (E : EV) (R : Room) (D : va_G) (cy : Nat → ClassId) (nL : Nat) (cc : ByteArray) (mc ms : Nat) (post : Int64 → PP → Prop) : Prop := ∀ (P : PP) (cs sl pc : Nat) (lv : List (Nat × Value)) (v : Int64) , decode cc pc = .ok (.lreturn, 1) → cs ≤ mc → sl ≤ ms → post v P → G E R D cy nL P cs sl pc lv [.long v]
theorem enL {y : MethodName} {yc : ByteArray} {mL : Nat} {rm : Room} {mc ms : Nat} {P : PP} {av : List Value} {post : Int64 → PP → Prop} {lv : List (Nat × Value)} (hy : plainName y.cls = true) (hlen : (lg_sl av).length ≤ mL) (hlv : lv_args 0 av = lv) (body : ∀ (E : EV) (D : va_G) (cy : Nat → ClassId), Cx E D cy mL yc y.cls → (y.name = "<init>" → Ci E) → RetL E rm D cy mL yc mc ms post → G E rm D cy mL P 0 0 0 lv []) : CtrL y yc mL (some .long) rm mc ms P av post := by
  intro l D cy sz
  refine Met.ofW (cc := yc) (maxL := mL) (ret := some .long) hy rfl ?_
  intro p e s m args below meth c s₁ B hml hv
  obtain ⟨rfl, hsz, hT, hP, hK, hD0⟩ := hv
  have hx := B.exec
  have hb := B.bytes
  have hr := B.returns
  have hown : s.vm.findClass y.cls = some m.cls := findClass_of_methodNamed B.named
  have hlocks := B.notSynchronized
  have hin : meth.name = y.name := (name_of_methodNamed B.named B.method).1
  subst hsz
  have hD := hD0.self (sz := s.heap.size)
  have hA : ∀ q : Nat, s.heap.size ≤ q → va_A (pw cy P) s.heap.size q := fun q h => Or.inr h
  have hS : va_S (va_A (pw cy P) s.heap.size) s.heap s.heap [] := va_S.rf
  have hl := lv_entry av (n := mL) hlen
  rw [hlv] at hl
  rw [lg_entry_eq]
  refine body (p, l, e, s, m, av.toArray, below, meth, c, _, va_A (pw cy P) s.heap.size) D cy ⟨hx, hb, hml, hown, hT, hK, hA, hlocks⟩ (fun h => hin.trans h) ?_ s.heap [] _ hP hD hS hl
  intro P2 cs sl pc lv2 v d h1 h2 hp H locs ls hP2 hD2 hS2 hl2
  refine W.widen h1 h2 ?_
  exact W.lret hx hb hr (fun t ht hW => ⟨⟨v, P2, rfl, hp, by rw [ht]; exact hP2, va_K.moved hW.alike hK, hD2⟩, hS2.F ht⟩) hS2.2.2 d
def RetV (E : EV) (R : Room) (D : va_G) (cy : Nat → ClassId) (nL : Nat) (cc : ByteArray) (mc ms : Nat) (post : PP → Prop) : Prop := ∀ (P : PP) (cs sl pc : Nat) (lv : List (Nat × Value)) , decode cc pc = .ok (.return_, 1) → cs ≤ mc → sl ≤ ms → post P → G E R D cy nL P cs sl pc lv []
theorem enV {y : MethodName} {yc : ByteArray} {mL : Nat} {rm : Room} {mc ms : Nat} {P : PP} {av : List Value} {post : PP → Prop} {lv : List (Nat × Value)} (hy : plainName y.cls = true) (hlen : (lg_sl av).length ≤ mL) (hlv : lv_args 0 av = lv) (body : ∀ (E : EV) (D : va_G) (cy : Nat → ClassId), Cx E D cy mL yc y.cls → (y.name = "<init>" → Ci E) → RetV E rm D cy mL yc mc ms post → G E rm D cy mL P 0 0 0 lv []) : CtrV y yc mL none rm mc ms P av post := by
  intro l D cy sz
  refine Met.ofW (cc := yc) (maxL := mL) (ret := none) hy rfl ?_
  intro p e s m args below meth c s₁ B hml hv
  obtain ⟨rfl, hsz, hT, hP, hK, hD0⟩ := hv
  have hx := B.exec
  have hb := B.bytes
  have hr := B.returns
  have hown : s.vm.findClass y.cls = some m.cls := findClass_of_methodNamed B.named
  have hlocks := B.notSynchronized
  have hin : meth.name = y.name := (name_of_methodNamed B.named B.method).1
  subst hsz
  have hD := hD0.self (sz := s.heap.size)
  have hA : ∀ q : Nat, s.heap.size ≤ q → va_A (pw cy P) s.heap.size q := fun q h => Or.inr h
  have hS : va_S (va_A (pw cy P) s.heap.size) s.heap s.heap [] := va_S.rf
  have hl := lv_entry av (n := mL) hlen
  rw [hlv] at hl
  rw [lg_entry_eq]
  refine body (p, l, e, s, m, av.toArray, below, meth, c, _, va_A (pw cy P) s.heap.size) D cy ⟨hx, hb, hml, hown, hT, hK, hA, hlocks⟩ (fun h => hin.trans h) ?_ s.heap [] _ hP hD hS hl
  intro P2 cs sl pc lv2 d h1 h2 hp H locs ls hP2 hD2 hS2 hl2
  refine W.widen h1 h2 ?_
  exact W.vret hx hb hr (fun t ht hW => ⟨⟨P2, rfl, hp, by rw [ht]; exact hP2, va_K.moved hW.alike hK, hD2⟩, hS2.F ht⟩) hS2.2.2 d
def RetQ (E : EV) (R : Room) (D : va_G) (cy : Nat → ClassId) (nL : Nat) (cc : ByteArray) (mc ms : Nat) (rt : FieldType) (post : Option Nat → PP → Prop) : Prop := ∀ (P : PP) (cs sl pc : Nat) (lv : List (Nat × Value)) (v : Option Nat) , decode cc pc = .ok (.areturn, 1) → cs ≤ mc → sl ≤ ms → post v P → G E R D cy nL P cs sl pc lv [va_rf v]
theorem enQ {y : MethodName} {yc : ByteArray} {mL : Nat} {rt : FieldType} {rm : Room} {mc ms : Nat} {P : PP} {av : List Value} {post : Option Nat → PP → Prop} {lv : List (Nat × Value)} (hy : plainName y.cls = true) (hrt : (∃ n, rt = .object n) ∨ ∃ t, rt = .array t) (hlen : (lg_sl av).length ≤ mL) (hlv : lv_args 0 av = lv) (body : ∀ (E : EV) (D : va_G) (cy : Nat → ClassId), Cx E D cy mL yc y.cls → (y.name = "<init>" → Ci E) → RetQ E rm D cy mL yc mc ms rt post → G E rm D cy mL P 0 0 0 lv []) : CtrQ y yc mL (some rt) rm mc ms P av post := by
  intro l D cy sz
  refine Met.ofW (cc := yc) (maxL := mL) (ret := some rt) hy rfl ?_
  intro p e s m args below meth c s₁ B hml hv
  obtain ⟨rfl, hsz, hT, hP, hK, hD0⟩ := hv
  have hx := B.exec
  have hb := B.bytes
  have hr := B.returns
  have hown : s.vm.findClass y.cls = some m.cls := findClass_of_methodNamed B.named
  have hlocks := B.notSynchronized
  have hin : meth.name = y.name := (name_of_methodNamed B.named B.method).1
  subst hsz
  have hD := hD0.self (sz := s.heap.size)
  have hA : ∀ q : Nat, s.heap.size ≤ q → va_A (pw cy P) s.heap.size q := fun q h => Or.inr h
  have hS : va_S (va_A (pw cy P) s.heap.size) s.heap s.heap [] := va_S.rf
  have hl := lv_entry av (n := mL) hlen
  rw [hlv] at hl
  rw [lg_entry_eq]
  refine body (p, l, e, s, m, av.toArray, below, meth, c, _, va_A (pw cy P) s.heap.size) D cy ⟨hx, hb, hml, hown, hT, hK, hA, hlocks⟩ (fun h => hin.trans h) ?_ s.heap [] _ hP hD hS hl
  intro P2 cs sl pc lv2 v d h1 h2 hp H locs ls hP2 hD2 hS2 hl2
  refine W.widen h1 h2 ?_
  exact W.aret hx hb hr hrt (by cases v with | none => exact Or.inl rfl | some a => exact Or.inr ⟨a, rfl⟩) (fun t ht hW => ⟨⟨v, P2, rfl, hp, by rw [ht]; exact hP2, va_K.moved hW.alike hK, hD2⟩, hS2.F ht⟩) hS2.2.2 d
end
section
theorem TWs {C : String} {T : u_T} {N : Nat} (h : ∀ k, k < N → TW (u_lay C T k)) : ∀ w ∈ u_ws C T N, TW w := by
  intro w hw
  obtain ⟨k, hk, rfl⟩ := List.mem_map.mp hw
  exact h k (List.mem_range.mp hk)
theorem sb_1 {w : Cond} (h : w ∈ tables_1_1) (ho : okW w = true) : TW w := TW.of (List.mem_append_right _ (List.mem_append_left _ h)) ho
theorem sb_2 {w : Cond} (h : w ∈ tables_1_2) (ho : okW w = true) : TW w := TW.of (List.mem_append_right _ (List.mem_append_right _ (List.mem_append_left _ h))) ho
theorem sb_3 {w : Cond} (h : w ∈ tables_1_3) (ho : okW w = true) : TW w := TW.of (List.mem_append_right _ (List.mem_append_right _ (List.mem_append_right _ (List.mem_append_left _ h)))) ho
theorem sb_4 {w : Cond} (h : w ∈ tables_1_4) (ho : okW w = true) : TW w := TW.of (List.mem_append_right _ (List.mem_append_right _ (List.mem_append_right _ (List.mem_append_right _ (List.mem_append_left _ h))))) ho
theorem sb_5 {w : Cond} (h : w ∈ tables_1_5) (ho : okW w = true) : TW w := TW.of (List.mem_append_right _ (List.mem_append_right _ (List.mem_append_right _ (List.mem_append_right _ (List.mem_append_right _ (List.mem_append_left _ h)))))) ho
theorem sb_6 {w : Cond} (h : w ∈ tables_1_6) (ho : okW w = true) : TW w := TW.of (List.mem_append_right _ (List.mem_append_right _ (List.mem_append_right _ (List.mem_append_right _ (List.mem_append_right _ (List.mem_append_right _ (List.mem_append_left _ h))))))) ho
theorem sb_7 {w : Cond} (h : w ∈ tables_1_7) (ho : okW w = true) : TW w := TW.of (List.mem_append_right _ (List.mem_append_right _ (List.mem_append_right _ (List.mem_append_right _ (List.mem_append_right _ (List.mem_append_right _ (List.mem_append_right _ (List.mem_append_left _ h)))))))) ho
theorem sb_8 {w : Cond} (h : w ∈ tables_1_8) (ho : okW w = true) : TW w := TW.of (List.mem_append_right _ (List.mem_append_right _ (List.mem_append_right _ (List.mem_append_right _ (List.mem_append_right _ (List.mem_append_right _ (List.mem_append_right _ (List.mem_append_right _ (h))))))))) ho
theorem tw_1 : TW (Jvm.Cond.initialized "ThousandLeaflets") := sb_1 (List.mem_of_getElem? (i := 1) rfl) rfl
theorem tw_2 : TW (Jvm.Cond.initialized "ThousandLeaflets$DrawReader") := sb_1 (List.mem_of_getElem? (i := 2) rfl) rfl
theorem tw_3 : TW (Jvm.Cond.initialized "ThousandLeaflets$Tape") := sb_1 (List.mem_of_getElem? (i := 3) rfl) rfl
theorem tw_4 : TW (Jvm.Cond.initialized "ThousandLeaflets$Draw") := sb_1 (List.mem_of_getElem? (i := 4) rfl) rfl
theorem tw_5 : TW (Jvm.Cond.initialized "ThousandLeaflets$Sets") := sb_1 (List.mem_of_getElem? (i := 5) rfl) rfl
theorem tw_6 : TW (Jvm.Cond.initialized "ThousandLeaflets$Equations") := sb_1 (List.mem_of_getElem? (i := 6) rfl) rfl
theorem tw_7 : TW (Jvm.Cond.initialized "ThousandLeaflets$Basis") := sb_1 (List.mem_of_getElem? (i := 7) rfl) rfl
theorem tw_8 : TW (Jvm.Cond.initialized "ThousandLeaflets$Coming") := sb_1 (List.mem_of_getElem? (i := 8) rfl) rfl
theorem tw_9 : TW (Jvm.Cond.initialized "ThousandLeaflets$Ways") := sb_1 (List.mem_of_getElem? (i := 9) rfl) rfl
theorem tw_10 : TW (Jvm.Cond.initialized "ThousandLeaflets$Book") := sb_1 (List.mem_of_getElem? (i := 10) rfl) rfl
theorem tw_11 : TW (Jvm.Cond.initialized "ThousandLeaflets$Heap") := sb_1 (List.mem_of_getElem? (i := 11) rfl) rfl
theorem tw_12 : TW (Jvm.Cond.initialized "ThousandLeafletsModel") := sb_1 (List.mem_of_getElem? (i := 12) rfl) rfl
theorem tw_13 : TW (Jvm.Cond.initialized "java/lang/String") := sb_1 (List.mem_of_getElem? (i := 13) rfl) rfl
theorem tw_14 : TW (Jvm.Cond.initialized "java/lang/StringLatin1") := sb_1 (List.mem_of_getElem? (i := 14) rfl) rfl
theorem tw_15 : TW (Jvm.Cond.initialized "jdk/internal/util/Preconditions") := sb_1 (List.mem_of_getElem? (i := 15) rfl) rfl
theorem tw_16 : TW (Jvm.Cond.initialized "java/lang/StringUTF16") := sb_1 (List.mem_of_getElem? (i := 16) rfl) rfl
theorem tw_18 : TW (Jvm.Cond.initialized "java/lang/Integer") := sb_1 (List.mem_of_getElem? (i := 18) rfl) rfl
theorem tw_19 : TW (Jvm.Cond.initialized "ThousandLeaflets$Paper") := sb_1 (List.mem_of_getElem? (i := 19) rfl) rfl
theorem tw_24 : TW (Jvm.Cond.initialized "java/lang/Long") := sb_1 (List.mem_of_getElem? (i := 24) rfl) rfl
theorem tw_25 : TW (Jvm.Cond.initialized "java/lang/Math") := sb_1 (List.mem_of_getElem? (i := 25) rfl) rfl
theorem tw_26 : TW (Jvm.Cond.classLink "ThousandLeafletsLaw" (8 : Nat) "ThousandLeaflets") := sb_1 (List.mem_of_getElem? (i := 26) rfl) rfl
theorem tw_27 : TW (Jvm.Cond.instantiable "ThousandLeaflets" (14 : Nat)) := sb_1 (List.mem_of_getElem? (i := 27) rfl) rfl
theorem tw_28 : TW (Jvm.Cond.methodLink "ThousandLeafletsLaw" (15 : Nat) ({ cls := "ThousandLeaflets", name := "<init>", desc := "()V" } : Jvm.MethodName)) := sb_1 (List.mem_of_getElem? (i := 28) rfl) rfl
theorem tw_29 : TW (Jvm.Cond.instanceMethod ({ cls := "ThousandLeaflets", name := "<init>", desc := "()V" } : Jvm.MethodName)) := sb_1 (List.mem_of_getElem? (i := 29) rfl) rfl
theorem tw_30 : TW (Jvm.Cond.code ({ cls := "ThousandLeaflets", name := "<init>", desc := "()V" } : Jvm.MethodName) prog_1_method_1_code (2 : Nat) (Option.none : Option Jvm.ClassFile.FieldType)) := sb_1 (List.mem_of_getElem? (i := 30) rfl) rfl
theorem tw_31 : TW (Jvm.Cond.methodLink "ThousandLeaflets" (3 : Nat) ({ cls := "java/lang/Object", name := "<init>", desc := "()V" } : Jvm.MethodName)) := sb_1 (List.mem_of_getElem? (i := 31) rfl) rfl
theorem tw_32 : TW (Jvm.Cond.instanceMethod ({ cls := "java/lang/Object", name := "<init>", desc := "()V" } : Jvm.MethodName)) := sb_1 (List.mem_of_getElem? (i := 32) rfl) rfl
theorem tw_33 : TW (Jvm.Cond.code ({ cls := "java/lang/Object", name := "<init>", desc := "()V" } : Jvm.MethodName) object_method_1_code (1 : Nat) (Option.none : Option Jvm.ClassFile.FieldType)) := sb_1 (List.mem_of_getElem? (i := 33) rfl) rfl
theorem tw_34 : TW (Jvm.Cond.classLink "ThousandLeaflets" (9 : Nat) "ThousandLeaflets$Book") := sb_1 (List.mem_of_getElem? (i := 34) rfl) rfl
theorem tw_35 : TW (Jvm.Cond.arrayOver (Jvm.ClassFile.FieldType.object "ThousandLeaflets$Book")) := sb_1 (List.mem_of_getElem? (i := 35) rfl) rfl
theorem tw_36 : TW (Jvm.Cond.classLink "ThousandLeaflets" (15 : Nat) "ThousandLeaflets$Heap") := sb_1 (List.mem_of_getElem? (i := 36) rfl) rfl
theorem tw_37 : TW (Jvm.Cond.arrayOver (Jvm.ClassFile.FieldType.object "ThousandLeaflets$Heap")) := sb_1 (List.mem_of_getElem? (i := 37) rfl) rfl
theorem tw_38 : TW (Jvm.Cond.classLink "ThousandLeaflets" (38 : Nat) "ThousandLeaflets$DrawReader") := sb_1 (List.mem_of_getElem? (i := 38) rfl) rfl
theorem tw_39 : TW (Jvm.Cond.instantiable "ThousandLeaflets$DrawReader" (2 : Nat)) := sb_1 (List.mem_of_getElem? (i := 39) rfl) rfl
theorem tw_40 : TW (Jvm.Cond.methodLinkNest "ThousandLeaflets" (40 : Nat) ({ cls := "ThousandLeaflets$DrawReader", name := "<init>", desc := "()V" } : Jvm.MethodName) "ThousandLeaflets") := sb_1 (List.mem_of_getElem? (i := 40) rfl) rfl
theorem tw_41 : TW (Jvm.Cond.instanceMethod ({ cls := "ThousandLeaflets$DrawReader", name := "<init>", desc := "()V" } : Jvm.MethodName)) := sb_1 (List.mem_of_getElem? (i := 41) rfl) rfl
theorem tw_42 : TW (Jvm.Cond.code ({ cls := "ThousandLeaflets$DrawReader", name := "<init>", desc := "()V" } : Jvm.MethodName) prog_6_method_1_code (1 : Nat) (Option.none : Option Jvm.ClassFile.FieldType)) := sb_1 (List.mem_of_getElem? (i := 42) rfl) rfl
theorem tw_43 : TW (Jvm.Cond.methodLink "ThousandLeaflets$DrawReader" (3 : Nat) ({ cls := "java/lang/Object", name := "<init>", desc := "()V" } : Jvm.MethodName)) := sb_1 (List.mem_of_getElem? (i := 43) rfl) rfl
theorem tw_44 : TW (Jvm.Cond.classLink "ThousandLeaflets$DrawReader" (9 : Nat) "ThousandLeaflets$Tape") := sb_1 (List.mem_of_getElem? (i := 44) rfl) rfl
theorem tw_45 : TW (Jvm.Cond.instantiable "ThousandLeaflets$Tape" (6 : Nat)) := sb_1 (List.mem_of_getElem? (i := 45) rfl) rfl
theorem tw_46 : TW (Jvm.Cond.methodLinkNest "ThousandLeaflets$DrawReader" (11 : Nat) ({ cls := "ThousandLeaflets$Tape", name := "<init>", desc := "()V" } : Jvm.MethodName) "ThousandLeaflets") := sb_1 (List.mem_of_getElem? (i := 46) rfl) rfl
theorem tw_47 : TW (Jvm.Cond.instanceMethod ({ cls := "ThousandLeaflets$Tape", name := "<init>", desc := "()V" } : Jvm.MethodName)) := sb_1 (List.mem_of_getElem? (i := 47) rfl) rfl
theorem tw_48 : TW (Jvm.Cond.code ({ cls := "ThousandLeaflets$Tape", name := "<init>", desc := "()V" } : Jvm.MethodName) prog_11_method_1_code (1 : Nat) (Option.none : Option Jvm.ClassFile.FieldType)) := sb_1 (List.mem_of_getElem? (i := 48) rfl) rfl
theorem tw_49 : TW (Jvm.Cond.methodLink "ThousandLeaflets$Tape" (3 : Nat) ({ cls := "java/lang/Object", name := "<init>", desc := "()V" } : Jvm.MethodName)) := sb_1 (List.mem_of_getElem? (i := 49) rfl) rfl
theorem tw_50 : TW (Jvm.Cond.fieldLink "ThousandLeaflets$Tape" (9 : Nat) "ThousandLeaflets$Tape" "sign" "[I") := sb_1 (List.mem_of_getElem? (i := 50) rfl) rfl
theorem tw_51 : TW (Jvm.Cond.fieldLink "ThousandLeaflets$Tape" (15 : Nat) "ThousandLeaflets$Tape" "length" "I") := sb_1 (List.mem_of_getElem? (i := 51) rfl) rfl
theorem tw_52 : TW (Jvm.Cond.fieldLink "ThousandLeaflets" (121 : Nat) "ThousandLeaflets$Tape" "length" "I") := sb_1 (List.mem_of_getElem? (i := 52) rfl) rfl
theorem tw_53 : TW (Jvm.Cond.fieldLink "ThousandLeaflets$DrawReader" (34 : Nat) "ThousandLeaflets$Tape" "kind" "I") := sb_1 (List.mem_of_getElem? (i := 53) rfl) rfl
theorem tw_54 : TW (Jvm.Cond.fieldLink "ThousandLeaflets$Tape" (25 : Nat) "ThousandLeaflets$Tape" "kind" "I") := sb_1 (List.mem_of_getElem? (i := 54) rfl) rfl
theorem tw_55 : TW (Jvm.Cond.fieldLink "ThousandLeaflets$Tape" (22 : Nat) "ThousandLeaflets$Tape" "start" "I") := sb_1 (List.mem_of_getElem? (i := 55) rfl) rfl
theorem tw_56 : TW (Jvm.Cond.fieldLink "ThousandLeaflets$DrawReader" (96 : Nat) "ThousandLeaflets$Tape" "start" "I") := sb_1 (List.mem_of_getElem? (i := 56) rfl) rfl
theorem tw_57 : TW (Jvm.Cond.fieldLink "ThousandLeaflets$Tape" (19 : Nat) "ThousandLeaflets$Tape" "past" "I") := sb_1 (List.mem_of_getElem? (i := 57) rfl) rfl
theorem tw_58 : TW (Jvm.Cond.fieldLink "ThousandLeaflets$DrawReader" (82 : Nat) "ThousandLeaflets$Tape" "number" "I") := sb_1 (List.mem_of_getElem? (i := 58) rfl) rfl
theorem tw_59 : TW (Jvm.Cond.fieldLink "ThousandLeaflets$Tape" (36 : Nat) "ThousandLeaflets$Tape" "number" "I") := sb_1 (List.mem_of_getElem? (i := 59) rfl) rfl
theorem tw_60 : TW (Jvm.Cond.laysFinal "ThousandLeaflets$Tape" "ThousandLeaflets$Tape" "sign" "[I") := sb_1 (List.mem_of_getElem? (i := 60) rfl) rfl
theorem tw_62 : TW (Jvm.Cond.lays "ThousandLeaflets$Tape" "ThousandLeaflets$Tape" "length" "I") := sb_1 (List.mem_of_getElem? (i := 62) rfl) rfl
theorem tw_64 : TW (Jvm.Cond.lays "ThousandLeaflets$Tape" "ThousandLeaflets$Tape" "kind" "I") := sb_1 (List.mem_of_getElem? (i := 64) rfl) rfl
theorem tw_66 : TW (Jvm.Cond.lays "ThousandLeaflets$Tape" "ThousandLeaflets$Tape" "start" "I") := sb_1 (List.mem_of_getElem? (i := 66) rfl) rfl
theorem tw_68 : TW (Jvm.Cond.lays "ThousandLeaflets$Tape" "ThousandLeaflets$Tape" "past" "I") := sb_1 (List.mem_of_getElem? (i := 68) rfl) rfl
theorem tw_70 : TW (Jvm.Cond.lays "ThousandLeaflets$Tape" "ThousandLeaflets$Tape" "number" "I") := sb_1 (List.mem_of_getElem? (i := 70) rfl) rfl
theorem tw_73 : TW (Jvm.Cond.arrayClass Jvm.ClassFile.FieldType.boolean) := sb_1 (List.mem_of_getElem? (i := 73) rfl) rfl
theorem tw_74 : TW (Jvm.Cond.arrayClass Jvm.ClassFile.FieldType.int) := sb_1 (List.mem_of_getElem? (i := 74) rfl) rfl
theorem tw_75 : TW (Jvm.Cond.classLink "ThousandLeaflets$DrawReader" (18 : Nat) "ThousandLeaflets$Draw") := sb_1 (List.mem_of_getElem? (i := 75) rfl) rfl
theorem tw_76 : TW (Jvm.Cond.instantiable "ThousandLeaflets$Draw" (6 : Nat)) := sb_1 (List.mem_of_getElem? (i := 76) rfl) rfl
theorem tw_77 : TW (Jvm.Cond.methodLink "ThousandLeaflets$DrawReader" (20 : Nat) ({ cls := "ThousandLeaflets$Draw", name := "<init>", desc := "()V" } : Jvm.MethodName)) := sb_1 (List.mem_of_getElem? (i := 77) rfl) rfl
theorem tw_78 : TW (Jvm.Cond.instanceMethod ({ cls := "ThousandLeaflets$Draw", name := "<init>", desc := "()V" } : Jvm.MethodName)) := sb_1 (List.mem_of_getElem? (i := 78) rfl) rfl
theorem tw_79 : TW (Jvm.Cond.code ({ cls := "ThousandLeaflets$Draw", name := "<init>", desc := "()V" } : Jvm.MethodName) prog_5_method_1_code (1 : Nat) (Option.none : Option Jvm.ClassFile.FieldType)) := sb_1 (List.mem_of_getElem? (i := 79) rfl) rfl
theorem tw_80 : TW (Jvm.Cond.methodLink "ThousandLeaflets$Draw" (3 : Nat) ({ cls := "java/lang/Object", name := "<init>", desc := "()V" } : Jvm.MethodName)) := sb_1 (List.mem_of_getElem? (i := 80) rfl) rfl
theorem tw_81 : TW (Jvm.Cond.methodLink "ThousandLeaflets$Draw" (18 : Nat) ({ cls := "ThousandLeaflets$Draw", name := "clear", desc := "()V" } : Jvm.MethodName)) := sb_1 (List.mem_of_getElem? (i := 81) rfl) rfl
theorem tw_82 : TW (Jvm.Cond.instanceMethod ({ cls := "ThousandLeaflets$Draw", name := "clear", desc := "()V" } : Jvm.MethodName)) := sb_1 (List.mem_of_getElem? (i := 82) rfl) rfl
theorem tw_83 : TW (Jvm.Cond.selects "ThousandLeaflets$Draw" ({ cls := "ThousandLeaflets$Draw", name := "clear", desc := "()V" } : Jvm.MethodName) ({ cls := "ThousandLeaflets$Draw", name := "clear", desc := "()V" } : Jvm.MethodName)) := sb_1 (List.mem_of_getElem? (i := 83) rfl) rfl
theorem tw_84 : TW (Jvm.Cond.code ({ cls := "ThousandLeaflets$Draw", name := "clear", desc := "()V" } : Jvm.MethodName) prog_5_method_2_code (2 : Nat) (Option.none : Option Jvm.ClassFile.FieldType)) := sb_1 (List.mem_of_getElem? (i := 84) rfl) rfl
theorem tw_85 : TW (Jvm.Cond.fieldLink "ThousandLeaflets$Draw" (9 : Nat) "ThousandLeaflets$Draw" "odds" "[I") := sb_1 (List.mem_of_getElem? (i := 85) rfl) rfl
theorem tw_86 : TW (Jvm.Cond.fieldLink "ThousandLeaflets$DrawReader" (85 : Nat) "ThousandLeaflets$Draw" "odds" "[I") := sb_1 (List.mem_of_getElem? (i := 86) rfl) rfl
theorem tw_87 : TW (Jvm.Cond.fieldLink "ThousandLeaflets$Draw" (15 : Nat) "ThousandLeaflets$Draw" "sum" "[I") := sb_1 (List.mem_of_getElem? (i := 87) rfl) rfl
theorem tw_88 : TW (Jvm.Cond.fieldLink "ThousandLeaflets$Equations" (40 : Nat) "ThousandLeaflets$Draw" "sum" "[I") := sb_1 (List.mem_of_getElem? (i := 88) rfl) rfl
theorem tw_89 : TW (Jvm.Cond.fieldLink "ThousandLeaflets$DrawReader" (94 : Nat) "ThousandLeaflets$Draw" "sum" "[I") := sb_1 (List.mem_of_getElem? (i := 89) rfl) rfl
theorem tw_90 : TW (Jvm.Cond.fieldLink "ThousandLeaflets$Book" (53 : Nat) "ThousandLeaflets$Draw" "sum" "[I") := sb_1 (List.mem_of_getElem? (i := 90) rfl) rfl
theorem tw_91 : TW (Jvm.Cond.fieldLink "ThousandLeaflets$Equations" (35 : Nat) "ThousandLeaflets$Draw" "sums" "I") := sb_1 (List.mem_of_getElem? (i := 91) rfl) rfl
theorem tw_92 : TW (Jvm.Cond.fieldLink "ThousandLeaflets$Draw" (21 : Nat) "ThousandLeaflets$Draw" "sums" "I") := sb_1 (List.mem_of_getElem? (i := 92) rfl) rfl
theorem tw_93 : TW (Jvm.Cond.fieldLink "ThousandLeaflets$DrawReader" (65 : Nat) "ThousandLeaflets$Draw" "sums" "I") := sb_1 (List.mem_of_getElem? (i := 93) rfl) rfl
theorem tw_94 : TW (Jvm.Cond.fieldLink "ThousandLeaflets$Book" (46 : Nat) "ThousandLeaflets$Draw" "sums" "I") := sb_1 (List.mem_of_getElem? (i := 94) rfl) rfl
theorem tw_95 : TW (Jvm.Cond.fieldLink "ThousandLeaflets$Draw" (25 : Nat) "ThousandLeaflets$Draw" "firstBelow" "I") := sb_1 (List.mem_of_getElem? (i := 95) rfl) rfl
theorem tw_96 : TW (Jvm.Cond.fieldLink "ThousandLeaflets$DrawReader" (54 : Nat) "ThousandLeaflets$Draw" "firstBelow" "I") := sb_1 (List.mem_of_getElem? (i := 96) rfl) rfl
theorem tw_97 : TW (Jvm.Cond.fieldLink "ThousandLeaflets$Book" (92 : Nat) "ThousandLeaflets$Draw" "firstBelow" "I") := sb_1 (List.mem_of_getElem? (i := 97) rfl) rfl
theorem tw_98 : TW (Jvm.Cond.fieldLink "ThousandLeaflets$Draw" (28 : Nat) "ThousandLeaflets$Draw" "firstWeight" "I") := sb_1 (List.mem_of_getElem? (i := 98) rfl) rfl
theorem tw_99 : TW (Jvm.Cond.fieldLink "ThousandLeaflets$DrawReader" (91 : Nat) "ThousandLeaflets$Draw" "firstWeight" "I") := sb_1 (List.mem_of_getElem? (i := 99) rfl) rfl
theorem tw_100 : TW (Jvm.Cond.fieldLink "ThousandLeaflets$Book" (95 : Nat) "ThousandLeaflets$Draw" "firstWeight" "I") := sb_1 (List.mem_of_getElem? (i := 100) rfl) rfl
theorem tw_101 : TW (Jvm.Cond.fieldLink "ThousandLeaflets$Draw" (31 : Nat) "ThousandLeaflets$Draw" "seal" "I") := sb_1 (List.mem_of_getElem? (i := 101) rfl) rfl
theorem tw_102 : TW (Jvm.Cond.fieldLink "ThousandLeaflets$DrawReader" (73 : Nat) "ThousandLeaflets$Draw" "seal" "I") := sb_1 (List.mem_of_getElem? (i := 102) rfl) rfl
theorem tw_103 : TW (Jvm.Cond.fieldLink "ThousandLeaflets$Book" (60 : Nat) "ThousandLeaflets$Draw" "seal" "I") := sb_1 (List.mem_of_getElem? (i := 103) rfl) rfl
theorem tw_104 : TW (Jvm.Cond.fieldLink "ThousandLeaflets" (357 : Nat) "ThousandLeaflets$Draw" "seal" "I") := sb_1 (List.mem_of_getElem? (i := 104) rfl) rfl
theorem tw_105 : TW (Jvm.Cond.laysFinal "ThousandLeaflets$Draw" "ThousandLeaflets$Draw" "odds" "[I") := sb_1 (List.mem_of_getElem? (i := 105) rfl) rfl
theorem tw_107 : TW (Jvm.Cond.laysFinal "ThousandLeaflets$Draw" "ThousandLeaflets$Draw" "sum" "[I") := sb_1 (List.mem_of_getElem? (i := 107) rfl) rfl
theorem tw_109 : TW (Jvm.Cond.lays "ThousandLeaflets$Draw" "ThousandLeaflets$Draw" "sums" "I") := sb_1 (List.mem_of_getElem? (i := 109) rfl) rfl
theorem tw_111 : TW (Jvm.Cond.lays "ThousandLeaflets$Draw" "ThousandLeaflets$Draw" "firstBelow" "I") := sb_1 (List.mem_of_getElem? (i := 111) rfl) rfl
theorem tw_113 : TW (Jvm.Cond.lays "ThousandLeaflets$Draw" "ThousandLeaflets$Draw" "firstWeight" "I") := sb_1 (List.mem_of_getElem? (i := 113) rfl) rfl
theorem tw_115 : TW (Jvm.Cond.lays "ThousandLeaflets$Draw" "ThousandLeaflets$Draw" "seal" "I") := sb_1 (List.mem_of_getElem? (i := 115) rfl) rfl
theorem tw_118 : TW (Jvm.Cond.fieldLink "ThousandLeaflets$DrawReader" (12 : Nat) "ThousandLeaflets$DrawReader" "tape" "LThousandLeaflets$Tape;") := sb_1 (List.mem_of_getElem? (i := 118) rfl) rfl
theorem tw_119 : TW (Jvm.Cond.fieldLink "ThousandLeaflets" (111 : Nat) "ThousandLeaflets$DrawReader" "tape" "LThousandLeaflets$Tape;") := sb_1 (List.mem_of_getElem? (i := 119) rfl) rfl
theorem tw_120 : TW (Jvm.Cond.fieldLink "ThousandLeaflets$DrawReader" (21 : Nat) "ThousandLeaflets$DrawReader" "draft" "LThousandLeaflets$Draw;") := sb_1 (List.mem_of_getElem? (i := 120) rfl) rfl
theorem tw_121 : TW (Jvm.Cond.fieldLink "ThousandLeaflets" (128 : Nat) "ThousandLeaflets$DrawReader" "draft" "LThousandLeaflets$Draw;") := sb_1 (List.mem_of_getElem? (i := 121) rfl) rfl
theorem tw_122 : TW (Jvm.Cond.laysFinal "ThousandLeaflets$DrawReader" "ThousandLeaflets$DrawReader" "tape" "LThousandLeaflets$Tape;") := sb_1 (List.mem_of_getElem? (i := 122) rfl) rfl
theorem tw_124 : TW (Jvm.Cond.laysFinal "ThousandLeaflets$DrawReader" "ThousandLeaflets$DrawReader" "draft" "LThousandLeaflets$Draw;") := sb_1 (List.mem_of_getElem? (i := 124) rfl) rfl
theorem tw_127 : TW (Jvm.Cond.classLink "ThousandLeaflets" (45 : Nat) "ThousandLeaflets$Equations") := sb_1 (List.mem_of_getElem? (i := 127) rfl) rfl
theorem tw_128 : TW (Jvm.Cond.arrayOver (Jvm.ClassFile.FieldType.object "ThousandLeaflets$Equations")) := sb_1 (List.mem_of_getElem? (i := 128) rfl) rfl
theorem tw_129 : TW (Jvm.Cond.classLink "ThousandLeaflets" (51 : Nat) "ThousandLeaflets$Basis") := sb_1 (List.mem_of_getElem? (i := 129) rfl) rfl
theorem tw_130 : TW (Jvm.Cond.arrayOver (Jvm.ClassFile.FieldType.object "ThousandLeaflets$Basis")) := sb_1 (List.mem_of_getElem? (i := 130) rfl) rfl
theorem tw_131 : TW (Jvm.Cond.classLink "ThousandLeaflets" (57 : Nat) "ThousandLeaflets$Sets") := sb_1 (List.mem_of_getElem? (i := 131) rfl) rfl
theorem tw_132 : TW (Jvm.Cond.instantiable "ThousandLeaflets$Sets" (8 : Nat)) := sb_1 (List.mem_of_getElem? (i := 132) rfl) rfl
theorem tw_133 : TW (Jvm.Cond.methodLinkNest "ThousandLeaflets" (59 : Nat) ({ cls := "ThousandLeaflets$Sets", name := "<init>", desc := "()V" } : Jvm.MethodName) "ThousandLeaflets") := sb_1 (List.mem_of_getElem? (i := 133) rfl) rfl
theorem tw_134 : TW (Jvm.Cond.instanceMethod ({ cls := "ThousandLeaflets$Sets", name := "<init>", desc := "()V" } : Jvm.MethodName)) := sb_1 (List.mem_of_getElem? (i := 134) rfl) rfl
theorem tw_135 : TW (Jvm.Cond.code ({ cls := "ThousandLeaflets$Sets", name := "<init>", desc := "()V" } : Jvm.MethodName) prog_10_method_1_code (1 : Nat) (Option.none : Option Jvm.ClassFile.FieldType)) := sb_1 (List.mem_of_getElem? (i := 135) rfl) rfl
theorem tw_136 : TW (Jvm.Cond.methodLink "ThousandLeaflets$Sets" (3 : Nat) ({ cls := "java/lang/Object", name := "<init>", desc := "()V" } : Jvm.MethodName)) := sb_1 (List.mem_of_getElem? (i := 136) rfl) rfl
theorem tw_137 : TW (Jvm.Cond.classLink "ThousandLeaflets$Sets" (18 : Nat) "ThousandLeaflets$Equations") := sb_1 (List.mem_of_getElem? (i := 137) rfl) rfl
theorem tw_138 : TW (Jvm.Cond.instantiable "ThousandLeaflets$Equations" (6 : Nat)) := sb_1 (List.mem_of_getElem? (i := 138) rfl) rfl
theorem tw_139 : TW (Jvm.Cond.methodLinkNest "ThousandLeaflets$Sets" (20 : Nat) ({ cls := "ThousandLeaflets$Equations", name := "<init>", desc := "()V" } : Jvm.MethodName) "ThousandLeaflets") := sb_1 (List.mem_of_getElem? (i := 139) rfl) rfl
theorem tw_140 : TW (Jvm.Cond.instanceMethod ({ cls := "ThousandLeaflets$Equations", name := "<init>", desc := "()V" } : Jvm.MethodName)) := sb_1 (List.mem_of_getElem? (i := 140) rfl) rfl
theorem tw_141 : TW (Jvm.Cond.code ({ cls := "ThousandLeaflets$Equations", name := "<init>", desc := "()V" } : Jvm.MethodName) prog_7_method_1_code (1 : Nat) (Option.none : Option Jvm.ClassFile.FieldType)) := sb_1 (List.mem_of_getElem? (i := 141) rfl) rfl
theorem tw_142 : TW (Jvm.Cond.methodLink "ThousandLeaflets$Equations" (3 : Nat) ({ cls := "java/lang/Object", name := "<init>", desc := "()V" } : Jvm.MethodName)) := sb_1 (List.mem_of_getElem? (i := 142) rfl) rfl
theorem tw_143 : TW (Jvm.Cond.fieldLink "ThousandLeaflets$Equations" (9 : Nat) "ThousandLeaflets$Equations" "row" "[I") := sb_1 (List.mem_of_getElem? (i := 143) rfl) rfl
theorem tw_144 : TW (Jvm.Cond.fieldLink "ThousandLeaflets$Basis" (31 : Nat) "ThousandLeaflets$Equations" "row" "[I") := sb_1 (List.mem_of_getElem? (i := 144) rfl) rfl
theorem tw_145 : TW (Jvm.Cond.fieldLink "ThousandLeaflets$Equations" (15 : Nat) "ThousandLeaflets$Equations" "place" "[I") := sb_1 (List.mem_of_getElem? (i := 145) rfl) rfl
theorem tw_146 : TW (Jvm.Cond.fieldLink "ThousandLeaflets" (269 : Nat) "ThousandLeaflets$Equations" "place" "[I") := sb_1 (List.mem_of_getElem? (i := 146) rfl) rfl
theorem tw_147 : TW (Jvm.Cond.fieldLink "ThousandLeaflets$Equations" (18 : Nat) "ThousandLeaflets$Equations" "read" "[I") := sb_1 (List.mem_of_getElem? (i := 147) rfl) rfl
theorem tw_148 : TW (Jvm.Cond.fieldLink "ThousandLeaflets" (382 : Nat) "ThousandLeaflets$Equations" "read" "[I") := sb_1 (List.mem_of_getElem? (i := 148) rfl) rfl
theorem tw_149 : TW (Jvm.Cond.fieldLink "ThousandLeaflets$Equations" (21 : Nat) "ThousandLeaflets$Equations" "touched" "[J") := sb_1 (List.mem_of_getElem? (i := 149) rfl) rfl
theorem tw_150 : TW (Jvm.Cond.fieldLink "ThousandLeaflets$Equations" (25 : Nat) "ThousandLeaflets$Equations" "size" "I") := sb_1 (List.mem_of_getElem? (i := 150) rfl) rfl
theorem tw_151 : TW (Jvm.Cond.fieldLink "ThousandLeaflets$Basis" (26 : Nat) "ThousandLeaflets$Equations" "size" "I") := sb_1 (List.mem_of_getElem? (i := 151) rfl) rfl
theorem tw_152 : TW (Jvm.Cond.fieldLink "ThousandLeaflets$Sets" (84 : Nat) "ThousandLeaflets$Equations" "size" "I") := sb_1 (List.mem_of_getElem? (i := 152) rfl) rfl
theorem tw_153 : TW (Jvm.Cond.fieldLink "ThousandLeaflets" (266 : Nat) "ThousandLeaflets$Equations" "size" "I") := sb_1 (List.mem_of_getElem? (i := 153) rfl) rfl
theorem tw_154 : TW (Jvm.Cond.fieldLink "ThousandLeaflets$Equations" (50 : Nat) "ThousandLeaflets$Equations" "hidden" "I") := sb_1 (List.mem_of_getElem? (i := 154) rfl) rfl
theorem tw_155 : TW (Jvm.Cond.fieldLink "ThousandLeaflets" (263 : Nat) "ThousandLeaflets$Equations" "hidden" "I") := sb_1 (List.mem_of_getElem? (i := 155) rfl) rfl
theorem tw_156 : TW (Jvm.Cond.laysFinal "ThousandLeaflets$Equations" "ThousandLeaflets$Equations" "row" "[I") := sb_1 (List.mem_of_getElem? (i := 156) rfl) rfl
theorem tw_158 : TW (Jvm.Cond.laysFinal "ThousandLeaflets$Equations" "ThousandLeaflets$Equations" "place" "[I") := sb_1 (List.mem_of_getElem? (i := 158) rfl) rfl
theorem tw_160 : TW (Jvm.Cond.laysFinal "ThousandLeaflets$Equations" "ThousandLeaflets$Equations" "read" "[I") := sb_1 (List.mem_of_getElem? (i := 160) rfl) rfl
theorem tw_162 : TW (Jvm.Cond.laysFinal "ThousandLeaflets$Equations" "ThousandLeaflets$Equations" "touched" "[J") := sb_1 (List.mem_of_getElem? (i := 162) rfl) rfl
theorem tw_164 : TW (Jvm.Cond.lays "ThousandLeaflets$Equations" "ThousandLeaflets$Equations" "size" "I") := sb_1 (List.mem_of_getElem? (i := 164) rfl) rfl
theorem tw_166 : TW (Jvm.Cond.lays "ThousandLeaflets$Equations" "ThousandLeaflets$Equations" "hidden" "I") := sb_1 (List.mem_of_getElem? (i := 166) rfl) rfl
theorem tw_169 : TW (Jvm.Cond.arrayClass Jvm.ClassFile.FieldType.long) := sb_1 (List.mem_of_getElem? (i := 169) rfl) rfl
theorem tw_170 : TW (Jvm.Cond.classLink "ThousandLeaflets$Sets" (25 : Nat) "ThousandLeaflets$Basis") := sb_1 (List.mem_of_getElem? (i := 170) rfl) rfl
theorem tw_171 : TW (Jvm.Cond.instantiable "ThousandLeaflets$Basis" (4 : Nat)) := sb_1 (List.mem_of_getElem? (i := 171) rfl) rfl
theorem tw_172 : TW (Jvm.Cond.methodLinkNest "ThousandLeaflets$Sets" (27 : Nat) ({ cls := "ThousandLeaflets$Basis", name := "<init>", desc := "()V" } : Jvm.MethodName) "ThousandLeaflets") := sb_1 (List.mem_of_getElem? (i := 172) rfl) rfl
theorem tw_173 : TW (Jvm.Cond.instanceMethod ({ cls := "ThousandLeaflets$Basis", name := "<init>", desc := "()V" } : Jvm.MethodName)) := sb_1 (List.mem_of_getElem? (i := 173) rfl) rfl
theorem tw_174 : TW (Jvm.Cond.code ({ cls := "ThousandLeaflets$Basis", name := "<init>", desc := "()V" } : Jvm.MethodName) prog_2_method_1_code (1 : Nat) (Option.none : Option Jvm.ClassFile.FieldType)) := sb_1 (List.mem_of_getElem? (i := 174) rfl) rfl
theorem tw_175 : TW (Jvm.Cond.methodLink "ThousandLeaflets$Basis" (3 : Nat) ({ cls := "java/lang/Object", name := "<init>", desc := "()V" } : Jvm.MethodName)) := sb_1 (List.mem_of_getElem? (i := 175) rfl) rfl
theorem tw_176 : TW (Jvm.Cond.fieldLink "ThousandLeaflets$Basis" (9 : Nat) "ThousandLeaflets$Basis" "row" "[I") := sb_1 (List.mem_of_getElem? (i := 176) rfl) rfl
theorem tw_177 : TW (Jvm.Cond.fieldLink "ThousandLeaflets$Basis" (15 : Nat) "ThousandLeaflets$Basis" "lead" "[I") := sb_1 (List.mem_of_getElem? (i := 177) rfl) rfl
theorem tw_178 : TW (Jvm.Cond.fieldLink "ThousandLeaflets$Basis" (18 : Nat) "ThousandLeaflets$Basis" "rank" "I") := sb_1 (List.mem_of_getElem? (i := 178) rfl) rfl
theorem tw_179 : TW (Jvm.Cond.fieldLink "ThousandLeaflets$Coming" (62 : Nat) "ThousandLeaflets$Basis" "rank" "I") := sb_1 (List.mem_of_getElem? (i := 179) rfl) rfl
theorem tw_180 : TW (Jvm.Cond.fieldLink "ThousandLeaflets$Sets" (77 : Nat) "ThousandLeaflets$Basis" "rank" "I") := sb_1 (List.mem_of_getElem? (i := 180) rfl) rfl
theorem tw_181 : TW (Jvm.Cond.fieldLink "ThousandLeaflets$Ways" (68 : Nat) "ThousandLeaflets$Basis" "rank" "I") := sb_1 (List.mem_of_getElem? (i := 181) rfl) rfl
theorem tw_182 : TW (Jvm.Cond.fieldLink "ThousandLeaflets" (246 : Nat) "ThousandLeaflets$Basis" "rank" "I") := sb_1 (List.mem_of_getElem? (i := 182) rfl) rfl
theorem tw_183 : TW (Jvm.Cond.fieldLink "ThousandLeaflets$Basis" (22 : Nat) "ThousandLeaflets$Basis" "agrees" "Z") := sb_1 (List.mem_of_getElem? (i := 183) rfl) rfl
theorem tw_184 : TW (Jvm.Cond.fieldLink "ThousandLeaflets$Coming" (32 : Nat) "ThousandLeaflets$Basis" "agrees" "Z") := sb_1 (List.mem_of_getElem? (i := 184) rfl) rfl
theorem tw_185 : TW (Jvm.Cond.fieldLink "ThousandLeaflets$Ways" (56 : Nat) "ThousandLeaflets$Basis" "agrees" "Z") := sb_1 (List.mem_of_getElem? (i := 185) rfl) rfl
theorem tw_186 : TW (Jvm.Cond.fieldLink "ThousandLeaflets" (243 : Nat) "ThousandLeaflets$Basis" "agrees" "Z") := sb_1 (List.mem_of_getElem? (i := 186) rfl) rfl
theorem tw_187 : TW (Jvm.Cond.laysFinal "ThousandLeaflets$Basis" "ThousandLeaflets$Basis" "row" "[I") := sb_1 (List.mem_of_getElem? (i := 187) rfl) rfl
theorem tw_189 : TW (Jvm.Cond.laysFinal "ThousandLeaflets$Basis" "ThousandLeaflets$Basis" "lead" "[I") := sb_1 (List.mem_of_getElem? (i := 189) rfl) rfl
theorem tw_191 : TW (Jvm.Cond.lays "ThousandLeaflets$Basis" "ThousandLeaflets$Basis" "rank" "I") := sb_1 (List.mem_of_getElem? (i := 191) rfl) rfl
theorem tw_193 : TW (Jvm.Cond.lays "ThousandLeaflets$Basis" "ThousandLeaflets$Basis" "agrees" "Z") := sb_1 (List.mem_of_getElem? (i := 193) rfl) rfl
theorem tw_196 : TW (Jvm.Cond.fieldLink "ThousandLeaflets$Sets" (9 : Nat) "ThousandLeaflets$Sets" "giving" "[I") := sb_1 (List.mem_of_getElem? (i := 196) rfl) rfl
theorem tw_197 : TW (Jvm.Cond.fieldLink "ThousandLeaflets" (296 : Nat) "ThousandLeaflets$Sets" "giving" "[I") := sb_1 (List.mem_of_getElem? (i := 197) rfl) rfl
theorem tw_198 : TW (Jvm.Cond.fieldLink "ThousandLeaflets$Sets" (15 : Nat) "ThousandLeaflets$Sets" "leaflets" "[I") := sb_1 (List.mem_of_getElem? (i := 198) rfl) rfl
theorem tw_199 : TW (Jvm.Cond.fieldLink "ThousandLeaflets$Sets" (21 : Nat) "ThousandLeaflets$Sets" "chosen" "LThousandLeaflets$Equations;") := sb_1 (List.mem_of_getElem? (i := 199) rfl) rfl
theorem tw_200 : TW (Jvm.Cond.fieldLink "ThousandLeaflets$Sets" (28 : Nat) "ThousandLeaflets$Sets" "basis" "LThousandLeaflets$Basis;") := sb_1 (List.mem_of_getElem? (i := 200) rfl) rfl
theorem tw_201 : TW (Jvm.Cond.fieldLink "ThousandLeaflets$Sets" (38 : Nat) "ThousandLeaflets$Sets" "m" "I") := sb_1 (List.mem_of_getElem? (i := 201) rfl) rfl
theorem tw_202 : TW (Jvm.Cond.fieldLink "ThousandLeaflets$Sets" (42 : Nat) "ThousandLeaflets$Sets" "how" "I") := sb_1 (List.mem_of_getElem? (i := 202) rfl) rfl
theorem tw_203 : TW (Jvm.Cond.fieldLink "ThousandLeaflets$Sets" (51 : Nat) "ThousandLeaflets$Sets" "all" "I") := sb_1 (List.mem_of_getElem? (i := 203) rfl) rfl
theorem tw_204 : TW (Jvm.Cond.fieldLink "ThousandLeaflets$Sets" (56 : Nat) "ThousandLeaflets$Sets" "allBits" "I") := sb_1 (List.mem_of_getElem? (i := 204) rfl) rfl
theorem tw_205 : TW (Jvm.Cond.laysFinal "ThousandLeaflets$Sets" "ThousandLeaflets$Sets" "giving" "[I") := sb_1 (List.mem_of_getElem? (i := 205) rfl) rfl
theorem tw_207 : TW (Jvm.Cond.laysFinal "ThousandLeaflets$Sets" "ThousandLeaflets$Sets" "leaflets" "[I") := sb_1 (List.mem_of_getElem? (i := 207) rfl) rfl
theorem tw_209 : TW (Jvm.Cond.laysFinal "ThousandLeaflets$Sets" "ThousandLeaflets$Sets" "chosen" "LThousandLeaflets$Equations;") := sb_1 (List.mem_of_getElem? (i := 209) rfl) rfl
theorem tw_211 : TW (Jvm.Cond.laysFinal "ThousandLeaflets$Sets" "ThousandLeaflets$Sets" "basis" "LThousandLeaflets$Basis;") := sb_1 (List.mem_of_getElem? (i := 211) rfl) rfl
theorem tw_213 : TW (Jvm.Cond.lays "ThousandLeaflets$Sets" "ThousandLeaflets$Sets" "m" "I") := sb_1 (List.mem_of_getElem? (i := 213) rfl) rfl
theorem tw_215 : TW (Jvm.Cond.lays "ThousandLeaflets$Sets" "ThousandLeaflets$Sets" "how" "I") := sb_1 (List.mem_of_getElem? (i := 215) rfl) rfl
theorem tw_217 : TW (Jvm.Cond.lays "ThousandLeaflets$Sets" "ThousandLeaflets$Sets" "all" "I") := sb_1 (List.mem_of_getElem? (i := 217) rfl) rfl
theorem tw_219 : TW (Jvm.Cond.lays "ThousandLeaflets$Sets" "ThousandLeaflets$Sets" "allBits" "I") := sb_1 (List.mem_of_getElem? (i := 219) rfl) rfl
theorem tw_222 : TW (Jvm.Cond.classLink "ThousandLeaflets" (64 : Nat) "ThousandLeaflets$Coming") := sb_1 (List.mem_of_getElem? (i := 222) rfl) rfl
theorem tw_223 : TW (Jvm.Cond.instantiable "ThousandLeaflets$Coming" (7 : Nat)) := sb_1 (List.mem_of_getElem? (i := 223) rfl) rfl
theorem tw_224 : TW (Jvm.Cond.methodLinkNest "ThousandLeaflets" (66 : Nat) ({ cls := "ThousandLeaflets$Coming", name := "<init>", desc := "()V" } : Jvm.MethodName) "ThousandLeaflets") := sb_1 (List.mem_of_getElem? (i := 224) rfl) rfl
theorem tw_225 : TW (Jvm.Cond.instanceMethod ({ cls := "ThousandLeaflets$Coming", name := "<init>", desc := "()V" } : Jvm.MethodName)) := sb_1 (List.mem_of_getElem? (i := 225) rfl) rfl
theorem tw_226 : TW (Jvm.Cond.code ({ cls := "ThousandLeaflets$Coming", name := "<init>", desc := "()V" } : Jvm.MethodName) prog_4_method_1_code (1 : Nat) (Option.none : Option Jvm.ClassFile.FieldType)) := sb_1 (List.mem_of_getElem? (i := 226) rfl) rfl
theorem tw_227 : TW (Jvm.Cond.methodLink "ThousandLeaflets$Coming" (3 : Nat) ({ cls := "java/lang/Object", name := "<init>", desc := "()V" } : Jvm.MethodName)) := sb_1 (List.mem_of_getElem? (i := 227) rfl) rfl
theorem tw_228 : TW (Jvm.Cond.classLink "ThousandLeaflets$Coming" (18 : Nat) "ThousandLeaflets$Basis") := sb_1 (List.mem_of_getElem? (i := 228) rfl) rfl
theorem tw_229 : TW (Jvm.Cond.methodLinkNest "ThousandLeaflets$Coming" (20 : Nat) ({ cls := "ThousandLeaflets$Basis", name := "<init>", desc := "()V" } : Jvm.MethodName) "ThousandLeaflets") := sb_1 (List.mem_of_getElem? (i := 229) rfl) rfl
theorem tw_230 : TW (Jvm.Cond.fieldLink "ThousandLeaflets$Coming" (9 : Nat) "ThousandLeaflets$Coming" "lowRow" "[I") := sb_1 (List.mem_of_getElem? (i := 230) rfl) rfl
theorem tw_231 : TW (Jvm.Cond.fieldLink "ThousandLeaflets$Coming" (15 : Nat) "ThousandLeaflets$Coming" "highRow" "[I") := sb_1 (List.mem_of_getElem? (i := 231) rfl) rfl
theorem tw_232 : TW (Jvm.Cond.fieldLink "ThousandLeaflets$Coming" (21 : Nat) "ThousandLeaflets$Coming" "low" "LThousandLeaflets$Basis;") := sb_1 (List.mem_of_getElem? (i := 232) rfl) rfl
theorem tw_233 : TW (Jvm.Cond.fieldLink "ThousandLeaflets$Coming" (25 : Nat) "ThousandLeaflets$Coming" "high" "LThousandLeaflets$Basis;") := sb_1 (List.mem_of_getElem? (i := 233) rfl) rfl
theorem tw_234 : TW (Jvm.Cond.fieldLink "ThousandLeaflets$Coming" (42 : Nat) "ThousandLeaflets$Coming" "all" "I") := sb_1 (List.mem_of_getElem? (i := 234) rfl) rfl
theorem tw_235 : TW (Jvm.Cond.fieldLink "ThousandLeaflets$Coming" (45 : Nat) "ThousandLeaflets$Coming" "least" "I") := sb_1 (List.mem_of_getElem? (i := 235) rfl) rfl
theorem tw_236 : TW (Jvm.Cond.fieldLink "ThousandLeaflets" (283 : Nat) "ThousandLeaflets$Coming" "least" "I") := sb_1 (List.mem_of_getElem? (i := 236) rfl) rfl
theorem tw_237 : TW (Jvm.Cond.fieldLink "ThousandLeaflets$Coming" (48 : Nat) "ThousandLeaflets$Coming" "found" "I") := sb_1 (List.mem_of_getElem? (i := 237) rfl) rfl
theorem tw_238 : TW (Jvm.Cond.fieldLink "ThousandLeaflets" (286 : Nat) "ThousandLeaflets$Coming" "found" "I") := sb_1 (List.mem_of_getElem? (i := 238) rfl) rfl
theorem tw_239 : TW (Jvm.Cond.laysFinal "ThousandLeaflets$Coming" "ThousandLeaflets$Coming" "lowRow" "[I") := sb_1 (List.mem_of_getElem? (i := 239) rfl) rfl
theorem tw_241 : TW (Jvm.Cond.laysFinal "ThousandLeaflets$Coming" "ThousandLeaflets$Coming" "highRow" "[I") := sb_2 (List.mem_of_getElem? (i := 1) rfl) rfl
theorem tw_243 : TW (Jvm.Cond.laysFinal "ThousandLeaflets$Coming" "ThousandLeaflets$Coming" "low" "LThousandLeaflets$Basis;") := sb_2 (List.mem_of_getElem? (i := 3) rfl) rfl
theorem tw_245 : TW (Jvm.Cond.laysFinal "ThousandLeaflets$Coming" "ThousandLeaflets$Coming" "high" "LThousandLeaflets$Basis;") := sb_2 (List.mem_of_getElem? (i := 5) rfl) rfl
theorem tw_247 : TW (Jvm.Cond.lays "ThousandLeaflets$Coming" "ThousandLeaflets$Coming" "all" "I") := sb_2 (List.mem_of_getElem? (i := 7) rfl) rfl
theorem tw_249 : TW (Jvm.Cond.lays "ThousandLeaflets$Coming" "ThousandLeaflets$Coming" "least" "I") := sb_2 (List.mem_of_getElem? (i := 9) rfl) rfl
theorem tw_251 : TW (Jvm.Cond.lays "ThousandLeaflets$Coming" "ThousandLeaflets$Coming" "found" "I") := sb_2 (List.mem_of_getElem? (i := 11) rfl) rfl
theorem tw_254 : TW (Jvm.Cond.classLink "ThousandLeaflets" (71 : Nat) "ThousandLeaflets$Ways") := sb_2 (List.mem_of_getElem? (i := 14) rfl) rfl
theorem tw_255 : TW (Jvm.Cond.instantiable "ThousandLeaflets$Ways" (6 : Nat)) := sb_2 (List.mem_of_getElem? (i := 15) rfl) rfl
theorem tw_256 : TW (Jvm.Cond.methodLink "ThousandLeaflets" (73 : Nat) ({ cls := "ThousandLeaflets$Ways", name := "<init>", desc := "()V" } : Jvm.MethodName)) := sb_2 (List.mem_of_getElem? (i := 16) rfl) rfl
theorem tw_257 : TW (Jvm.Cond.instanceMethod ({ cls := "ThousandLeaflets$Ways", name := "<init>", desc := "()V" } : Jvm.MethodName)) := sb_2 (List.mem_of_getElem? (i := 17) rfl) rfl
theorem tw_258 : TW (Jvm.Cond.code ({ cls := "ThousandLeaflets$Ways", name := "<init>", desc := "()V" } : Jvm.MethodName) prog_12_method_1_code (2 : Nat) (Option.none : Option Jvm.ClassFile.FieldType)) := sb_2 (List.mem_of_getElem? (i := 18) rfl) rfl
theorem tw_259 : TW (Jvm.Cond.methodLink "ThousandLeaflets$Ways" (3 : Nat) ({ cls := "java/lang/Object", name := "<init>", desc := "()V" } : Jvm.MethodName)) := sb_2 (List.mem_of_getElem? (i := 19) rfl) rfl
theorem tw_260 : TW (Jvm.Cond.classLink "ThousandLeaflets$Ways" (9 : Nat) "ThousandLeaflets$Paper") := sb_2 (List.mem_of_getElem? (i := 20) rfl) rfl
theorem tw_261 : TW (Jvm.Cond.arrayOver (Jvm.ClassFile.FieldType.object "ThousandLeaflets$Paper")) := sb_2 (List.mem_of_getElem? (i := 21) rfl) rfl
theorem tw_262 : TW (Jvm.Cond.classLink "ThousandLeaflets$Ways" (21 : Nat) "ThousandLeaflets$Basis") := sb_2 (List.mem_of_getElem? (i := 22) rfl) rfl
theorem tw_263 : TW (Jvm.Cond.methodLinkNest "ThousandLeaflets$Ways" (27 : Nat) ({ cls := "ThousandLeaflets$Basis", name := "<init>", desc := "()V" } : Jvm.MethodName) "ThousandLeaflets") := sb_2 (List.mem_of_getElem? (i := 23) rfl) rfl
theorem tw_264 : TW (Jvm.Cond.fieldLink "ThousandLeaflets$Ways" (11 : Nat) "ThousandLeaflets$Ways" "nameless" "[LThousandLeaflets$Paper;") := sb_2 (List.mem_of_getElem? (i := 24) rfl) rfl
theorem tw_265 : TW (Jvm.Cond.fieldLink "ThousandLeaflets$Ways" (17 : Nat) "ThousandLeaflets$Ways" "places" "[I") := sb_2 (List.mem_of_getElem? (i := 25) rfl) rfl
theorem tw_266 : TW (Jvm.Cond.fieldLink "ThousandLeaflets$Ways" (23 : Nat) "ThousandLeaflets$Ways" "bases" "[LThousandLeaflets$Basis;") := sb_2 (List.mem_of_getElem? (i := 26) rfl) rfl
theorem tw_267 : TW (Jvm.Cond.fieldLink "ThousandLeaflets$Ways" (35 : Nat) "ThousandLeaflets$Ways" "size" "I") := sb_2 (List.mem_of_getElem? (i := 27) rfl) rfl
theorem tw_268 : TW (Jvm.Cond.fieldLink "ThousandLeaflets$Ways" (28 : Nat) "ThousandLeaflets$Ways" "everOf0" "I") := sb_2 (List.mem_of_getElem? (i := 28) rfl) rfl
theorem tw_269 : TW (Jvm.Cond.fieldLink "ThousandLeaflets$Ways" (32 : Nat) "ThousandLeaflets$Ways" "everOf1" "I") := sb_2 (List.mem_of_getElem? (i := 29) rfl) rfl
theorem tw_270 : TW (Jvm.Cond.laysFinal "ThousandLeaflets$Ways" "ThousandLeaflets$Ways" "nameless" "[LThousandLeaflets$Paper;") := sb_2 (List.mem_of_getElem? (i := 30) rfl) rfl
theorem tw_272 : TW (Jvm.Cond.laysFinal "ThousandLeaflets$Ways" "ThousandLeaflets$Ways" "places" "[I") := sb_2 (List.mem_of_getElem? (i := 32) rfl) rfl
theorem tw_274 : TW (Jvm.Cond.laysFinal "ThousandLeaflets$Ways" "ThousandLeaflets$Ways" "bases" "[LThousandLeaflets$Basis;") := sb_2 (List.mem_of_getElem? (i := 34) rfl) rfl
theorem tw_276 : TW (Jvm.Cond.lays "ThousandLeaflets$Ways" "ThousandLeaflets$Ways" "size" "I") := sb_2 (List.mem_of_getElem? (i := 36) rfl) rfl
theorem tw_278 : TW (Jvm.Cond.lays "ThousandLeaflets$Ways" "ThousandLeaflets$Ways" "everOf0" "I") := sb_2 (List.mem_of_getElem? (i := 38) rfl) rfl
theorem tw_280 : TW (Jvm.Cond.lays "ThousandLeaflets$Ways" "ThousandLeaflets$Ways" "everOf1" "I") := sb_2 (List.mem_of_getElem? (i := 40) rfl) rfl
theorem tw_283 : TW (Jvm.Cond.instantiable "ThousandLeaflets$Book" (7 : Nat)) := sb_2 (List.mem_of_getElem? (i := 43) rfl) rfl
theorem tw_284 : TW (Jvm.Cond.methodLink "ThousandLeaflets" (78 : Nat) ({ cls := "ThousandLeaflets$Book", name := "<init>", desc := "(I)V" } : Jvm.MethodName)) := sb_2 (List.mem_of_getElem? (i := 44) rfl) rfl
theorem tw_285 : TW (Jvm.Cond.instanceMethod ({ cls := "ThousandLeaflets$Book", name := "<init>", desc := "(I)V" } : Jvm.MethodName)) := sb_2 (List.mem_of_getElem? (i := 45) rfl) rfl
theorem tw_286 : TW (Jvm.Cond.code ({ cls := "ThousandLeaflets$Book", name := "<init>", desc := "(I)V" } : Jvm.MethodName) prog_3_method_1_code (2 : Nat) (Option.none : Option Jvm.ClassFile.FieldType)) := sb_2 (List.mem_of_getElem? (i := 46) rfl) rfl
theorem tw_287 : TW (Jvm.Cond.methodLink "ThousandLeaflets$Book" (3 : Nat) ({ cls := "java/lang/Object", name := "<init>", desc := "()V" } : Jvm.MethodName)) := sb_2 (List.mem_of_getElem? (i := 47) rfl) rfl
theorem tw_288 : TW (Jvm.Cond.classLink "ThousandLeaflets$Book" (15 : Nat) "ThousandLeaflets$Draw") := sb_2 (List.mem_of_getElem? (i := 48) rfl) rfl
theorem tw_289 : TW (Jvm.Cond.methodLink "ThousandLeaflets$Book" (17 : Nat) ({ cls := "ThousandLeaflets$Draw", name := "<init>", desc := "()V" } : Jvm.MethodName)) := sb_2 (List.mem_of_getElem? (i := 49) rfl) rfl
theorem tw_290 : TW (Jvm.Cond.fieldLink "ThousandLeaflets$Book" (25 : Nat) "ThousandLeaflets$Book" "index" "I") := sb_2 (List.mem_of_getElem? (i := 50) rfl) rfl
theorem tw_291 : TW (Jvm.Cond.fieldLink "ThousandLeaflets" (394 : Nat) "ThousandLeaflets$Book" "index" "I") := sb_2 (List.mem_of_getElem? (i := 51) rfl) rfl
theorem tw_292 : TW (Jvm.Cond.fieldLink "ThousandLeaflets$Book" (9 : Nat) "ThousandLeaflets$Book" "value" "[I") := sb_2 (List.mem_of_getElem? (i := 52) rfl) rfl
theorem tw_293 : TW (Jvm.Cond.fieldLink "ThousandLeaflets" (108 : Nat) "ThousandLeaflets$Book" "value" "[I") := sb_2 (List.mem_of_getElem? (i := 53) rfl) rfl
theorem tw_294 : TW (Jvm.Cond.fieldLink "ThousandLeaflets$Book" (18 : Nat) "ThousandLeaflets$Book" "draw" "LThousandLeaflets$Draw;") := sb_2 (List.mem_of_getElem? (i := 54) rfl) rfl
theorem tw_295 : TW (Jvm.Cond.fieldLink "ThousandLeaflets$Equations" (29 : Nat) "ThousandLeaflets$Book" "draw" "LThousandLeaflets$Draw;") := sb_2 (List.mem_of_getElem? (i := 55) rfl) rfl
theorem tw_296 : TW (Jvm.Cond.fieldLink "ThousandLeaflets" (354 : Nat) "ThousandLeaflets$Book" "draw" "LThousandLeaflets$Draw;") := sb_2 (List.mem_of_getElem? (i := 56) rfl) rfl
theorem tw_297 : TW (Jvm.Cond.fieldLink "ThousandLeaflets$Book" (22 : Nat) "ThousandLeaflets$Book" "drawn" "[I") := sb_2 (List.mem_of_getElem? (i := 57) rfl) rfl
theorem tw_298 : TW (Jvm.Cond.fieldLink "ThousandLeaflets$Book" (29 : Nat) "ThousandLeaflets$Book" "told" "Z") := sb_2 (List.mem_of_getElem? (i := 58) rfl) rfl
theorem tw_299 : TW (Jvm.Cond.fieldLink "ThousandLeaflets" (176 : Nat) "ThousandLeaflets$Book" "told" "Z") := sb_2 (List.mem_of_getElem? (i := 59) rfl) rfl
theorem tw_300 : TW (Jvm.Cond.fieldLink "ThousandLeaflets$Book" (33 : Nat) "ThousandLeaflets$Book" "pages" "I") := sb_2 (List.mem_of_getElem? (i := 60) rfl) rfl
theorem tw_301 : TW (Jvm.Cond.fieldLink "ThousandLeaflets$Equations" (43 : Nat) "ThousandLeaflets$Book" "pages" "I") := sb_2 (List.mem_of_getElem? (i := 61) rfl) rfl
theorem tw_302 : TW (Jvm.Cond.fieldLink "ThousandLeaflets" (100 : Nat) "ThousandLeaflets$Book" "pages" "I") := sb_2 (List.mem_of_getElem? (i := 62) rfl) rfl
theorem tw_303 : TW (Jvm.Cond.fieldLink "ThousandLeaflets$Book" (68 : Nat) "ThousandLeaflets$Book" "dice" "I") := sb_2 (List.mem_of_getElem? (i := 63) rfl) rfl
theorem tw_304 : TW (Jvm.Cond.laysFinal "ThousandLeaflets$Book" "ThousandLeaflets$Book" "index" "I") := sb_2 (List.mem_of_getElem? (i := 64) rfl) rfl
theorem tw_306 : TW (Jvm.Cond.laysFinal "ThousandLeaflets$Book" "ThousandLeaflets$Book" "value" "[I") := sb_2 (List.mem_of_getElem? (i := 66) rfl) rfl
theorem tw_308 : TW (Jvm.Cond.laysFinal "ThousandLeaflets$Book" "ThousandLeaflets$Book" "draw" "LThousandLeaflets$Draw;") := sb_2 (List.mem_of_getElem? (i := 68) rfl) rfl
theorem tw_310 : TW (Jvm.Cond.laysFinal "ThousandLeaflets$Book" "ThousandLeaflets$Book" "drawn" "[I") := sb_2 (List.mem_of_getElem? (i := 70) rfl) rfl
theorem tw_312 : TW (Jvm.Cond.lays "ThousandLeaflets$Book" "ThousandLeaflets$Book" "told" "Z") := sb_2 (List.mem_of_getElem? (i := 72) rfl) rfl
theorem tw_314 : TW (Jvm.Cond.lays "ThousandLeaflets$Book" "ThousandLeaflets$Book" "pages" "I") := sb_2 (List.mem_of_getElem? (i := 74) rfl) rfl
theorem tw_316 : TW (Jvm.Cond.lays "ThousandLeaflets$Book" "ThousandLeaflets$Book" "dice" "I") := sb_2 (List.mem_of_getElem? (i := 76) rfl) rfl
theorem tw_319 : TW (Jvm.Cond.instantiable "ThousandLeaflets$Heap" (2 : Nat)) := sb_2 (List.mem_of_getElem? (i := 79) rfl) rfl
theorem tw_320 : TW (Jvm.Cond.methodLinkNest "ThousandLeaflets" (81 : Nat) ({ cls := "ThousandLeaflets$Heap", name := "<init>", desc := "()V" } : Jvm.MethodName) "ThousandLeaflets") := sb_2 (List.mem_of_getElem? (i := 80) rfl) rfl
theorem tw_321 : TW (Jvm.Cond.instanceMethod ({ cls := "ThousandLeaflets$Heap", name := "<init>", desc := "()V" } : Jvm.MethodName)) := sb_2 (List.mem_of_getElem? (i := 81) rfl) rfl
theorem tw_322 : TW (Jvm.Cond.code ({ cls := "ThousandLeaflets$Heap", name := "<init>", desc := "()V" } : Jvm.MethodName) prog_8_method_1_code (1 : Nat) (Option.none : Option Jvm.ClassFile.FieldType)) := sb_2 (List.mem_of_getElem? (i := 82) rfl) rfl
theorem tw_323 : TW (Jvm.Cond.methodLink "ThousandLeaflets$Heap" (3 : Nat) ({ cls := "java/lang/Object", name := "<init>", desc := "()V" } : Jvm.MethodName)) := sb_2 (List.mem_of_getElem? (i := 83) rfl) rfl
theorem tw_324 : TW (Jvm.Cond.classLink "ThousandLeaflets$Heap" (9 : Nat) "ThousandLeaflets$Paper") := sb_2 (List.mem_of_getElem? (i := 84) rfl) rfl
theorem tw_325 : TW (Jvm.Cond.fieldLink "ThousandLeaflets$Heap" (11 : Nat) "ThousandLeaflets$Heap" "papers" "[LThousandLeaflets$Paper;") := sb_2 (List.mem_of_getElem? (i := 85) rfl) rfl
theorem tw_326 : TW (Jvm.Cond.fieldLink "ThousandLeaflets$Heap" (17 : Nat) "ThousandLeaflets$Heap" "size" "I") := sb_2 (List.mem_of_getElem? (i := 86) rfl) rfl
theorem tw_327 : TW (Jvm.Cond.fieldLink "ThousandLeaflets$Ways" (38 : Nat) "ThousandLeaflets$Heap" "size" "I") := sb_2 (List.mem_of_getElem? (i := 87) rfl) rfl
theorem tw_328 : TW (Jvm.Cond.fieldLink "ThousandLeaflets" (336 : Nat) "ThousandLeaflets$Heap" "size" "I") := sb_2 (List.mem_of_getElem? (i := 88) rfl) rfl
theorem tw_329 : TW (Jvm.Cond.laysFinal "ThousandLeaflets$Heap" "ThousandLeaflets$Heap" "papers" "[LThousandLeaflets$Paper;") := sb_2 (List.mem_of_getElem? (i := 89) rfl) rfl
theorem tw_331 : TW (Jvm.Cond.lays "ThousandLeaflets$Heap" "ThousandLeaflets$Heap" "size" "I") := sb_2 (List.mem_of_getElem? (i := 91) rfl) rfl
theorem tw_334 : TW (Jvm.Cond.methodLinkNest "ThousandLeaflets" (82 : Nat) ({ cls := "ThousandLeaflets$Equations", name := "<init>", desc := "()V" } : Jvm.MethodName) "ThousandLeaflets") := sb_2 (List.mem_of_getElem? (i := 94) rfl) rfl
theorem tw_335 : TW (Jvm.Cond.methodLinkNest "ThousandLeaflets" (83 : Nat) ({ cls := "ThousandLeaflets$Basis", name := "<init>", desc := "()V" } : Jvm.MethodName) "ThousandLeaflets") := sb_2 (List.mem_of_getElem? (i := 95) rfl) rfl
theorem tw_336 : TW (Jvm.Cond.fieldLink "ThousandLeaflets" (11 : Nat) "ThousandLeaflets" "books" "[LThousandLeaflets$Book;") := sb_2 (List.mem_of_getElem? (i := 96) rfl) rfl
theorem tw_337 : TW (Jvm.Cond.fieldLink "ThousandLeaflets" (17 : Nat) "ThousandLeaflets" "heaps" "[LThousandLeaflets$Heap;") := sb_2 (List.mem_of_getElem? (i := 97) rfl) rfl
theorem tw_338 : TW (Jvm.Cond.fieldLink "ThousandLeaflets" (21 : Nat) "ThousandLeaflets" "kept" "[LThousandLeaflets$Heap;") := sb_2 (List.mem_of_getElem? (i := 98) rfl) rfl
theorem tw_339 : TW (Jvm.Cond.fieldLink "ThousandLeaflets" (24 : Nat) "ThousandLeaflets" "marked" "[Z") := sb_2 (List.mem_of_getElem? (i := 99) rfl) rfl
theorem tw_340 : TW (Jvm.Cond.fieldLink "ThousandLeaflets" (28 : Nat) "ThousandLeaflets" "burns" "[I") := sb_2 (List.mem_of_getElem? (i := 100) rfl) rfl
theorem tw_341 : TW (Jvm.Cond.fieldLink "ThousandLeaflets" (32 : Nat) "ThousandLeaflets" "houses" "[I") := sb_2 (List.mem_of_getElem? (i := 101) rfl) rfl
theorem tw_342 : TW (Jvm.Cond.fieldLink "ThousandLeaflets" (35 : Nat) "ThousandLeaflets" "needed" "[I") := sb_2 (List.mem_of_getElem? (i := 102) rfl) rfl
theorem tw_343 : TW (Jvm.Cond.fieldLink "ThousandLeaflets" (41 : Nat) "ThousandLeaflets" "reader" "LThousandLeaflets$DrawReader;") := sb_2 (List.mem_of_getElem? (i := 103) rfl) rfl
theorem tw_344 : TW (Jvm.Cond.fieldLink "ThousandLeaflets" (47 : Nat) "ThousandLeaflets" "equations" "[LThousandLeaflets$Equations;") := sb_2 (List.mem_of_getElem? (i := 104) rfl) rfl
theorem tw_345 : TW (Jvm.Cond.fieldLink "ThousandLeaflets" (53 : Nat) "ThousandLeaflets" "bases" "[LThousandLeaflets$Basis;") := sb_2 (List.mem_of_getElem? (i := 105) rfl) rfl
theorem tw_346 : TW (Jvm.Cond.fieldLink "ThousandLeaflets" (60 : Nat) "ThousandLeaflets" "sets" "LThousandLeaflets$Sets;") := sb_2 (List.mem_of_getElem? (i := 106) rfl) rfl
theorem tw_347 : TW (Jvm.Cond.fieldLink "ThousandLeaflets" (67 : Nat) "ThousandLeaflets" "coming" "LThousandLeaflets$Coming;") := sb_2 (List.mem_of_getElem? (i := 107) rfl) rfl
theorem tw_348 : TW (Jvm.Cond.fieldLink "ThousandLeaflets" (74 : Nat) "ThousandLeaflets" "ways" "LThousandLeaflets$Ways;") := sb_2 (List.mem_of_getElem? (i := 108) rfl) rfl
theorem tw_349 : TW (Jvm.Cond.fieldLink "ThousandLeaflets" (348 : Nat) "ThousandLeaflets" "thrownOut" "I") := sb_2 (List.mem_of_getElem? (i := 109) rfl) rfl
theorem tw_350 : TW (Jvm.Cond.laysFinal "ThousandLeaflets" "ThousandLeaflets" "books" "[LThousandLeaflets$Book;") := sb_2 (List.mem_of_getElem? (i := 110) rfl) rfl
theorem tw_352 : TW (Jvm.Cond.laysFinal "ThousandLeaflets" "ThousandLeaflets" "heaps" "[LThousandLeaflets$Heap;") := sb_2 (List.mem_of_getElem? (i := 112) rfl) rfl
theorem tw_354 : TW (Jvm.Cond.laysFinal "ThousandLeaflets" "ThousandLeaflets" "kept" "[LThousandLeaflets$Heap;") := sb_2 (List.mem_of_getElem? (i := 114) rfl) rfl
theorem tw_356 : TW (Jvm.Cond.laysFinal "ThousandLeaflets" "ThousandLeaflets" "marked" "[Z") := sb_2 (List.mem_of_getElem? (i := 116) rfl) rfl
theorem tw_358 : TW (Jvm.Cond.laysFinal "ThousandLeaflets" "ThousandLeaflets" "burns" "[I") := sb_2 (List.mem_of_getElem? (i := 118) rfl) rfl
theorem tw_360 : TW (Jvm.Cond.laysFinal "ThousandLeaflets" "ThousandLeaflets" "houses" "[I") := sb_2 (List.mem_of_getElem? (i := 120) rfl) rfl
theorem tw_362 : TW (Jvm.Cond.laysFinal "ThousandLeaflets" "ThousandLeaflets" "needed" "[I") := sb_2 (List.mem_of_getElem? (i := 122) rfl) rfl
theorem tw_364 : TW (Jvm.Cond.laysFinal "ThousandLeaflets" "ThousandLeaflets" "reader" "LThousandLeaflets$DrawReader;") := sb_2 (List.mem_of_getElem? (i := 124) rfl) rfl
theorem tw_366 : TW (Jvm.Cond.laysFinal "ThousandLeaflets" "ThousandLeaflets" "equations" "[LThousandLeaflets$Equations;") := sb_2 (List.mem_of_getElem? (i := 126) rfl) rfl
theorem tw_368 : TW (Jvm.Cond.laysFinal "ThousandLeaflets" "ThousandLeaflets" "bases" "[LThousandLeaflets$Basis;") := sb_2 (List.mem_of_getElem? (i := 128) rfl) rfl
theorem tw_370 : TW (Jvm.Cond.laysFinal "ThousandLeaflets" "ThousandLeaflets" "sets" "LThousandLeaflets$Sets;") := sb_2 (List.mem_of_getElem? (i := 130) rfl) rfl
theorem tw_372 : TW (Jvm.Cond.laysFinal "ThousandLeaflets" "ThousandLeaflets" "coming" "LThousandLeaflets$Coming;") := sb_2 (List.mem_of_getElem? (i := 132) rfl) rfl
theorem tw_374 : TW (Jvm.Cond.laysFinal "ThousandLeaflets" "ThousandLeaflets" "ways" "LThousandLeaflets$Ways;") := sb_2 (List.mem_of_getElem? (i := 134) rfl) rfl
theorem tw_376 : TW (Jvm.Cond.lays "ThousandLeaflets" "ThousandLeaflets" "thrownOut" "I") := sb_2 (List.mem_of_getElem? (i := 136) rfl) rfl
theorem tw_379 : TW (Jvm.Cond.methodLink "ThousandLeafletsLaw" (19 : Nat) ({ cls := "ThousandLeaflets", name := "book", desc := "(II)Z" } : Jvm.MethodName)) := sb_2 (List.mem_of_getElem? (i := 139) rfl) rfl
theorem tw_380 : TW (Jvm.Cond.instanceMethod ({ cls := "ThousandLeaflets", name := "book", desc := "(II)Z" } : Jvm.MethodName)) := sb_2 (List.mem_of_getElem? (i := 140) rfl) rfl
theorem tw_381 : TW (Jvm.Cond.selects "ThousandLeaflets" ({ cls := "ThousandLeaflets", name := "book", desc := "(II)Z" } : Jvm.MethodName) ({ cls := "ThousandLeaflets", name := "book", desc := "(II)Z" } : Jvm.MethodName)) := sb_2 (List.mem_of_getElem? (i := 141) rfl) rfl
theorem tw_382 : TW (Jvm.Cond.code ({ cls := "ThousandLeaflets", name := "book", desc := "(II)Z" } : Jvm.MethodName) prog_1_method_2_code (4 : Nat) (Option.some Jvm.ClassFile.FieldType.boolean)) := sb_2 (List.mem_of_getElem? (i := 142) rfl) rfl
theorem tw_383 : TW (Jvm.Cond.methodLink "ThousandLeaflets" (84 : Nat) ({ cls := "ThousandLeaflets", name := "isBook", desc := "(I)Z" } : Jvm.MethodName)) := sb_2 (List.mem_of_getElem? (i := 143) rfl) rfl
theorem tw_384 : TW (Jvm.Cond.static ({ cls := "ThousandLeaflets", name := "isBook", desc := "(I)Z" } : Jvm.MethodName)) := sb_2 (List.mem_of_getElem? (i := 144) rfl) rfl
theorem tw_385 : TW (Jvm.Cond.code ({ cls := "ThousandLeaflets", name := "isBook", desc := "(I)Z" } : Jvm.MethodName) prog_1_method_35_code (1 : Nat) (Option.some Jvm.ClassFile.FieldType.boolean)) := sb_2 (List.mem_of_getElem? (i := 145) rfl) rfl
theorem tw_386 : TW (Jvm.Cond.methodLink "ThousandLeaflets" (88 : Nat) ({ cls := "ThousandLeaflets$Book", name := "tell", desc := "(I)V" } : Jvm.MethodName)) := sb_2 (List.mem_of_getElem? (i := 146) rfl) rfl
theorem tw_387 : TW (Jvm.Cond.instanceMethod ({ cls := "ThousandLeaflets$Book", name := "tell", desc := "(I)V" } : Jvm.MethodName)) := sb_2 (List.mem_of_getElem? (i := 147) rfl) rfl
theorem tw_388 : TW (Jvm.Cond.selects "ThousandLeaflets$Book" ({ cls := "ThousandLeaflets$Book", name := "tell", desc := "(I)V" } : Jvm.MethodName) ({ cls := "ThousandLeaflets$Book", name := "tell", desc := "(I)V" } : Jvm.MethodName)) := sb_2 (List.mem_of_getElem? (i := 148) rfl) rfl
theorem tw_389 : TW (Jvm.Cond.code ({ cls := "ThousandLeaflets$Book", name := "tell", desc := "(I)V" } : Jvm.MethodName) prog_3_method_2_code (3 : Nat) (Option.none : Option Jvm.ClassFile.FieldType)) := sb_2 (List.mem_of_getElem? (i := 149) rfl) rfl
theorem tw_390 : TW (Jvm.Cond.methodLink "ThousandLeaflets$Book" (36 : Nat) ({ cls := "ThousandLeaflets$Draw", name := "clear", desc := "()V" } : Jvm.MethodName)) := sb_2 (List.mem_of_getElem? (i := 150) rfl) rfl
theorem tw_391 : TW (Jvm.Cond.methodLink "ThousandLeaflets$Book" (39 : Nat) ({ cls := "ThousandLeaflets$Book", name := "forgetDrawn", desc := "()V" } : Jvm.MethodName)) := sb_2 (List.mem_of_getElem? (i := 151) rfl) rfl
theorem tw_393 : TW (Jvm.Cond.instanceMethod ({ cls := "ThousandLeaflets$Book", name := "forgetDrawn", desc := "()V" } : Jvm.MethodName)) := sb_2 (List.mem_of_getElem? (i := 153) rfl) rfl
theorem tw_394 : TW (Jvm.Cond.code ({ cls := "ThousandLeaflets$Book", name := "forgetDrawn", desc := "()V" } : Jvm.MethodName) prog_3_method_4_code (2 : Nat) (Option.none : Option Jvm.ClassFile.FieldType)) := sb_2 (List.mem_of_getElem? (i := 154) rfl) rfl
theorem tw_395 : TW (Jvm.Cond.methodLink "ThousandLeaflets" (91 : Nat) ({ cls := "ThousandLeaflets$Heap", name := "dropTouching", desc := "(I)V" } : Jvm.MethodName)) := sb_2 (List.mem_of_getElem? (i := 155) rfl) rfl
theorem tw_396 : TW (Jvm.Cond.instanceMethod ({ cls := "ThousandLeaflets$Heap", name := "dropTouching", desc := "(I)V" } : Jvm.MethodName)) := sb_2 (List.mem_of_getElem? (i := 156) rfl) rfl
theorem tw_397 : TW (Jvm.Cond.selects "ThousandLeaflets$Heap" ({ cls := "ThousandLeaflets$Heap", name := "dropTouching", desc := "(I)V" } : Jvm.MethodName) ({ cls := "ThousandLeaflets$Heap", name := "dropTouching", desc := "(I)V" } : Jvm.MethodName)) := sb_2 (List.mem_of_getElem? (i := 157) rfl) rfl
theorem tw_398 : TW (Jvm.Cond.code ({ cls := "ThousandLeaflets$Heap", name := "dropTouching", desc := "(I)V" } : Jvm.MethodName) prog_8_method_9_code (4 : Nat) (Option.none : Option Jvm.ClassFile.FieldType)) := sb_2 (List.mem_of_getElem? (i := 158) rfl) rfl
theorem tw_399 : TW (Jvm.Cond.methodLink "ThousandLeaflets$Heap" (32 : Nat) ({ cls := "ThousandLeaflets$Heap", name := "isTouching", desc := "(LThousandLeaflets$Paper;I)Z" } : Jvm.MethodName)) := sb_2 (List.mem_of_getElem? (i := 159) rfl) rfl
theorem tw_400 : TW (Jvm.Cond.static ({ cls := "ThousandLeaflets$Heap", name := "isTouching", desc := "(LThousandLeaflets$Paper;I)Z" } : Jvm.MethodName)) := sb_2 (List.mem_of_getElem? (i := 160) rfl) rfl
theorem tw_401 : TW (Jvm.Cond.code ({ cls := "ThousandLeaflets$Heap", name := "isTouching", desc := "(LThousandLeaflets$Paper;I)Z" } : Jvm.MethodName) prog_8_method_7_code (2 : Nat) (Option.some Jvm.ClassFile.FieldType.boolean)) := sb_2 (List.mem_of_getElem? (i := 161) rfl) rfl
theorem tw_402 : TW (Jvm.Cond.methodLink "ThousandLeaflets" (94 : Nat) ({ cls := "ThousandLeaflets", name := "forgetMarks", desc := "()V" } : Jvm.MethodName)) := sb_2 (List.mem_of_getElem? (i := 162) rfl) rfl
theorem tw_404 : TW (Jvm.Cond.instanceMethod ({ cls := "ThousandLeaflets", name := "forgetMarks", desc := "()V" } : Jvm.MethodName)) := sb_2 (List.mem_of_getElem? (i := 164) rfl) rfl
theorem tw_405 : TW (Jvm.Cond.code ({ cls := "ThousandLeaflets", name := "forgetMarks", desc := "()V" } : Jvm.MethodName) prog_1_method_47_code (2 : Nat) (Option.none : Option Jvm.ClassFile.FieldType)) := sb_2 (List.mem_of_getElem? (i := 165) rfl) rfl
theorem tw_406 : TW (Jvm.Cond.methodLink "ThousandLeafletsLaw" (24 : Nat) ({ cls := "ThousandLeaflets", name := "page", desc := "(III)Z" } : Jvm.MethodName)) := sb_2 (List.mem_of_getElem? (i := 166) rfl) rfl
theorem tw_407 : TW (Jvm.Cond.instanceMethod ({ cls := "ThousandLeaflets", name := "page", desc := "(III)Z" } : Jvm.MethodName)) := sb_2 (List.mem_of_getElem? (i := 167) rfl) rfl
theorem tw_408 : TW (Jvm.Cond.selects "ThousandLeaflets" ({ cls := "ThousandLeaflets", name := "page", desc := "(III)Z" } : Jvm.MethodName) ({ cls := "ThousandLeaflets", name := "page", desc := "(III)Z" } : Jvm.MethodName)) := sb_2 (List.mem_of_getElem? (i := 168) rfl) rfl
theorem tw_409 : TW (Jvm.Cond.code ({ cls := "ThousandLeaflets", name := "page", desc := "(III)Z" } : Jvm.MethodName) prog_1_method_3_code (4 : Nat) (Option.some Jvm.ClassFile.FieldType.boolean)) := sb_2 (List.mem_of_getElem? (i := 169) rfl) rfl
theorem tw_410 : TW (Jvm.Cond.methodLink "ThousandLeaflets" (97 : Nat) ({ cls := "ThousandLeaflets", name := "isTold", desc := "(I)Z" } : Jvm.MethodName)) := sb_2 (List.mem_of_getElem? (i := 170) rfl) rfl
theorem tw_412 : TW (Jvm.Cond.instanceMethod ({ cls := "ThousandLeaflets", name := "isTold", desc := "(I)Z" } : Jvm.MethodName)) := sb_2 (List.mem_of_getElem? (i := 172) rfl) rfl
theorem tw_413 : TW (Jvm.Cond.code ({ cls := "ThousandLeaflets", name := "isTold", desc := "(I)Z" } : Jvm.MethodName) prog_1_method_41_code (2 : Nat) (Option.some Jvm.ClassFile.FieldType.boolean)) := sb_2 (List.mem_of_getElem? (i := 173) rfl) rfl
theorem tw_414 : TW (Jvm.Cond.constant "ThousandLeaflets" (104 : Nat) (65535 : Int32)) := sb_2 (List.mem_of_getElem? (i := 174) rfl) rfl
theorem tw_415 : TW (Jvm.Cond.methodLink "ThousandLeaflets" (105 : Nat) ({ cls := "ThousandLeaflets", name := "isTouched", desc := "(I)Z" } : Jvm.MethodName)) := sb_2 (List.mem_of_getElem? (i := 175) rfl) rfl
theorem tw_417 : TW (Jvm.Cond.instanceMethod ({ cls := "ThousandLeaflets", name := "isTouched", desc := "(I)Z" } : Jvm.MethodName)) := sb_2 (List.mem_of_getElem? (i := 177) rfl) rfl
theorem tw_418 : TW (Jvm.Cond.code ({ cls := "ThousandLeaflets", name := "isTouched", desc := "(I)Z" } : Jvm.MethodName) prog_1_method_44_code (3 : Nat) (Option.some Jvm.ClassFile.FieldType.boolean)) := sb_2 (List.mem_of_getElem? (i := 178) rfl) rfl
theorem tw_419 : TW (Jvm.Cond.methodLink "ThousandLeaflets" (351 : Nat) ({ cls := "ThousandLeaflets$Heap", name := "touches", desc := "(I)Z" } : Jvm.MethodName)) := sb_2 (List.mem_of_getElem? (i := 179) rfl) rfl
theorem tw_420 : TW (Jvm.Cond.instanceMethod ({ cls := "ThousandLeaflets$Heap", name := "touches", desc := "(I)Z" } : Jvm.MethodName)) := sb_2 (List.mem_of_getElem? (i := 180) rfl) rfl
theorem tw_421 : TW (Jvm.Cond.selects "ThousandLeaflets$Heap" ({ cls := "ThousandLeaflets$Heap", name := "touches", desc := "(I)Z" } : Jvm.MethodName) ({ cls := "ThousandLeaflets$Heap", name := "touches", desc := "(I)Z" } : Jvm.MethodName)) := sb_2 (List.mem_of_getElem? (i := 181) rfl) rfl
theorem tw_422 : TW (Jvm.Cond.code ({ cls := "ThousandLeaflets$Heap", name := "touches", desc := "(I)Z" } : Jvm.MethodName) prog_8_method_6_code (3 : Nat) (Option.some Jvm.ClassFile.FieldType.boolean)) := sb_2 (List.mem_of_getElem? (i := 182) rfl) rfl
theorem tw_423 : TW (Jvm.Cond.methodLink "ThousandLeafletsLaw" (31 : Nat) ({ cls := "ThousandLeaflets", name := "feed", desc := "(JJJ)I" } : Jvm.MethodName)) := sb_2 (List.mem_of_getElem? (i := 183) rfl) rfl
theorem tw_424 : TW (Jvm.Cond.instanceMethod ({ cls := "ThousandLeaflets", name := "feed", desc := "(JJJ)I" } : Jvm.MethodName)) := sb_2 (List.mem_of_getElem? (i := 184) rfl) rfl
theorem tw_425 : TW (Jvm.Cond.selects "ThousandLeaflets" ({ cls := "ThousandLeaflets", name := "feed", desc := "(JJJ)I" } : Jvm.MethodName) ({ cls := "ThousandLeaflets", name := "feed", desc := "(JJJ)I" } : Jvm.MethodName)) := sb_2 (List.mem_of_getElem? (i := 185) rfl) rfl
theorem tw_426 : TW (Jvm.Cond.code ({ cls := "ThousandLeaflets", name := "feed", desc := "(JJJ)I" } : Jvm.MethodName) prog_1_method_4_code (8 : Nat) (Option.some Jvm.ClassFile.FieldType.int)) := sb_2 (List.mem_of_getElem? (i := 186) rfl) rfl
theorem tw_427 : TW (Jvm.Cond.methodLink "ThousandLeaflets" (115 : Nat) ({ cls := "ThousandLeaflets$Tape", name := "takeEight", desc := "(J)V" } : Jvm.MethodName)) := sb_2 (List.mem_of_getElem? (i := 187) rfl) rfl
theorem tw_428 : TW (Jvm.Cond.instanceMethod ({ cls := "ThousandLeaflets$Tape", name := "takeEight", desc := "(J)V" } : Jvm.MethodName)) := sb_2 (List.mem_of_getElem? (i := 188) rfl) rfl
theorem tw_429 : TW (Jvm.Cond.selects "ThousandLeaflets$Tape" ({ cls := "ThousandLeaflets$Tape", name := "takeEight", desc := "(J)V" } : Jvm.MethodName) ({ cls := "ThousandLeaflets$Tape", name := "takeEight", desc := "(J)V" } : Jvm.MethodName)) := sb_2 (List.mem_of_getElem? (i := 189) rfl) rfl
theorem tw_430 : TW (Jvm.Cond.code ({ cls := "ThousandLeaflets$Tape", name := "takeEight", desc := "(J)V" } : Jvm.MethodName) prog_11_method_2_code (5 : Nat) (Option.none : Option Jvm.ClassFile.FieldType)) := sb_2 (List.mem_of_getElem? (i := 190) rfl) rfl
theorem tw_431 : TW (Jvm.Cond.methodLink "ThousandLeafletsLaw" (36 : Nat) ({ cls := "ThousandLeaflets", name := "draw", desc := "(I)I" } : Jvm.MethodName)) := sb_2 (List.mem_of_getElem? (i := 191) rfl) rfl
theorem tw_432 : TW (Jvm.Cond.instanceMethod ({ cls := "ThousandLeaflets", name := "draw", desc := "(I)I" } : Jvm.MethodName)) := sb_2 (List.mem_of_getElem? (i := 192) rfl) rfl
theorem tw_433 : TW (Jvm.Cond.selects "ThousandLeaflets" ({ cls := "ThousandLeaflets", name := "draw", desc := "(I)I" } : Jvm.MethodName) ({ cls := "ThousandLeaflets", name := "draw", desc := "(I)I" } : Jvm.MethodName)) := sb_2 (List.mem_of_getElem? (i := 193) rfl) rfl
theorem tw_434 : TW (Jvm.Cond.code ({ cls := "ThousandLeaflets", name := "draw", desc := "(I)I" } : Jvm.MethodName) prog_1_method_5_code (3 : Nat) (Option.some Jvm.ClassFile.FieldType.int)) := sb_2 (List.mem_of_getElem? (i := 194) rfl) rfl
theorem tw_435 : TW (Jvm.Cond.methodLink "ThousandLeaflets" (124 : Nat) ({ cls := "ThousandLeaflets$DrawReader", name := "faultFor", desc := "(I)I" } : Jvm.MethodName)) := sb_2 (List.mem_of_getElem? (i := 195) rfl) rfl
theorem tw_436 : TW (Jvm.Cond.instanceMethod ({ cls := "ThousandLeaflets$DrawReader", name := "faultFor", desc := "(I)I" } : Jvm.MethodName)) := sb_2 (List.mem_of_getElem? (i := 196) rfl) rfl
theorem tw_437 : TW (Jvm.Cond.selects "ThousandLeaflets$DrawReader" ({ cls := "ThousandLeaflets$DrawReader", name := "faultFor", desc := "(I)I" } : Jvm.MethodName) ({ cls := "ThousandLeaflets$DrawReader", name := "faultFor", desc := "(I)I" } : Jvm.MethodName)) := sb_2 (List.mem_of_getElem? (i := 197) rfl) rfl
theorem tw_438 : TW (Jvm.Cond.code ({ cls := "ThousandLeaflets$DrawReader", name := "faultFor", desc := "(I)I" } : Jvm.MethodName) prog_6_method_2_code (4 : Nat) (Option.some Jvm.ClassFile.FieldType.int)) := sb_2 (List.mem_of_getElem? (i := 198) rfl) rfl
theorem tw_439 : TW (Jvm.Cond.methodLink "ThousandLeaflets$DrawReader" (25 : Nat) ({ cls := "ThousandLeaflets$Draw", name := "clear", desc := "()V" } : Jvm.MethodName)) := sb_2 (List.mem_of_getElem? (i := 199) rfl) rfl
theorem tw_440 : TW (Jvm.Cond.methodLink "ThousandLeaflets$DrawReader" (28 : Nat) ({ cls := "ThousandLeaflets$Tape", name := "rewind", desc := "()V" } : Jvm.MethodName)) := sb_2 (List.mem_of_getElem? (i := 200) rfl) rfl
theorem tw_441 : TW (Jvm.Cond.instanceMethod ({ cls := "ThousandLeaflets$Tape", name := "rewind", desc := "()V" } : Jvm.MethodName)) := sb_2 (List.mem_of_getElem? (i := 201) rfl) rfl
theorem tw_442 : TW (Jvm.Cond.selects "ThousandLeaflets$Tape" ({ cls := "ThousandLeaflets$Tape", name := "rewind", desc := "()V" } : Jvm.MethodName) ({ cls := "ThousandLeaflets$Tape", name := "rewind", desc := "()V" } : Jvm.MethodName)) := sb_2 (List.mem_of_getElem? (i := 202) rfl) rfl
theorem tw_443 : TW (Jvm.Cond.code ({ cls := "ThousandLeaflets$Tape", name := "rewind", desc := "()V" } : Jvm.MethodName) prog_11_method_3_code (1 : Nat) (Option.none : Option Jvm.ClassFile.FieldType)) := sb_2 (List.mem_of_getElem? (i := 203) rfl) rfl
theorem tw_444 : TW (Jvm.Cond.methodLink "ThousandLeaflets$DrawReader" (31 : Nat) ({ cls := "ThousandLeaflets$Tape", name := "next", desc := "()V" } : Jvm.MethodName)) := sb_2 (List.mem_of_getElem? (i := 204) rfl) rfl
theorem tw_445 : TW (Jvm.Cond.instanceMethod ({ cls := "ThousandLeaflets$Tape", name := "next", desc := "()V" } : Jvm.MethodName)) := sb_2 (List.mem_of_getElem? (i := 205) rfl) rfl
theorem tw_446 : TW (Jvm.Cond.selects "ThousandLeaflets$Tape" ({ cls := "ThousandLeaflets$Tape", name := "next", desc := "()V" } : Jvm.MethodName) ({ cls := "ThousandLeaflets$Tape", name := "next", desc := "()V" } : Jvm.MethodName)) := sb_2 (List.mem_of_getElem? (i := 206) rfl) rfl
theorem tw_447 : TW (Jvm.Cond.code ({ cls := "ThousandLeaflets$Tape", name := "next", desc := "()V" } : Jvm.MethodName) prog_11_method_4_code (2 : Nat) (Option.none : Option Jvm.ClassFile.FieldType)) := sb_2 (List.mem_of_getElem? (i := 207) rfl) rfl
theorem tw_448 : TW (Jvm.Cond.methodLink "ThousandLeaflets$Tape" (28 : Nat) ({ cls := "ThousandLeaflets$Tape", name := "takeRun", desc := "(II)V" } : Jvm.MethodName)) := sb_2 (List.mem_of_getElem? (i := 208) rfl) rfl
theorem tw_450 : TW (Jvm.Cond.instanceMethod ({ cls := "ThousandLeaflets$Tape", name := "takeRun", desc := "(II)V" } : Jvm.MethodName)) := sb_2 (List.mem_of_getElem? (i := 210) rfl) rfl
theorem tw_451 : TW (Jvm.Cond.code ({ cls := "ThousandLeaflets$Tape", name := "takeRun", desc := "(II)V" } : Jvm.MethodName) prog_11_method_5_code (3 : Nat) (Option.none : Option Jvm.ClassFile.FieldType)) := sb_2 (List.mem_of_getElem? (i := 211) rfl) rfl
theorem tw_452 : TW (Jvm.Cond.methodLink "ThousandLeaflets$Tape" (32 : Nat) ({ cls := "ThousandLeaflets$Tape", name := "numberHere", desc := "()I" } : Jvm.MethodName)) := sb_2 (List.mem_of_getElem? (i := 212) rfl) rfl
theorem tw_454 : TW (Jvm.Cond.instanceMethod ({ cls := "ThousandLeaflets$Tape", name := "numberHere", desc := "()I" } : Jvm.MethodName)) := sb_2 (List.mem_of_getElem? (i := 214) rfl) rfl
theorem tw_455 : TW (Jvm.Cond.code ({ cls := "ThousandLeaflets$Tape", name := "numberHere", desc := "()I" } : Jvm.MethodName) prog_11_method_6_code (3 : Nat) (Option.some Jvm.ClassFile.FieldType.int)) := sb_2 (List.mem_of_getElem? (i := 215) rfl) rfl
theorem tw_456 : TW (Jvm.Cond.methodLink "ThousandLeaflets$DrawReader" (38 : Nat) ({ cls := "ThousandLeaflets$DrawReader", name := "statementFault", desc := "(I)I" } : Jvm.MethodName)) := sb_2 (List.mem_of_getElem? (i := 216) rfl) rfl
theorem tw_458 : TW (Jvm.Cond.instanceMethod ({ cls := "ThousandLeaflets$DrawReader", name := "statementFault", desc := "(I)I" } : Jvm.MethodName)) := sb_2 (List.mem_of_getElem? (i := 218) rfl) rfl
theorem tw_459 : TW (Jvm.Cond.code ({ cls := "ThousandLeaflets$DrawReader", name := "statementFault", desc := "(I)I" } : Jvm.MethodName) prog_6_method_3_code (2 : Nat) (Option.some Jvm.ClassFile.FieldType.int)) := sb_2 (List.mem_of_getElem? (i := 219) rfl) rfl
theorem tw_461 : TW (Jvm.Cond.methodLink "ThousandLeaflets$DrawReader" (44 : Nat) ({ cls := "ThousandLeaflets$Tape", name := "isWord", desc := "(Ljava/lang/String;)Z" } : Jvm.MethodName)) := sb_2 (List.mem_of_getElem? (i := 221) rfl) rfl
theorem tw_462 : TW (Jvm.Cond.instanceMethod ({ cls := "ThousandLeaflets$Tape", name := "isWord", desc := "(Ljava/lang/String;)Z" } : Jvm.MethodName)) := sb_2 (List.mem_of_getElem? (i := 222) rfl) rfl
theorem tw_463 : TW (Jvm.Cond.selects "ThousandLeaflets$Tape" ({ cls := "ThousandLeaflets$Tape", name := "isWord", desc := "(Ljava/lang/String;)Z" } : Jvm.MethodName) ({ cls := "ThousandLeaflets$Tape", name := "isWord", desc := "(Ljava/lang/String;)Z" } : Jvm.MethodName)) := sb_2 (List.mem_of_getElem? (i := 223) rfl) rfl
theorem tw_464 : TW (Jvm.Cond.code ({ cls := "ThousandLeaflets$Tape", name := "isWord", desc := "(Ljava/lang/String;)Z" } : Jvm.MethodName) prog_11_method_7_code (3 : Nat) (Option.some Jvm.ClassFile.FieldType.boolean)) := sb_2 (List.mem_of_getElem? (i := 224) rfl) rfl
theorem tw_465 : TW (Jvm.Cond.methodLink "ThousandLeaflets$Tape" (39 : Nat) ({ cls := "java/lang/String", name := "length", desc := "()I" } : Jvm.MethodName)) := sb_2 (List.mem_of_getElem? (i := 225) rfl) rfl
theorem tw_468 : TW (Jvm.Cond.code ({ cls := "java/lang/String", name := "length", desc := "()I" } : Jvm.MethodName) prog_20_method_54_code (1 : Nat) (Option.some Jvm.ClassFile.FieldType.int)) := sb_2 (List.mem_of_getElem? (i := 228) rfl) rfl
theorem tw_469 : TW (Jvm.Cond.methodLink "java/lang/String" (335 : Nat) ({ cls := "java/lang/String", name := "coder", desc := "()B" } : Jvm.MethodName)) := sb_2 (List.mem_of_getElem? (i := 229) rfl) rfl
theorem tw_472 : TW (Jvm.Cond.code ({ cls := "java/lang/String", name := "coder", desc := "()B" } : Jvm.MethodName) prog_20_method_152_code (1 : Nat) (Option.some Jvm.ClassFile.FieldType.byte)) := sb_2 (List.mem_of_getElem? (i := 232) rfl) rfl
theorem tw_475 : TW (Jvm.Cond.methodLink "ThousandLeaflets$Tape" (43 : Nat) ({ cls := "java/lang/String", name := "charAt", desc := "(I)C" } : Jvm.MethodName)) := sb_2 (List.mem_of_getElem? (i := 235) rfl) rfl
theorem tw_478 : TW (Jvm.Cond.code ({ cls := "java/lang/String", name := "charAt", desc := "(I)C" } : Jvm.MethodName) prog_20_method_56_code (2 : Nat) (Option.some Jvm.ClassFile.FieldType.char)) := sb_2 (List.mem_of_getElem? (i := 238) rfl) rfl
theorem tw_479 : TW (Jvm.Cond.methodLink "java/lang/String" (492 : Nat) ({ cls := "java/lang/String", name := "isLatin1", desc := "()Z" } : Jvm.MethodName)) := sb_2 (List.mem_of_getElem? (i := 239) rfl) rfl
theorem tw_482 : TW (Jvm.Cond.code ({ cls := "java/lang/String", name := "isLatin1", desc := "()Z" } : Jvm.MethodName) prog_20_method_154_code (1 : Nat) (Option.some Jvm.ClassFile.FieldType.boolean)) := sb_3 (List.mem_of_getElem? (i := 2) rfl) rfl
theorem tw_483 : TW (Jvm.Cond.methodLink "java/lang/String" (495 : Nat) ({ cls := "java/lang/StringLatin1", name := "charAt", desc := "([BI)C" } : Jvm.MethodName)) := sb_3 (List.mem_of_getElem? (i := 3) rfl) rfl
theorem tw_484 : TW (Jvm.Cond.static ({ cls := "java/lang/StringLatin1", name := "charAt", desc := "([BI)C" } : Jvm.MethodName)) := sb_3 (List.mem_of_getElem? (i := 4) rfl) rfl
theorem tw_485 : TW (Jvm.Cond.code ({ cls := "java/lang/StringLatin1", name := "charAt", desc := "([BI)C" } : Jvm.MethodName) prog_21_method_2_code (2 : Nat) (Option.some Jvm.ClassFile.FieldType.char)) := sb_3 (List.mem_of_getElem? (i := 5) rfl) rfl
theorem tw_486 : TW (Jvm.Cond.methodLink "java/lang/StringLatin1" (9 : Nat) ({ cls := "java/lang/String", name := "checkIndex", desc := "(II)V" } : Jvm.MethodName)) := sb_3 (List.mem_of_getElem? (i := 6) rfl) rfl
theorem tw_487 : TW (Jvm.Cond.static ({ cls := "java/lang/String", name := "checkIndex", desc := "(II)V" } : Jvm.MethodName)) := sb_3 (List.mem_of_getElem? (i := 7) rfl) rfl
theorem tw_488 : TW (Jvm.Cond.code ({ cls := "java/lang/String", name := "checkIndex", desc := "(II)V" } : Jvm.MethodName) prog_20_method_155_code (2 : Nat) (Option.none : Option Jvm.ClassFile.FieldType)) := sb_3 (List.mem_of_getElem? (i := 8) rfl) rfl
theorem tw_491 : TW (Jvm.Cond.methodLink "java/lang/String" (1059 : Nat) ({ cls := "jdk/internal/util/Preconditions", name := "checkIndex", desc := "(IILjava/util/function/BiFunction;)I" } : Jvm.MethodName)) := sb_3 (List.mem_of_getElem? (i := 11) rfl) rfl
theorem tw_492 : TW (Jvm.Cond.static ({ cls := "jdk/internal/util/Preconditions", name := "checkIndex", desc := "(IILjava/util/function/BiFunction;)I" } : Jvm.MethodName)) := sb_3 (List.mem_of_getElem? (i := 12) rfl) rfl
theorem tw_493 : TW (Jvm.Cond.code ({ cls := "jdk/internal/util/Preconditions", name := "checkIndex", desc := "(IILjava/util/function/BiFunction;)I" } : Jvm.MethodName) prog_26_method_11_code (3 : Nat) (Option.some Jvm.ClassFile.FieldType.int)) := sb_3 (List.mem_of_getElem? (i := 13) rfl) rfl
theorem tw_494 : TW (Jvm.Cond.methodLink "java/lang/String" (498 : Nat) ({ cls := "java/lang/StringUTF16", name := "charAt", desc := "([BI)C" } : Jvm.MethodName)) := sb_3 (List.mem_of_getElem? (i := 14) rfl) rfl
theorem tw_495 : TW (Jvm.Cond.static ({ cls := "java/lang/StringUTF16", name := "charAt", desc := "([BI)C" } : Jvm.MethodName)) := sb_3 (List.mem_of_getElem? (i := 15) rfl) rfl
theorem tw_496 : TW (Jvm.Cond.code ({ cls := "java/lang/StringUTF16", name := "charAt", desc := "([BI)C" } : Jvm.MethodName) prog_22_method_83_code (2 : Nat) (Option.some Jvm.ClassFile.FieldType.char)) := sb_3 (List.mem_of_getElem? (i := 16) rfl) rfl
theorem tw_497 : TW (Jvm.Cond.methodLink "java/lang/StringUTF16" (67 : Nat) ({ cls := "java/lang/StringUTF16", name := "checkIndex", desc := "(I[B)V" } : Jvm.MethodName)) := sb_3 (List.mem_of_getElem? (i := 17) rfl) rfl
theorem tw_498 : TW (Jvm.Cond.static ({ cls := "java/lang/StringUTF16", name := "checkIndex", desc := "(I[B)V" } : Jvm.MethodName)) := sb_3 (List.mem_of_getElem? (i := 18) rfl) rfl
theorem tw_499 : TW (Jvm.Cond.code ({ cls := "java/lang/StringUTF16", name := "checkIndex", desc := "(I[B)V" } : Jvm.MethodName) prog_22_method_91_code (2 : Nat) (Option.none : Option Jvm.ClassFile.FieldType)) := sb_3 (List.mem_of_getElem? (i := 19) rfl) rfl
theorem tw_500 : TW (Jvm.Cond.methodLink "java/lang/StringUTF16" (48 : Nat) ({ cls := "java/lang/StringUTF16", name := "length", desc := "([B)I" } : Jvm.MethodName)) := sb_3 (List.mem_of_getElem? (i := 20) rfl) rfl
theorem tw_501 : TW (Jvm.Cond.static ({ cls := "java/lang/StringUTF16", name := "length", desc := "([B)I" } : Jvm.MethodName)) := sb_3 (List.mem_of_getElem? (i := 21) rfl) rfl
theorem tw_502 : TW (Jvm.Cond.code ({ cls := "java/lang/StringUTF16", name := "length", desc := "([B)I" } : Jvm.MethodName) prog_22_method_6_code (1 : Nat) (Option.some Jvm.ClassFile.FieldType.int)) := sb_3 (List.mem_of_getElem? (i := 22) rfl) rfl
theorem tw_503 : TW (Jvm.Cond.methodLink "java/lang/StringUTF16" (414 : Nat) ({ cls := "java/lang/String", name := "checkIndex", desc := "(II)V" } : Jvm.MethodName)) := sb_3 (List.mem_of_getElem? (i := 23) rfl) rfl
theorem tw_504 : TW (Jvm.Cond.methodLink "java/lang/StringUTF16" (71 : Nat) ({ cls := "java/lang/StringUTF16", name := "getChar", desc := "([BI)C" } : Jvm.MethodName)) := sb_3 (List.mem_of_getElem? (i := 24) rfl) rfl
theorem tw_505 : TW (Jvm.Cond.static ({ cls := "java/lang/StringUTF16", name := "getChar", desc := "([BI)C" } : Jvm.MethodName)) := sb_3 (List.mem_of_getElem? (i := 25) rfl) rfl
theorem tw_506 : TW (Jvm.Cond.code ({ cls := "java/lang/StringUTF16", name := "getChar", desc := "([BI)C" } : Jvm.MethodName) prog_22_method_5_code (2 : Nat) (Option.some Jvm.ClassFile.FieldType.char)) := sb_3 (List.mem_of_getElem? (i := 26) rfl) rfl
theorem tw_513 : TW (Jvm.Cond.methodLink "ThousandLeaflets$DrawReader" (48 : Nat) ({ cls := "ThousandLeaflets$DrawReader", name := "oddsFault", desc := "()I" } : Jvm.MethodName)) := sb_3 (List.mem_of_getElem? (i := 33) rfl) rfl
theorem tw_515 : TW (Jvm.Cond.instanceMethod ({ cls := "ThousandLeaflets$DrawReader", name := "oddsFault", desc := "()I" } : Jvm.MethodName)) := sb_3 (List.mem_of_getElem? (i := 35) rfl) rfl
theorem tw_516 : TW (Jvm.Cond.code ({ cls := "ThousandLeaflets$DrawReader", name := "oddsFault", desc := "()I" } : Jvm.MethodName) prog_6_method_4_code (3 : Nat) (Option.some Jvm.ClassFile.FieldType.int)) := sb_3 (List.mem_of_getElem? (i := 36) rfl) rfl
theorem tw_517 : TW (Jvm.Cond.methodLink "ThousandLeaflets$DrawReader" (78 : Nat) ({ cls := "ThousandLeaflets$DrawReader", name := "numberFault", desc := "(II)I" } : Jvm.MethodName)) := sb_3 (List.mem_of_getElem? (i := 37) rfl) rfl
theorem tw_519 : TW (Jvm.Cond.instanceMethod ({ cls := "ThousandLeaflets$DrawReader", name := "numberFault", desc := "(II)I" } : Jvm.MethodName)) := sb_3 (List.mem_of_getElem? (i := 39) rfl) rfl
theorem tw_520 : TW (Jvm.Cond.code ({ cls := "ThousandLeaflets$DrawReader", name := "numberFault", desc := "(II)I" } : Jvm.MethodName) prog_6_method_8_code (3 : Nat) (Option.some Jvm.ClassFile.FieldType.int)) := sb_3 (List.mem_of_getElem? (i := 40) rfl) rfl
theorem tw_521 : TW (Jvm.Cond.methodLink "ThousandLeaflets$DrawReader" (57 : Nat) ({ cls := "ThousandLeaflets$DrawReader", name := "wrong", desc := "(I)I" } : Jvm.MethodName)) := sb_3 (List.mem_of_getElem? (i := 41) rfl) rfl
theorem tw_523 : TW (Jvm.Cond.instanceMethod ({ cls := "ThousandLeaflets$DrawReader", name := "wrong", desc := "(I)I" } : Jvm.MethodName)) := sb_3 (List.mem_of_getElem? (i := 43) rfl) rfl
theorem tw_524 : TW (Jvm.Cond.code ({ cls := "ThousandLeaflets$DrawReader", name := "wrong", desc := "(I)I" } : Jvm.MethodName) prog_6_method_10_code (2 : Nat) (Option.some Jvm.ClassFile.FieldType.int)) := sb_3 (List.mem_of_getElem? (i := 44) rfl) rfl
theorem tw_525 : TW (Jvm.Cond.methodLink "ThousandLeaflets$DrawReader" (88 : Nat) ({ cls := "ThousandLeaflets$DrawReader", name := "endFault", desc := "()I" } : Jvm.MethodName)) := sb_3 (List.mem_of_getElem? (i := 45) rfl) rfl
theorem tw_527 : TW (Jvm.Cond.instanceMethod ({ cls := "ThousandLeaflets$DrawReader", name := "endFault", desc := "()I" } : Jvm.MethodName)) := sb_3 (List.mem_of_getElem? (i := 47) rfl) rfl
theorem tw_528 : TW (Jvm.Cond.code ({ cls := "ThousandLeaflets$DrawReader", name := "endFault", desc := "()I" } : Jvm.MethodName) prog_6_method_9_code (1 : Nat) (Option.some Jvm.ClassFile.FieldType.int)) := sb_3 (List.mem_of_getElem? (i := 48) rfl) rfl
theorem tw_530 : TW (Jvm.Cond.methodLink "ThousandLeaflets$DrawReader" (60 : Nat) ({ cls := "ThousandLeaflets$DrawReader", name := "firstFault", desc := "()I" } : Jvm.MethodName)) := sb_3 (List.mem_of_getElem? (i := 50) rfl) rfl
theorem tw_532 : TW (Jvm.Cond.instanceMethod ({ cls := "ThousandLeaflets$DrawReader", name := "firstFault", desc := "()I" } : Jvm.MethodName)) := sb_3 (List.mem_of_getElem? (i := 52) rfl) rfl
theorem tw_533 : TW (Jvm.Cond.code ({ cls := "ThousandLeaflets$DrawReader", name := "firstFault", desc := "()I" } : Jvm.MethodName) prog_6_method_5_code (2 : Nat) (Option.some Jvm.ClassFile.FieldType.int)) := sb_3 (List.mem_of_getElem? (i := 53) rfl) rfl
theorem tw_535 : TW (Jvm.Cond.methodLink "ThousandLeaflets$DrawReader" (68 : Nat) ({ cls := "ThousandLeaflets$DrawReader", name := "sumFault", desc := "(I)I" } : Jvm.MethodName)) := sb_3 (List.mem_of_getElem? (i := 55) rfl) rfl
theorem tw_537 : TW (Jvm.Cond.instanceMethod ({ cls := "ThousandLeaflets$DrawReader", name := "sumFault", desc := "(I)I" } : Jvm.MethodName)) := sb_3 (List.mem_of_getElem? (i := 57) rfl) rfl
theorem tw_538 : TW (Jvm.Cond.code ({ cls := "ThousandLeaflets$DrawReader", name := "sumFault", desc := "(I)I" } : Jvm.MethodName) prog_6_method_7_code (4 : Nat) (Option.some Jvm.ClassFile.FieldType.int)) := sb_3 (List.mem_of_getElem? (i := 58) rfl) rfl
theorem tw_540 : TW (Jvm.Cond.methodLink "ThousandLeaflets$DrawReader" (75 : Nat) ({ cls := "ThousandLeaflets$DrawReader", name := "sealFault", desc := "()I" } : Jvm.MethodName)) := sb_3 (List.mem_of_getElem? (i := 60) rfl) rfl
theorem tw_542 : TW (Jvm.Cond.instanceMethod ({ cls := "ThousandLeaflets$DrawReader", name := "sealFault", desc := "()I" } : Jvm.MethodName)) := sb_3 (List.mem_of_getElem? (i := 62) rfl) rfl
theorem tw_543 : TW (Jvm.Cond.code ({ cls := "ThousandLeaflets$DrawReader", name := "sealFault", desc := "()I" } : Jvm.MethodName) prog_6_method_6_code (2 : Nat) (Option.some Jvm.ClassFile.FieldType.int)) := sb_3 (List.mem_of_getElem? (i := 63) rfl) rfl
theorem tw_544 : TW (Jvm.Cond.methodLink "ThousandLeaflets" (132 : Nat) ({ cls := "ThousandLeaflets$Book", name := "changeDraw", desc := "(LThousandLeaflets$Draw;)V" } : Jvm.MethodName)) := sb_3 (List.mem_of_getElem? (i := 64) rfl) rfl
theorem tw_545 : TW (Jvm.Cond.instanceMethod ({ cls := "ThousandLeaflets$Book", name := "changeDraw", desc := "(LThousandLeaflets$Draw;)V" } : Jvm.MethodName)) := sb_3 (List.mem_of_getElem? (i := 65) rfl) rfl
theorem tw_546 : TW (Jvm.Cond.selects "ThousandLeaflets$Book" ({ cls := "ThousandLeaflets$Book", name := "changeDraw", desc := "(LThousandLeaflets$Draw;)V" } : Jvm.MethodName) ({ cls := "ThousandLeaflets$Book", name := "changeDraw", desc := "(LThousandLeaflets$Draw;)V" } : Jvm.MethodName)) := sb_3 (List.mem_of_getElem? (i := 66) rfl) rfl
theorem tw_547 : TW (Jvm.Cond.code ({ cls := "ThousandLeaflets$Book", name := "changeDraw", desc := "(LThousandLeaflets$Draw;)V" } : Jvm.MethodName) prog_3_method_3_code (2 : Nat) (Option.none : Option Jvm.ClassFile.FieldType)) := sb_3 (List.mem_of_getElem? (i := 67) rfl) rfl
theorem tw_548 : TW (Jvm.Cond.methodLink "ThousandLeaflets$Book" (42 : Nat) ({ cls := "ThousandLeaflets$Draw", name := "copy", desc := "(LThousandLeaflets$Draw;)V" } : Jvm.MethodName)) := sb_3 (List.mem_of_getElem? (i := 68) rfl) rfl
theorem tw_549 : TW (Jvm.Cond.instanceMethod ({ cls := "ThousandLeaflets$Draw", name := "copy", desc := "(LThousandLeaflets$Draw;)V" } : Jvm.MethodName)) := sb_3 (List.mem_of_getElem? (i := 69) rfl) rfl
theorem tw_550 : TW (Jvm.Cond.selects "ThousandLeaflets$Draw" ({ cls := "ThousandLeaflets$Draw", name := "copy", desc := "(LThousandLeaflets$Draw;)V" } : Jvm.MethodName) ({ cls := "ThousandLeaflets$Draw", name := "copy", desc := "(LThousandLeaflets$Draw;)V" } : Jvm.MethodName)) := sb_3 (List.mem_of_getElem? (i := 70) rfl) rfl
theorem tw_551 : TW (Jvm.Cond.code ({ cls := "ThousandLeaflets$Draw", name := "copy", desc := "(LThousandLeaflets$Draw;)V" } : Jvm.MethodName) prog_5_method_3_code (2 : Nat) (Option.none : Option Jvm.ClassFile.FieldType)) := sb_3 (List.mem_of_getElem? (i := 71) rfl) rfl
theorem tw_556 : TW (Jvm.Cond.methodLink "ThousandLeafletsLaw" (41 : Nat) ({ cls := "ThousandLeaflets", name := "leaflet", desc := "(III)I" } : Jvm.MethodName)) := sb_3 (List.mem_of_getElem? (i := 76) rfl) rfl
theorem tw_557 : TW (Jvm.Cond.instanceMethod ({ cls := "ThousandLeaflets", name := "leaflet", desc := "(III)I" } : Jvm.MethodName)) := sb_3 (List.mem_of_getElem? (i := 77) rfl) rfl
theorem tw_558 : TW (Jvm.Cond.selects "ThousandLeaflets" ({ cls := "ThousandLeaflets", name := "leaflet", desc := "(III)I" } : Jvm.MethodName) ({ cls := "ThousandLeaflets", name := "leaflet", desc := "(III)I" } : Jvm.MethodName)) := sb_3 (List.mem_of_getElem? (i := 78) rfl) rfl
theorem tw_559 : TW (Jvm.Cond.code ({ cls := "ThousandLeaflets", name := "leaflet", desc := "(III)I" } : Jvm.MethodName) prog_1_method_6_code (6 : Nat) (Option.some Jvm.ClassFile.FieldType.int)) := sb_3 (List.mem_of_getElem? (i := 79) rfl) rfl
theorem tw_560 : TW (Jvm.Cond.methodLink "ThousandLeaflets" (136 : Nat) ({ cls := "ThousandLeaflets", name := "isLeaflet", desc := "(II)Z" } : Jvm.MethodName)) := sb_3 (List.mem_of_getElem? (i := 80) rfl) rfl
theorem tw_562 : TW (Jvm.Cond.instanceMethod ({ cls := "ThousandLeaflets", name := "isLeaflet", desc := "(II)Z" } : Jvm.MethodName)) := sb_3 (List.mem_of_getElem? (i := 82) rfl) rfl
theorem tw_563 : TW (Jvm.Cond.code ({ cls := "ThousandLeaflets", name := "isLeaflet", desc := "(II)Z" } : Jvm.MethodName) prog_1_method_42_code (3 : Nat) (Option.some Jvm.ClassFile.FieldType.boolean)) := sb_3 (List.mem_of_getElem? (i := 83) rfl) rfl
theorem tw_564 : TW (Jvm.Cond.methodLink "ThousandLeaflets" (173 : Nat) ({ cls := "ThousandLeaflets", name := "isNumber", desc := "(I)Z" } : Jvm.MethodName)) := sb_3 (List.mem_of_getElem? (i := 84) rfl) rfl
theorem tw_565 : TW (Jvm.Cond.static ({ cls := "ThousandLeaflets", name := "isNumber", desc := "(I)Z" } : Jvm.MethodName)) := sb_3 (List.mem_of_getElem? (i := 85) rfl) rfl
theorem tw_566 : TW (Jvm.Cond.code ({ cls := "ThousandLeaflets", name := "isNumber", desc := "(I)Z" } : Jvm.MethodName) prog_1_method_38_code (1 : Nat) (Option.some Jvm.ClassFile.FieldType.boolean)) := sb_3 (List.mem_of_getElem? (i := 86) rfl) rfl
theorem tw_567 : TW (Jvm.Cond.methodLink "ThousandLeaflets" (140 : Nat) ({ cls := "ThousandLeaflets$Book", name := "pagesOf", desc := "(I)I" } : Jvm.MethodName)) := sb_3 (List.mem_of_getElem? (i := 87) rfl) rfl
theorem tw_568 : TW (Jvm.Cond.instanceMethod ({ cls := "ThousandLeaflets$Book", name := "pagesOf", desc := "(I)I" } : Jvm.MethodName)) := sb_3 (List.mem_of_getElem? (i := 88) rfl) rfl
theorem tw_569 : TW (Jvm.Cond.selects "ThousandLeaflets$Book" ({ cls := "ThousandLeaflets$Book", name := "pagesOf", desc := "(I)I" } : Jvm.MethodName) ({ cls := "ThousandLeaflets$Book", name := "pagesOf", desc := "(I)I" } : Jvm.MethodName)) := sb_3 (List.mem_of_getElem? (i := 89) rfl) rfl
theorem tw_570 : TW (Jvm.Cond.code ({ cls := "ThousandLeaflets$Book", name := "pagesOf", desc := "(I)I" } : Jvm.MethodName) prog_3_method_10_code (2 : Nat) (Option.some Jvm.ClassFile.FieldType.int)) := sb_3 (List.mem_of_getElem? (i := 90) rfl) rfl
theorem tw_571 : TW (Jvm.Cond.methodLink "ThousandLeaflets$Book" (63 : Nat) ({ cls := "ThousandLeaflets$Book", name := "drawPages", desc := "(II)I" } : Jvm.MethodName)) := sb_3 (List.mem_of_getElem? (i := 91) rfl) rfl
theorem tw_572 : TW (Jvm.Cond.instanceMethod ({ cls := "ThousandLeaflets$Book", name := "drawPages", desc := "(II)I" } : Jvm.MethodName)) := sb_3 (List.mem_of_getElem? (i := 92) rfl) rfl
theorem tw_573 : TW (Jvm.Cond.selects "ThousandLeaflets$Book" ({ cls := "ThousandLeaflets$Book", name := "drawPages", desc := "(II)I" } : Jvm.MethodName) ({ cls := "ThousandLeaflets$Book", name := "drawPages", desc := "(II)I" } : Jvm.MethodName)) := sb_3 (List.mem_of_getElem? (i := 93) rfl) rfl
theorem tw_574 : TW (Jvm.Cond.code ({ cls := "ThousandLeaflets$Book", name := "drawPages", desc := "(II)I" } : Jvm.MethodName) prog_3_method_11_code (9 : Nat) (Option.some Jvm.ClassFile.FieldType.int)) := sb_3 (List.mem_of_getElem? (i := 94) rfl) rfl
theorem tw_575 : TW (Jvm.Cond.constant "ThousandLeaflets$Book" (67 : Nat) (104729 : Int32)) := sb_3 (List.mem_of_getElem? (i := 95) rfl) rfl
theorem tw_576 : TW (Jvm.Cond.methodLink "ThousandLeaflets$Book" (49 : Nat) ({ cls := "ThousandLeaflets$Book", name := "all", desc := "()I" } : Jvm.MethodName)) := sb_3 (List.mem_of_getElem? (i := 96) rfl) rfl
theorem tw_577 : TW (Jvm.Cond.instanceMethod ({ cls := "ThousandLeaflets$Book", name := "all", desc := "()I" } : Jvm.MethodName)) := sb_3 (List.mem_of_getElem? (i := 97) rfl) rfl
theorem tw_578 : TW (Jvm.Cond.selects "ThousandLeaflets$Book" ({ cls := "ThousandLeaflets$Book", name := "all", desc := "()I" } : Jvm.MethodName) ({ cls := "ThousandLeaflets$Book", name := "all", desc := "()I" } : Jvm.MethodName)) := sb_3 (List.mem_of_getElem? (i := 98) rfl) rfl
theorem tw_579 : TW (Jvm.Cond.code ({ cls := "ThousandLeaflets$Book", name := "all", desc := "()I" } : Jvm.MethodName) prog_3_method_5_code (1 : Nat) (Option.some Jvm.ClassFile.FieldType.int)) := sb_3 (List.mem_of_getElem? (i := 99) rfl) rfl
theorem tw_580 : TW (Jvm.Cond.methodLink "ThousandLeaflets$Book" (71 : Nat) ({ cls := "ThousandLeaflets$Book", name := "castDegree", desc := "(I)I" } : Jvm.MethodName)) := sb_3 (List.mem_of_getElem? (i := 100) rfl) rfl
theorem tw_582 : TW (Jvm.Cond.instanceMethod ({ cls := "ThousandLeaflets$Book", name := "castDegree", desc := "(I)I" } : Jvm.MethodName)) := sb_3 (List.mem_of_getElem? (i := 102) rfl) rfl
theorem tw_583 : TW (Jvm.Cond.code ({ cls := "ThousandLeaflets$Book", name := "castDegree", desc := "(I)I" } : Jvm.MethodName) prog_3_method_13_code (2 : Nat) (Option.some Jvm.ClassFile.FieldType.int)) := sb_3 (List.mem_of_getElem? (i := 103) rfl) rfl
theorem tw_584 : TW (Jvm.Cond.methodLink "ThousandLeaflets$Book" (80 : Nat) ({ cls := "ThousandLeaflets$Book", name := "cast", desc := "(I)I" } : Jvm.MethodName)) := sb_3 (List.mem_of_getElem? (i := 104) rfl) rfl
theorem tw_586 : TW (Jvm.Cond.instanceMethod ({ cls := "ThousandLeaflets$Book", name := "cast", desc := "(I)I" } : Jvm.MethodName)) := sb_3 (List.mem_of_getElem? (i := 106) rfl) rfl
theorem tw_587 : TW (Jvm.Cond.code ({ cls := "ThousandLeaflets$Book", name := "cast", desc := "(I)I" } : Jvm.MethodName) prog_3_method_12_code (2 : Nat) (Option.some Jvm.ClassFile.FieldType.int)) := sb_3 (List.mem_of_getElem? (i := 107) rfl) rfl
theorem tw_588 : TW (Jvm.Cond.constant "ThousandLeaflets$Book" (87 : Nat) (1103515245 : Int32)) := sb_3 (List.mem_of_getElem? (i := 108) rfl) rfl
theorem tw_589 : TW (Jvm.Cond.constant "ThousandLeaflets$Book" (88 : Nat) (2147483647 : Int32)) := sb_3 (List.mem_of_getElem? (i := 109) rfl) rfl
theorem tw_590 : TW (Jvm.Cond.methodLink "ThousandLeaflets$Book" (74 : Nat) ({ cls := "ThousandLeaflets$Book", name := "howMany", desc := "(I)I" } : Jvm.MethodName)) := sb_3 (List.mem_of_getElem? (i := 110) rfl) rfl
theorem tw_592 : TW (Jvm.Cond.instanceMethod ({ cls := "ThousandLeaflets$Book", name := "howMany", desc := "(I)I" } : Jvm.MethodName)) := sb_3 (List.mem_of_getElem? (i := 112) rfl) rfl
theorem tw_593 : TW (Jvm.Cond.code ({ cls := "ThousandLeaflets$Book", name := "howMany", desc := "(I)I" } : Jvm.MethodName) prog_3_method_14_code (6 : Nat) (Option.some Jvm.ClassFile.FieldType.int)) := sb_3 (List.mem_of_getElem? (i := 113) rfl) rfl
theorem tw_594 : TW (Jvm.Cond.methodLink "ThousandLeaflets$Book" (89 : Nat) ({ cls := "ThousandLeaflets$Draw", name := "oddsOf", desc := "(I)I" } : Jvm.MethodName)) := sb_3 (List.mem_of_getElem? (i := 114) rfl) rfl
theorem tw_595 : TW (Jvm.Cond.instanceMethod ({ cls := "ThousandLeaflets$Draw", name := "oddsOf", desc := "(I)I" } : Jvm.MethodName)) := sb_3 (List.mem_of_getElem? (i := 115) rfl) rfl
theorem tw_596 : TW (Jvm.Cond.selects "ThousandLeaflets$Draw" ({ cls := "ThousandLeaflets$Draw", name := "oddsOf", desc := "(I)I" } : Jvm.MethodName) ({ cls := "ThousandLeaflets$Draw", name := "oddsOf", desc := "(I)I" } : Jvm.MethodName)) := sb_3 (List.mem_of_getElem? (i := 116) rfl) rfl
theorem tw_597 : TW (Jvm.Cond.code ({ cls := "ThousandLeaflets$Draw", name := "oddsOf", desc := "(I)I" } : Jvm.MethodName) prog_5_method_4_code (2 : Nat) (Option.some Jvm.ClassFile.FieldType.int)) := sb_3 (List.mem_of_getElem? (i := 117) rfl) rfl
theorem tw_598 : TW (Jvm.Cond.methodLink "ThousandLeaflets$Book" (77 : Nat) ({ cls := "ThousandLeaflets$Book", name := "weightOf", desc := "(I)I" } : Jvm.MethodName)) := sb_3 (List.mem_of_getElem? (i := 118) rfl) rfl
theorem tw_600 : TW (Jvm.Cond.instanceMethod ({ cls := "ThousandLeaflets$Book", name := "weightOf", desc := "(I)I" } : Jvm.MethodName)) := sb_3 (List.mem_of_getElem? (i := 120) rfl) rfl
theorem tw_601 : TW (Jvm.Cond.code ({ cls := "ThousandLeaflets$Book", name := "weightOf", desc := "(I)I" } : Jvm.MethodName) prog_3_method_15_code (2 : Nat) (Option.some Jvm.ClassFile.FieldType.int)) := sb_3 (List.mem_of_getElem? (i := 121) rfl) rfl
theorem tw_602 : TW (Jvm.Cond.methodLink "ThousandLeaflets$Book" (83 : Nat) ({ cls := "ThousandLeaflets$Book", name := "pickBeside", desc := "(III)I" } : Jvm.MethodName)) := sb_3 (List.mem_of_getElem? (i := 122) rfl) rfl
theorem tw_604 : TW (Jvm.Cond.instanceMethod ({ cls := "ThousandLeaflets$Book", name := "pickBeside", desc := "(III)I" } : Jvm.MethodName)) := sb_3 (List.mem_of_getElem? (i := 124) rfl) rfl
theorem tw_605 : TW (Jvm.Cond.code ({ cls := "ThousandLeaflets$Book", name := "pickBeside", desc := "(III)I" } : Jvm.MethodName) prog_3_method_16_code (6 : Nat) (Option.some Jvm.ClassFile.FieldType.int)) := sb_3 (List.mem_of_getElem? (i := 125) rfl) rfl
theorem tw_606 : TW (Jvm.Cond.methodLink "ThousandLeaflets" (143 : Nat) ({ cls := "ThousandLeaflets$Book", name := "sumOf", desc := "(I)I" } : Jvm.MethodName)) := sb_3 (List.mem_of_getElem? (i := 126) rfl) rfl
theorem tw_607 : TW (Jvm.Cond.instanceMethod ({ cls := "ThousandLeaflets$Book", name := "sumOf", desc := "(I)I" } : Jvm.MethodName)) := sb_3 (List.mem_of_getElem? (i := 127) rfl) rfl
theorem tw_608 : TW (Jvm.Cond.selects "ThousandLeaflets$Book" ({ cls := "ThousandLeaflets$Book", name := "sumOf", desc := "(I)I" } : Jvm.MethodName) ({ cls := "ThousandLeaflets$Book", name := "sumOf", desc := "(I)I" } : Jvm.MethodName)) := sb_3 (List.mem_of_getElem? (i := 128) rfl) rfl
theorem tw_609 : TW (Jvm.Cond.code ({ cls := "ThousandLeaflets$Book", name := "sumOf", desc := "(I)I" } : Jvm.MethodName) prog_3_method_8_code (5 : Nat) (Option.some Jvm.ClassFile.FieldType.int)) := sb_3 (List.mem_of_getElem? (i := 129) rfl) rfl
theorem tw_610 : TW (Jvm.Cond.methodLink "ThousandLeaflets$Book" (56 : Nat) ({ cls := "ThousandLeaflets$Book", name := "withoutHidden", desc := "(I)I" } : Jvm.MethodName)) := sb_3 (List.mem_of_getElem? (i := 130) rfl) rfl
theorem tw_611 : TW (Jvm.Cond.instanceMethod ({ cls := "ThousandLeaflets$Book", name := "withoutHidden", desc := "(I)I" } : Jvm.MethodName)) := sb_3 (List.mem_of_getElem? (i := 131) rfl) rfl
theorem tw_612 : TW (Jvm.Cond.selects "ThousandLeaflets$Book" ({ cls := "ThousandLeaflets$Book", name := "withoutHidden", desc := "(I)I" } : Jvm.MethodName) ({ cls := "ThousandLeaflets$Book", name := "withoutHidden", desc := "(I)I" } : Jvm.MethodName)) := sb_3 (List.mem_of_getElem? (i := 132) rfl) rfl
theorem tw_613 : TW (Jvm.Cond.code ({ cls := "ThousandLeaflets$Book", name := "withoutHidden", desc := "(I)I" } : Jvm.MethodName) prog_3_method_7_code (4 : Nat) (Option.some Jvm.ClassFile.FieldType.int)) := sb_3 (List.mem_of_getElem? (i := 133) rfl) rfl
theorem tw_614 : TW (Jvm.Cond.methodLink "ThousandLeaflets" (146 : Nat) ({ cls := "ThousandLeaflets$Book", name := "sealOf", desc := "(II)I" } : Jvm.MethodName)) := sb_3 (List.mem_of_getElem? (i := 134) rfl) rfl
theorem tw_615 : TW (Jvm.Cond.instanceMethod ({ cls := "ThousandLeaflets$Book", name := "sealOf", desc := "(II)I" } : Jvm.MethodName)) := sb_3 (List.mem_of_getElem? (i := 135) rfl) rfl
theorem tw_616 : TW (Jvm.Cond.selects "ThousandLeaflets$Book" ({ cls := "ThousandLeaflets$Book", name := "sealOf", desc := "(II)I" } : Jvm.MethodName) ({ cls := "ThousandLeaflets$Book", name := "sealOf", desc := "(II)I" } : Jvm.MethodName)) := sb_3 (List.mem_of_getElem? (i := 136) rfl) rfl
theorem tw_617 : TW (Jvm.Cond.code ({ cls := "ThousandLeaflets$Book", name := "sealOf", desc := "(II)I" } : Jvm.MethodName) prog_3_method_9_code (3 : Nat) (Option.some Jvm.ClassFile.FieldType.int)) := sb_3 (List.mem_of_getElem? (i := 137) rfl) rfl
theorem tw_618 : TW (Jvm.Cond.methodLink "ThousandLeaflets" (150 : Nat) ({ cls := "java/lang/Integer", name := "bitCount", desc := "(I)I" } : Jvm.MethodName)) := sb_3 (List.mem_of_getElem? (i := 138) rfl) rfl
theorem tw_619 : TW (Jvm.Cond.static ({ cls := "java/lang/Integer", name := "bitCount", desc := "(I)I" } : Jvm.MethodName)) := sb_3 (List.mem_of_getElem? (i := 139) rfl) rfl
theorem tw_620 : TW (Jvm.Cond.code ({ cls := "java/lang/Integer", name := "bitCount", desc := "(I)I" } : Jvm.MethodName) prog_16_method_49_code (1 : Nat) (Option.some Jvm.ClassFile.FieldType.int)) := sb_3 (List.mem_of_getElem? (i := 140) rfl) rfl
theorem tw_621 : TW (Jvm.Cond.constant "java/lang/Integer" (265 : Nat) (1431655765 : Int32)) := sb_3 (List.mem_of_getElem? (i := 141) rfl) rfl
theorem tw_622 : TW (Jvm.Cond.constant "java/lang/Integer" (266 : Nat) (858993459 : Int32)) := sb_3 (List.mem_of_getElem? (i := 142) rfl) rfl
theorem tw_623 : TW (Jvm.Cond.constant "java/lang/Integer" (267 : Nat) (252645135 : Int32)) := sb_3 (List.mem_of_getElem? (i := 143) rfl) rfl
theorem tw_624 : TW (Jvm.Cond.methodLink "ThousandLeafletsLaw" (45 : Nat) ({ cls := "ThousandLeaflets", name := "told", desc := "(II)I" } : Jvm.MethodName)) := sb_3 (List.mem_of_getElem? (i := 144) rfl) rfl
theorem tw_625 : TW (Jvm.Cond.instanceMethod ({ cls := "ThousandLeaflets", name := "told", desc := "(II)I" } : Jvm.MethodName)) := sb_3 (List.mem_of_getElem? (i := 145) rfl) rfl
theorem tw_626 : TW (Jvm.Cond.selects "ThousandLeaflets" ({ cls := "ThousandLeaflets", name := "told", desc := "(II)I" } : Jvm.MethodName) ({ cls := "ThousandLeaflets", name := "told", desc := "(II)I" } : Jvm.MethodName)) := sb_3 (List.mem_of_getElem? (i := 146) rfl) rfl
theorem tw_627 : TW (Jvm.Cond.code ({ cls := "ThousandLeaflets", name := "told", desc := "(II)I" } : Jvm.MethodName) prog_1_method_7_code (3 : Nat) (Option.some Jvm.ClassFile.FieldType.int)) := sb_3 (List.mem_of_getElem? (i := 147) rfl) rfl
theorem tw_628 : TW (Jvm.Cond.methodLink "ThousandLeaflets" (155 : Nat) ({ cls := "ThousandLeaflets", name := "isPageOf", desc := "(II)Z" } : Jvm.MethodName)) := sb_3 (List.mem_of_getElem? (i := 148) rfl) rfl
theorem tw_630 : TW (Jvm.Cond.instanceMethod ({ cls := "ThousandLeaflets", name := "isPageOf", desc := "(II)Z" } : Jvm.MethodName)) := sb_3 (List.mem_of_getElem? (i := 150) rfl) rfl
theorem tw_631 : TW (Jvm.Cond.code ({ cls := "ThousandLeaflets", name := "isPageOf", desc := "(II)Z" } : Jvm.MethodName) prog_1_method_43_code (3 : Nat) (Option.some Jvm.ClassFile.FieldType.boolean)) := sb_3 (List.mem_of_getElem? (i := 151) rfl) rfl
theorem tw_632 : TW (Jvm.Cond.methodLink "ThousandLeaflets" (233 : Nat) ({ cls := "ThousandLeaflets$Book", name := "all", desc := "()I" } : Jvm.MethodName)) := sb_3 (List.mem_of_getElem? (i := 152) rfl) rfl
theorem tw_633 : TW (Jvm.Cond.methodLink "ThousandLeafletsLaw" (50 : Nat) ({ cls := "ThousandLeaflets", name := "comes", desc := "(IIII)I" } : Jvm.MethodName)) := sb_3 (List.mem_of_getElem? (i := 153) rfl) rfl
theorem tw_634 : TW (Jvm.Cond.instanceMethod ({ cls := "ThousandLeaflets", name := "comes", desc := "(IIII)I" } : Jvm.MethodName)) := sb_3 (List.mem_of_getElem? (i := 154) rfl) rfl
theorem tw_635 : TW (Jvm.Cond.selects "ThousandLeaflets" ({ cls := "ThousandLeaflets", name := "comes", desc := "(IIII)I" } : Jvm.MethodName) ({ cls := "ThousandLeaflets", name := "comes", desc := "(IIII)I" } : Jvm.MethodName)) := sb_3 (List.mem_of_getElem? (i := 155) rfl) rfl
theorem tw_636 : TW (Jvm.Cond.code ({ cls := "ThousandLeaflets", name := "comes", desc := "(IIII)I" } : Jvm.MethodName) prog_1_method_8_code (5 : Nat) (Option.some Jvm.ClassFile.FieldType.int)) := sb_3 (List.mem_of_getElem? (i := 156) rfl) rfl
theorem tw_637 : TW (Jvm.Cond.methodLink "ThousandLeaflets" (158 : Nat) ({ cls := "ThousandLeaflets", name := "isQuarter", desc := "(I)Z" } : Jvm.MethodName)) := sb_3 (List.mem_of_getElem? (i := 157) rfl) rfl
theorem tw_638 : TW (Jvm.Cond.static ({ cls := "ThousandLeaflets", name := "isQuarter", desc := "(I)Z" } : Jvm.MethodName)) := sb_3 (List.mem_of_getElem? (i := 158) rfl) rfl
theorem tw_639 : TW (Jvm.Cond.code ({ cls := "ThousandLeaflets", name := "isQuarter", desc := "(I)Z" } : Jvm.MethodName) prog_1_method_36_code (1 : Nat) (Option.some Jvm.ClassFile.FieldType.boolean)) := sb_3 (List.mem_of_getElem? (i := 159) rfl) rfl
theorem tw_640 : TW (Jvm.Cond.methodLink "ThousandLeaflets" (161 : Nat) ({ cls := "ThousandLeaflets$Book", name := "leafletPaper", desc := "(II)LThousandLeaflets$Paper;" } : Jvm.MethodName)) := sb_3 (List.mem_of_getElem? (i := 160) rfl) rfl
theorem tw_641 : TW (Jvm.Cond.instanceMethod ({ cls := "ThousandLeaflets$Book", name := "leafletPaper", desc := "(II)LThousandLeaflets$Paper;" } : Jvm.MethodName)) := sb_3 (List.mem_of_getElem? (i := 161) rfl) rfl
theorem tw_642 : TW (Jvm.Cond.selects "ThousandLeaflets$Book" ({ cls := "ThousandLeaflets$Book", name := "leafletPaper", desc := "(II)LThousandLeaflets$Paper;" } : Jvm.MethodName) ({ cls := "ThousandLeaflets$Book", name := "leafletPaper", desc := "(II)LThousandLeaflets$Paper;" } : Jvm.MethodName)) := sb_3 (List.mem_of_getElem? (i := 162) rfl) rfl
theorem tw_643 : TW (Jvm.Cond.code ({ cls := "ThousandLeaflets$Book", name := "leafletPaper", desc := "(II)LThousandLeaflets$Paper;" } : Jvm.MethodName) prog_3_method_17_code (6 : Nat) (Option.some (Jvm.ClassFile.FieldType.object "ThousandLeaflets$Paper"))) := sb_3 (List.mem_of_getElem? (i := 163) rfl) rfl
theorem tw_644 : TW (Jvm.Cond.methodLink "ThousandLeaflets$Book" (98 : Nat) ({ cls := "ThousandLeaflets$Book", name := "pagesOf", desc := "(I)I" } : Jvm.MethodName)) := sb_3 (List.mem_of_getElem? (i := 164) rfl) rfl
theorem tw_645 : TW (Jvm.Cond.methodLink "ThousandLeaflets$Book" (101 : Nat) ({ cls := "ThousandLeaflets$Book", name := "sumOf", desc := "(I)I" } : Jvm.MethodName)) := sb_3 (List.mem_of_getElem? (i := 165) rfl) rfl
theorem tw_646 : TW (Jvm.Cond.constant "ThousandLeaflets$Book" (104 : Nat) (65280 : Int32)) := sb_3 (List.mem_of_getElem? (i := 166) rfl) rfl
theorem tw_647 : TW (Jvm.Cond.methodLink "ThousandLeaflets$Book" (105 : Nat) ({ cls := "ThousandLeaflets$Book", name := "sealOf", desc := "(II)I" } : Jvm.MethodName)) := sb_3 (List.mem_of_getElem? (i := 167) rfl) rfl
theorem tw_648 : TW (Jvm.Cond.methodLink "ThousandLeaflets$Book" (108 : Nat) ({ cls := "ThousandLeaflets$Book", name := "paperOf", desc := "(IIIII)LThousandLeaflets$Paper;" } : Jvm.MethodName)) := sb_3 (List.mem_of_getElem? (i := 168) rfl) rfl
theorem tw_649 : TW (Jvm.Cond.instanceMethod ({ cls := "ThousandLeaflets$Book", name := "paperOf", desc := "(IIIII)LThousandLeaflets$Paper;" } : Jvm.MethodName)) := sb_3 (List.mem_of_getElem? (i := 169) rfl) rfl
theorem tw_650 : TW (Jvm.Cond.selects "ThousandLeaflets$Book" ({ cls := "ThousandLeaflets$Book", name := "paperOf", desc := "(IIIII)LThousandLeaflets$Paper;" } : Jvm.MethodName) ({ cls := "ThousandLeaflets$Book", name := "paperOf", desc := "(IIIII)LThousandLeaflets$Paper;" } : Jvm.MethodName)) := sb_3 (List.mem_of_getElem? (i := 170) rfl) rfl
theorem tw_651 : TW (Jvm.Cond.code ({ cls := "ThousandLeaflets$Book", name := "paperOf", desc := "(IIIII)LThousandLeaflets$Paper;" } : Jvm.MethodName) prog_3_method_18_code (6 : Nat) (Option.some (Jvm.ClassFile.FieldType.object "ThousandLeaflets$Paper"))) := sb_3 (List.mem_of_getElem? (i := 171) rfl) rfl
theorem tw_652 : TW (Jvm.Cond.classLink "ThousandLeaflets$Book" (112 : Nat) "ThousandLeaflets$Paper") := sb_3 (List.mem_of_getElem? (i := 172) rfl) rfl
theorem tw_653 : TW (Jvm.Cond.instantiable "ThousandLeaflets$Paper" (7 : Nat)) := sb_3 (List.mem_of_getElem? (i := 173) rfl) rfl
theorem tw_654 : TW (Jvm.Cond.methodLink "ThousandLeaflets$Book" (114 : Nat) ({ cls := "ThousandLeaflets$Paper", name := "<init>", desc := "(IIIIIII)V" } : Jvm.MethodName)) := sb_3 (List.mem_of_getElem? (i := 174) rfl) rfl
theorem tw_655 : TW (Jvm.Cond.instanceMethod ({ cls := "ThousandLeaflets$Paper", name := "<init>", desc := "(IIIIIII)V" } : Jvm.MethodName)) := sb_3 (List.mem_of_getElem? (i := 175) rfl) rfl
theorem tw_656 : TW (Jvm.Cond.code ({ cls := "ThousandLeaflets$Paper", name := "<init>", desc := "(IIIIIII)V" } : Jvm.MethodName) prog_9_method_1_code (8 : Nat) (Option.none : Option Jvm.ClassFile.FieldType)) := sb_3 (List.mem_of_getElem? (i := 176) rfl) rfl
theorem tw_657 : TW (Jvm.Cond.methodLink "ThousandLeaflets$Paper" (3 : Nat) ({ cls := "java/lang/Object", name := "<init>", desc := "()V" } : Jvm.MethodName)) := sb_3 (List.mem_of_getElem? (i := 177) rfl) rfl
theorem tw_658 : TW (Jvm.Cond.fieldLink "ThousandLeaflets$Paper" (9 : Nat) "ThousandLeaflets$Paper" "book" "I") := sb_3 (List.mem_of_getElem? (i := 178) rfl) rfl
theorem tw_659 : TW (Jvm.Cond.fieldLink "ThousandLeaflets$Heap" (21 : Nat) "ThousandLeaflets$Paper" "book" "I") := sb_3 (List.mem_of_getElem? (i := 179) rfl) rfl
theorem tw_660 : TW (Jvm.Cond.fieldLink "ThousandLeaflets$Ways" (45 : Nat) "ThousandLeaflets$Paper" "book" "I") := sb_3 (List.mem_of_getElem? (i := 180) rfl) rfl
theorem tw_661 : TW (Jvm.Cond.fieldLink "ThousandLeaflets" (191 : Nat) "ThousandLeaflets$Paper" "book" "I") := sb_3 (List.mem_of_getElem? (i := 181) rfl) rfl
theorem tw_662 : TW (Jvm.Cond.fieldLink "ThousandLeaflets$Paper" (15 : Nat) "ThousandLeaflets$Paper" "number" "I") := sb_3 (List.mem_of_getElem? (i := 182) rfl) rfl
theorem tw_663 : TW (Jvm.Cond.fieldLink "ThousandLeaflets" (194 : Nat) "ThousandLeaflets$Paper" "number" "I") := sb_3 (List.mem_of_getElem? (i := 183) rfl) rfl
theorem tw_664 : TW (Jvm.Cond.fieldLink "ThousandLeaflets$Paper" (18 : Nat) "ThousandLeaflets$Paper" "sum" "I") := sb_3 (List.mem_of_getElem? (i := 184) rfl) rfl
theorem tw_665 : TW (Jvm.Cond.fieldLink "ThousandLeaflets" (197 : Nat) "ThousandLeaflets$Paper" "sum" "I") := sb_3 (List.mem_of_getElem? (i := 185) rfl) rfl
theorem tw_666 : TW (Jvm.Cond.fieldLink "ThousandLeaflets$Paper" (21 : Nat) "ThousandLeaflets$Paper" "bytes" "I") := sb_3 (List.mem_of_getElem? (i := 186) rfl) rfl
theorem tw_667 : TW (Jvm.Cond.fieldLink "ThousandLeaflets" (200 : Nat) "ThousandLeaflets$Paper" "bytes" "I") := sb_3 (List.mem_of_getElem? (i := 187) rfl) rfl
theorem tw_668 : TW (Jvm.Cond.fieldLink "ThousandLeaflets$Paper" (24 : Nat) "ThousandLeaflets$Paper" "seal" "I") := sb_3 (List.mem_of_getElem? (i := 188) rfl) rfl
theorem tw_669 : TW (Jvm.Cond.fieldLink "ThousandLeaflets" (203 : Nat) "ThousandLeaflets$Paper" "seal" "I") := sb_3 (List.mem_of_getElem? (i := 189) rfl) rfl
theorem tw_670 : TW (Jvm.Cond.fieldLink "ThousandLeaflets$Paper" (27 : Nat) "ThousandLeaflets$Paper" "pages0" "I") := sb_3 (List.mem_of_getElem? (i := 190) rfl) rfl
theorem tw_671 : TW (Jvm.Cond.fieldLink "ThousandLeaflets$Paper" (30 : Nat) "ThousandLeaflets$Paper" "pages1" "I") := sb_3 (List.mem_of_getElem? (i := 191) rfl) rfl
theorem tw_672 : TW (Jvm.Cond.laysFinal "ThousandLeaflets$Paper" "ThousandLeaflets$Paper" "book" "I") := sb_3 (List.mem_of_getElem? (i := 192) rfl) rfl
theorem tw_674 : TW (Jvm.Cond.laysFinal "ThousandLeaflets$Paper" "ThousandLeaflets$Paper" "number" "I") := sb_3 (List.mem_of_getElem? (i := 194) rfl) rfl
theorem tw_676 : TW (Jvm.Cond.laysFinal "ThousandLeaflets$Paper" "ThousandLeaflets$Paper" "sum" "I") := sb_3 (List.mem_of_getElem? (i := 196) rfl) rfl
theorem tw_678 : TW (Jvm.Cond.laysFinal "ThousandLeaflets$Paper" "ThousandLeaflets$Paper" "bytes" "I") := sb_3 (List.mem_of_getElem? (i := 198) rfl) rfl
theorem tw_680 : TW (Jvm.Cond.laysFinal "ThousandLeaflets$Paper" "ThousandLeaflets$Paper" "seal" "I") := sb_3 (List.mem_of_getElem? (i := 200) rfl) rfl
theorem tw_682 : TW (Jvm.Cond.laysFinal "ThousandLeaflets$Paper" "ThousandLeaflets$Paper" "pages0" "I") := sb_3 (List.mem_of_getElem? (i := 202) rfl) rfl
theorem tw_684 : TW (Jvm.Cond.laysFinal "ThousandLeaflets$Paper" "ThousandLeaflets$Paper" "pages1" "I") := sb_3 (List.mem_of_getElem? (i := 204) rfl) rfl
theorem tw_687 : TW (Jvm.Cond.methodLink "ThousandLeaflets" (165 : Nat) ({ cls := "ThousandLeaflets$Heap", name := "put", desc := "(LThousandLeaflets$Paper;)I" } : Jvm.MethodName)) := sb_3 (List.mem_of_getElem? (i := 207) rfl) rfl
theorem tw_688 : TW (Jvm.Cond.instanceMethod ({ cls := "ThousandLeaflets$Heap", name := "put", desc := "(LThousandLeaflets$Paper;)I" } : Jvm.MethodName)) := sb_3 (List.mem_of_getElem? (i := 208) rfl) rfl
theorem tw_689 : TW (Jvm.Cond.selects "ThousandLeaflets$Heap" ({ cls := "ThousandLeaflets$Heap", name := "put", desc := "(LThousandLeaflets$Paper;)I" } : Jvm.MethodName) ({ cls := "ThousandLeaflets$Heap", name := "put", desc := "(LThousandLeaflets$Paper;)I" } : Jvm.MethodName)) := sb_3 (List.mem_of_getElem? (i := 209) rfl) rfl
theorem tw_690 : TW (Jvm.Cond.code ({ cls := "ThousandLeaflets$Heap", name := "put", desc := "(LThousandLeaflets$Paper;)I" } : Jvm.MethodName) prog_8_method_3_code (2 : Nat) (Option.some Jvm.ClassFile.FieldType.int)) := sb_3 (List.mem_of_getElem? (i := 210) rfl) rfl
theorem tw_691 : TW (Jvm.Cond.methodLink "ThousandLeaflets$Heap" (24 : Nat) ({ cls := "ThousandLeaflets$Heap", name := "unnamed", desc := "()I" } : Jvm.MethodName)) := sb_3 (List.mem_of_getElem? (i := 211) rfl) rfl
theorem tw_693 : TW (Jvm.Cond.instanceMethod ({ cls := "ThousandLeaflets$Heap", name := "unnamed", desc := "()I" } : Jvm.MethodName)) := sb_3 (List.mem_of_getElem? (i := 213) rfl) rfl
theorem tw_694 : TW (Jvm.Cond.code ({ cls := "ThousandLeaflets$Heap", name := "unnamed", desc := "()I" } : Jvm.MethodName) prog_8_method_4_code (4 : Nat) (Option.some Jvm.ClassFile.FieldType.int)) := sb_3 (List.mem_of_getElem? (i := 214) rfl) rfl
theorem tw_695 : TW (Jvm.Cond.methodLink "ThousandLeafletsLaw" (55 : Nat) ({ cls := "ThousandLeaflets", name := "slip", desc := "(IIII)I" } : Jvm.MethodName)) := sb_3 (List.mem_of_getElem? (i := 215) rfl) rfl
theorem tw_696 : TW (Jvm.Cond.instanceMethod ({ cls := "ThousandLeaflets", name := "slip", desc := "(IIII)I" } : Jvm.MethodName)) := sb_3 (List.mem_of_getElem? (i := 216) rfl) rfl
theorem tw_697 : TW (Jvm.Cond.selects "ThousandLeaflets" ({ cls := "ThousandLeaflets", name := "slip", desc := "(IIII)I" } : Jvm.MethodName) ({ cls := "ThousandLeaflets", name := "slip", desc := "(IIII)I" } : Jvm.MethodName)) := sb_3 (List.mem_of_getElem? (i := 217) rfl) rfl
theorem tw_698 : TW (Jvm.Cond.code ({ cls := "ThousandLeaflets", name := "slip", desc := "(IIII)I" } : Jvm.MethodName) prog_1_method_9_code (7 : Nat) (Option.some Jvm.ClassFile.FieldType.int)) := sb_3 (List.mem_of_getElem? (i := 218) rfl) rfl
theorem tw_699 : TW (Jvm.Cond.methodLink "ThousandLeaflets" (169 : Nat) ({ cls := "ThousandLeaflets", name := "send", desc := "(ILThousandLeaflets$Book;III)I" } : Jvm.MethodName)) := sb_3 (List.mem_of_getElem? (i := 219) rfl) rfl
theorem tw_701 : TW (Jvm.Cond.instanceMethod ({ cls := "ThousandLeaflets", name := "send", desc := "(ILThousandLeaflets$Book;III)I" } : Jvm.MethodName)) := sb_3 (List.mem_of_getElem? (i := 221) rfl) rfl
theorem tw_702 : TW (Jvm.Cond.code ({ cls := "ThousandLeaflets", name := "send", desc := "(ILThousandLeaflets$Book;III)I" } : Jvm.MethodName) prog_1_method_46_code (6 : Nat) (Option.some Jvm.ClassFile.FieldType.int)) := sb_3 (List.mem_of_getElem? (i := 222) rfl) rfl
theorem tw_703 : TW (Jvm.Cond.methodLink "ThousandLeaflets" (360 : Nat) ({ cls := "ThousandLeaflets$Book", name := "paperOf", desc := "(IIIII)LThousandLeaflets$Paper;" } : Jvm.MethodName)) := sb_3 (List.mem_of_getElem? (i := 223) rfl) rfl
theorem tw_704 : TW (Jvm.Cond.methodLink "ThousandLeafletsLaw" (59 : Nat) ({ cls := "ThousandLeaflets", name := "forged", desc := "(IIIII)I" } : Jvm.MethodName)) := sb_3 (List.mem_of_getElem? (i := 224) rfl) rfl
theorem tw_705 : TW (Jvm.Cond.instanceMethod ({ cls := "ThousandLeaflets", name := "forged", desc := "(IIIII)I" } : Jvm.MethodName)) := sb_3 (List.mem_of_getElem? (i := 225) rfl) rfl
theorem tw_706 : TW (Jvm.Cond.selects "ThousandLeaflets" ({ cls := "ThousandLeaflets", name := "forged", desc := "(IIIII)I" } : Jvm.MethodName) ({ cls := "ThousandLeaflets", name := "forged", desc := "(IIIII)I" } : Jvm.MethodName)) := sb_3 (List.mem_of_getElem? (i := 226) rfl) rfl
theorem tw_707 : TW (Jvm.Cond.code ({ cls := "ThousandLeaflets", name := "forged", desc := "(IIIII)I" } : Jvm.MethodName) prog_1_method_10_code (6 : Nat) (Option.some Jvm.ClassFile.FieldType.int)) := sb_3 (List.mem_of_getElem? (i := 227) rfl) rfl
theorem tw_708 : TW (Jvm.Cond.methodLink "ThousandLeafletsLaw" (64 : Nat) ({ cls := "ThousandLeaflets", name := "nameless", desc := "(III)I" } : Jvm.MethodName)) := sb_3 (List.mem_of_getElem? (i := 228) rfl) rfl
theorem tw_709 : TW (Jvm.Cond.instanceMethod ({ cls := "ThousandLeaflets", name := "nameless", desc := "(III)I" } : Jvm.MethodName)) := sb_3 (List.mem_of_getElem? (i := 229) rfl) rfl
theorem tw_710 : TW (Jvm.Cond.selects "ThousandLeaflets" ({ cls := "ThousandLeaflets", name := "nameless", desc := "(III)I" } : Jvm.MethodName) ({ cls := "ThousandLeaflets", name := "nameless", desc := "(III)I" } : Jvm.MethodName)) := sb_3 (List.mem_of_getElem? (i := 230) rfl) rfl
theorem tw_711 : TW (Jvm.Cond.code ({ cls := "ThousandLeaflets", name := "nameless", desc := "(III)I" } : Jvm.MethodName) prog_1_method_11_code (6 : Nat) (Option.some Jvm.ClassFile.FieldType.int)) := sb_3 (List.mem_of_getElem? (i := 231) rfl) rfl
theorem tw_712 : TW (Jvm.Cond.classLink "ThousandLeaflets" (180 : Nat) "ThousandLeaflets$Paper") := sb_3 (List.mem_of_getElem? (i := 232) rfl) rfl
theorem tw_713 : TW (Jvm.Cond.methodLink "ThousandLeaflets" (182 : Nat) ({ cls := "ThousandLeaflets$Paper", name := "<init>", desc := "(IIIIIII)V" } : Jvm.MethodName)) := sb_3 (List.mem_of_getElem? (i := 233) rfl) rfl
theorem tw_714 : TW (Jvm.Cond.methodLink "ThousandLeafletsLaw" (78 : Nat) ({ cls := "ThousandLeaflets", name := "away", desc := "(II)Z" } : Jvm.MethodName)) := sb_3 (List.mem_of_getElem? (i := 234) rfl) rfl
theorem tw_715 : TW (Jvm.Cond.instanceMethod ({ cls := "ThousandLeaflets", name := "away", desc := "(II)Z" } : Jvm.MethodName)) := sb_3 (List.mem_of_getElem? (i := 235) rfl) rfl
theorem tw_716 : TW (Jvm.Cond.selects "ThousandLeaflets" ({ cls := "ThousandLeaflets", name := "away", desc := "(II)Z" } : Jvm.MethodName) ({ cls := "ThousandLeaflets", name := "away", desc := "(II)Z" } : Jvm.MethodName)) := sb_3 (List.mem_of_getElem? (i := 236) rfl) rfl
theorem tw_717 : TW (Jvm.Cond.code ({ cls := "ThousandLeaflets", name := "away", desc := "(II)Z" } : Jvm.MethodName) prog_1_method_13_code (3 : Nat) (Option.some Jvm.ClassFile.FieldType.boolean)) := sb_3 (List.mem_of_getElem? (i := 237) rfl) rfl
theorem tw_718 : TW (Jvm.Cond.methodLink "ThousandLeaflets" (185 : Nat) ({ cls := "ThousandLeaflets", name := "paperAt", desc := "(II)LThousandLeaflets$Paper;" } : Jvm.MethodName)) := sb_3 (List.mem_of_getElem? (i := 238) rfl) rfl
theorem tw_720 : TW (Jvm.Cond.instanceMethod ({ cls := "ThousandLeaflets", name := "paperAt", desc := "(II)LThousandLeaflets$Paper;" } : Jvm.MethodName)) := sb_4 (List.mem_of_getElem? (i := 0) rfl) rfl
theorem tw_721 : TW (Jvm.Cond.code ({ cls := "ThousandLeaflets", name := "paperAt", desc := "(II)LThousandLeaflets$Paper;" } : Jvm.MethodName) prog_1_method_45_code (3 : Nat) (Option.some (Jvm.ClassFile.FieldType.object "ThousandLeaflets$Paper"))) := sb_4 (List.mem_of_getElem? (i := 1) rfl) rfl
theorem tw_722 : TW (Jvm.Cond.methodLink "ThousandLeaflets" (337 : Nat) ({ cls := "ThousandLeaflets$Heap", name := "at", desc := "(I)LThousandLeaflets$Paper;" } : Jvm.MethodName)) := sb_4 (List.mem_of_getElem? (i := 2) rfl) rfl
theorem tw_723 : TW (Jvm.Cond.instanceMethod ({ cls := "ThousandLeaflets$Heap", name := "at", desc := "(I)LThousandLeaflets$Paper;" } : Jvm.MethodName)) := sb_4 (List.mem_of_getElem? (i := 3) rfl) rfl
theorem tw_724 : TW (Jvm.Cond.selects "ThousandLeaflets$Heap" ({ cls := "ThousandLeaflets$Heap", name := "at", desc := "(I)LThousandLeaflets$Paper;" } : Jvm.MethodName) ({ cls := "ThousandLeaflets$Heap", name := "at", desc := "(I)LThousandLeaflets$Paper;" } : Jvm.MethodName)) := sb_4 (List.mem_of_getElem? (i := 4) rfl) rfl
theorem tw_725 : TW (Jvm.Cond.code ({ cls := "ThousandLeaflets$Heap", name := "at", desc := "(I)LThousandLeaflets$Paper;" } : Jvm.MethodName) prog_8_method_2_code (2 : Nat) (Option.some (Jvm.ClassFile.FieldType.object "ThousandLeaflets$Paper"))) := sb_4 (List.mem_of_getElem? (i := 5) rfl) rfl
theorem tw_726 : TW (Jvm.Cond.methodLink "ThousandLeaflets" (210 : Nat) ({ cls := "ThousandLeaflets$Heap", name := "drop", desc := "(I)V" } : Jvm.MethodName)) := sb_4 (List.mem_of_getElem? (i := 6) rfl) rfl
theorem tw_727 : TW (Jvm.Cond.instanceMethod ({ cls := "ThousandLeaflets$Heap", name := "drop", desc := "(I)V" } : Jvm.MethodName)) := sb_4 (List.mem_of_getElem? (i := 7) rfl) rfl
theorem tw_728 : TW (Jvm.Cond.selects "ThousandLeaflets$Heap" ({ cls := "ThousandLeaflets$Heap", name := "drop", desc := "(I)V" } : Jvm.MethodName) ({ cls := "ThousandLeaflets$Heap", name := "drop", desc := "(I)V" } : Jvm.MethodName)) := sb_4 (List.mem_of_getElem? (i := 8) rfl) rfl
theorem tw_729 : TW (Jvm.Cond.code ({ cls := "ThousandLeaflets$Heap", name := "drop", desc := "(I)V" } : Jvm.MethodName) prog_8_method_8_code (3 : Nat) (Option.none : Option Jvm.ClassFile.FieldType)) := sb_4 (List.mem_of_getElem? (i := 9) rfl) rfl
theorem tw_730 : TW (Jvm.Cond.methodLink "ThousandLeafletsLaw" (82 : Nat) ({ cls := "ThousandLeaflets", name := "peels", desc := "(IIII)I" } : Jvm.MethodName)) := sb_4 (List.mem_of_getElem? (i := 10) rfl) rfl
theorem tw_731 : TW (Jvm.Cond.instanceMethod ({ cls := "ThousandLeaflets", name := "peels", desc := "(IIII)I" } : Jvm.MethodName)) := sb_4 (List.mem_of_getElem? (i := 11) rfl) rfl
theorem tw_732 : TW (Jvm.Cond.selects "ThousandLeaflets" ({ cls := "ThousandLeaflets", name := "peels", desc := "(IIII)I" } : Jvm.MethodName) ({ cls := "ThousandLeaflets", name := "peels", desc := "(IIII)I" } : Jvm.MethodName)) := sb_4 (List.mem_of_getElem? (i := 12) rfl) rfl
theorem tw_733 : TW (Jvm.Cond.code ({ cls := "ThousandLeaflets", name := "peels", desc := "(IIII)I" } : Jvm.MethodName) prog_1_method_14_code (7 : Nat) (Option.some Jvm.ClassFile.FieldType.int)) := sb_4 (List.mem_of_getElem? (i := 13) rfl) rfl
theorem tw_734 : TW (Jvm.Cond.methodLink "ThousandLeaflets" (213 : Nat) ({ cls := "ThousandLeaflets", name := "isOctet", desc := "(I)Z" } : Jvm.MethodName)) := sb_4 (List.mem_of_getElem? (i := 14) rfl) rfl
theorem tw_735 : TW (Jvm.Cond.static ({ cls := "ThousandLeaflets", name := "isOctet", desc := "(I)Z" } : Jvm.MethodName)) := sb_4 (List.mem_of_getElem? (i := 15) rfl) rfl
theorem tw_736 : TW (Jvm.Cond.code ({ cls := "ThousandLeaflets", name := "isOctet", desc := "(I)Z" } : Jvm.MethodName) prog_1_method_37_code (1 : Nat) (Option.some Jvm.ClassFile.FieldType.boolean)) := sb_4 (List.mem_of_getElem? (i := 16) rfl) rfl
theorem tw_737 : TW (Jvm.Cond.methodLink "ThousandLeaflets" (216 : Nat) ({ cls := "ThousandLeaflets", name := "gather", desc := "(III)LThousandLeaflets$Equations;" } : Jvm.MethodName)) := sb_4 (List.mem_of_getElem? (i := 17) rfl) rfl
theorem tw_739 : TW (Jvm.Cond.instanceMethod ({ cls := "ThousandLeaflets", name := "gather", desc := "(III)LThousandLeaflets$Equations;" } : Jvm.MethodName)) := sb_4 (List.mem_of_getElem? (i := 19) rfl) rfl
theorem tw_740 : TW (Jvm.Cond.code ({ cls := "ThousandLeaflets", name := "gather", desc := "(III)LThousandLeaflets$Equations;" } : Jvm.MethodName) prog_1_method_49_code (8 : Nat) (Option.some (Jvm.ClassFile.FieldType.object "ThousandLeaflets$Equations"))) := sb_4 (List.mem_of_getElem? (i := 20) rfl) rfl
theorem tw_741 : TW (Jvm.Cond.methodLink "ThousandLeaflets" (371 : Nat) ({ cls := "ThousandLeaflets$Equations", name := "startWith", desc := "(LThousandLeaflets$Book;)V" } : Jvm.MethodName)) := sb_4 (List.mem_of_getElem? (i := 21) rfl) rfl
theorem tw_742 : TW (Jvm.Cond.instanceMethod ({ cls := "ThousandLeaflets$Equations", name := "startWith", desc := "(LThousandLeaflets$Book;)V" } : Jvm.MethodName)) := sb_4 (List.mem_of_getElem? (i := 22) rfl) rfl
theorem tw_743 : TW (Jvm.Cond.selects "ThousandLeaflets$Equations" ({ cls := "ThousandLeaflets$Equations", name := "startWith", desc := "(LThousandLeaflets$Book;)V" } : Jvm.MethodName) ({ cls := "ThousandLeaflets$Equations", name := "startWith", desc := "(LThousandLeaflets$Book;)V" } : Jvm.MethodName)) := sb_4 (List.mem_of_getElem? (i := 23) rfl) rfl
theorem tw_744 : TW (Jvm.Cond.code ({ cls := "ThousandLeaflets$Equations", name := "startWith", desc := "(LThousandLeaflets$Book;)V" } : Jvm.MethodName) prog_7_method_2_code (3 : Nat) (Option.none : Option Jvm.ClassFile.FieldType)) := sb_4 (List.mem_of_getElem? (i := 24) rfl) rfl
theorem tw_745 : TW (Jvm.Cond.methodLink "ThousandLeaflets$Equations" (46 : Nat) ({ cls := "ThousandLeaflets$Equations", name := "add", desc := "(II)V" } : Jvm.MethodName)) := sb_4 (List.mem_of_getElem? (i := 25) rfl) rfl
theorem tw_746 : TW (Jvm.Cond.instanceMethod ({ cls := "ThousandLeaflets$Equations", name := "add", desc := "(II)V" } : Jvm.MethodName)) := sb_4 (List.mem_of_getElem? (i := 26) rfl) rfl
theorem tw_747 : TW (Jvm.Cond.selects "ThousandLeaflets$Equations" ({ cls := "ThousandLeaflets$Equations", name := "add", desc := "(II)V" } : Jvm.MethodName) ({ cls := "ThousandLeaflets$Equations", name := "add", desc := "(II)V" } : Jvm.MethodName)) := sb_4 (List.mem_of_getElem? (i := 27) rfl) rfl
theorem tw_748 : TW (Jvm.Cond.code ({ cls := "ThousandLeaflets$Equations", name := "add", desc := "(II)V" } : Jvm.MethodName) prog_7_method_3_code (3 : Nat) (Option.none : Option Jvm.ClassFile.FieldType)) := sb_4 (List.mem_of_getElem? (i := 28) rfl) rfl
theorem tw_749 : TW (Jvm.Cond.methodLink "ThousandLeaflets" (365 : Nat) ({ cls := "ThousandLeaflets$Paper", name := "hasOctet", desc := "(I)Z" } : Jvm.MethodName)) := sb_4 (List.mem_of_getElem? (i := 29) rfl) rfl
theorem tw_750 : TW (Jvm.Cond.instanceMethod ({ cls := "ThousandLeaflets$Paper", name := "hasOctet", desc := "(I)Z" } : Jvm.MethodName)) := sb_4 (List.mem_of_getElem? (i := 30) rfl) rfl
theorem tw_751 : TW (Jvm.Cond.selects "ThousandLeaflets$Paper" ({ cls := "ThousandLeaflets$Paper", name := "hasOctet", desc := "(I)Z" } : Jvm.MethodName) ({ cls := "ThousandLeaflets$Paper", name := "hasOctet", desc := "(I)Z" } : Jvm.MethodName)) := sb_4 (List.mem_of_getElem? (i := 31) rfl) rfl
theorem tw_752 : TW (Jvm.Cond.code ({ cls := "ThousandLeaflets$Paper", name := "hasOctet", desc := "(I)Z" } : Jvm.MethodName) prog_9_method_3_code (2 : Nat) (Option.some Jvm.ClassFile.FieldType.boolean)) := sb_4 (List.mem_of_getElem? (i := 32) rfl) rfl
theorem tw_753 : TW (Jvm.Cond.methodLink "ThousandLeaflets" (375 : Nat) ({ cls := "ThousandLeaflets$Paper", name := "equation", desc := "(II)I" } : Jvm.MethodName)) := sb_4 (List.mem_of_getElem? (i := 33) rfl) rfl
theorem tw_754 : TW (Jvm.Cond.instanceMethod ({ cls := "ThousandLeaflets$Paper", name := "equation", desc := "(II)I" } : Jvm.MethodName)) := sb_4 (List.mem_of_getElem? (i := 34) rfl) rfl
theorem tw_755 : TW (Jvm.Cond.selects "ThousandLeaflets$Paper" ({ cls := "ThousandLeaflets$Paper", name := "equation", desc := "(II)I" } : Jvm.MethodName) ({ cls := "ThousandLeaflets$Paper", name := "equation", desc := "(II)I" } : Jvm.MethodName)) := sb_4 (List.mem_of_getElem? (i := 35) rfl) rfl
theorem tw_756 : TW (Jvm.Cond.code ({ cls := "ThousandLeaflets$Paper", name := "equation", desc := "(II)I" } : Jvm.MethodName) prog_9_method_4_code (3 : Nat) (Option.some Jvm.ClassFile.FieldType.int)) := sb_4 (List.mem_of_getElem? (i := 36) rfl) rfl
theorem tw_757 : TW (Jvm.Cond.methodLink "ThousandLeaflets$Paper" (33 : Nat) ({ cls := "ThousandLeaflets$Paper", name := "pagesBy", desc := "(I)I" } : Jvm.MethodName)) := sb_4 (List.mem_of_getElem? (i := 37) rfl) rfl
theorem tw_758 : TW (Jvm.Cond.instanceMethod ({ cls := "ThousandLeaflets$Paper", name := "pagesBy", desc := "(I)I" } : Jvm.MethodName)) := sb_4 (List.mem_of_getElem? (i := 38) rfl) rfl
theorem tw_759 : TW (Jvm.Cond.selects "ThousandLeaflets$Paper" ({ cls := "ThousandLeaflets$Paper", name := "pagesBy", desc := "(I)I" } : Jvm.MethodName) ({ cls := "ThousandLeaflets$Paper", name := "pagesBy", desc := "(I)I" } : Jvm.MethodName)) := sb_4 (List.mem_of_getElem? (i := 39) rfl) rfl
theorem tw_760 : TW (Jvm.Cond.code ({ cls := "ThousandLeaflets$Paper", name := "pagesBy", desc := "(I)I" } : Jvm.MethodName) prog_9_method_2_code (2 : Nat) (Option.some Jvm.ClassFile.FieldType.int)) := sb_4 (List.mem_of_getElem? (i := 40) rfl) rfl
theorem tw_761 : TW (Jvm.Cond.methodLink "ThousandLeaflets" (378 : Nat) ({ cls := "ThousandLeaflets$Equations", name := "add", desc := "(II)V" } : Jvm.MethodName)) := sb_4 (List.mem_of_getElem? (i := 41) rfl) rfl
theorem tw_762 : TW (Jvm.Cond.methodLink "ThousandLeaflets" (220 : Nat) ({ cls := "ThousandLeaflets$Equations", name := "peel", desc := "()I" } : Jvm.MethodName)) := sb_4 (List.mem_of_getElem? (i := 42) rfl) rfl
theorem tw_763 : TW (Jvm.Cond.instanceMethod ({ cls := "ThousandLeaflets$Equations", name := "peel", desc := "()I" } : Jvm.MethodName)) := sb_4 (List.mem_of_getElem? (i := 43) rfl) rfl
theorem tw_764 : TW (Jvm.Cond.selects "ThousandLeaflets$Equations" ({ cls := "ThousandLeaflets$Equations", name := "peel", desc := "()I" } : Jvm.MethodName) ({ cls := "ThousandLeaflets$Equations", name := "peel", desc := "()I" } : Jvm.MethodName)) := sb_4 (List.mem_of_getElem? (i := 44) rfl) rfl
theorem tw_765 : TW (Jvm.Cond.code ({ cls := "ThousandLeaflets$Equations", name := "peel", desc := "()I" } : Jvm.MethodName) prog_7_method_7_code (6 : Nat) (Option.some Jvm.ClassFile.FieldType.int)) := sb_4 (List.mem_of_getElem? (i := 45) rfl) rfl
theorem tw_766 : TW (Jvm.Cond.methodLink "ThousandLeaflets$Equations" (58 : Nat) ({ cls := "ThousandLeaflets$Equations", name := "firstWithOneUnknown", desc := "(I)I" } : Jvm.MethodName)) := sb_4 (List.mem_of_getElem? (i := 46) rfl) rfl
theorem tw_768 : TW (Jvm.Cond.instanceMethod ({ cls := "ThousandLeaflets$Equations", name := "firstWithOneUnknown", desc := "(I)I" } : Jvm.MethodName)) := sb_4 (List.mem_of_getElem? (i := 48) rfl) rfl
theorem tw_769 : TW (Jvm.Cond.code ({ cls := "ThousandLeaflets$Equations", name := "firstWithOneUnknown", desc := "(I)I" } : Jvm.MethodName) prog_7_method_8_code (4 : Nat) (Option.some Jvm.ClassFile.FieldType.int)) := sb_4 (List.mem_of_getElem? (i := 49) rfl) rfl
theorem tw_770 : TW (Jvm.Cond.methodLink "ThousandLeaflets$Equations" (54 : Nat) ({ cls := "ThousandLeaflets$Equations", name := "unknownOf", desc := "(II)I" } : Jvm.MethodName)) := sb_4 (List.mem_of_getElem? (i := 50) rfl) rfl
theorem tw_772 : TW (Jvm.Cond.instanceMethod ({ cls := "ThousandLeaflets$Equations", name := "unknownOf", desc := "(II)I" } : Jvm.MethodName)) := sb_4 (List.mem_of_getElem? (i := 52) rfl) rfl
theorem tw_773 : TW (Jvm.Cond.code ({ cls := "ThousandLeaflets$Equations", name := "unknownOf", desc := "(II)I" } : Jvm.MethodName) prog_7_method_5_code (3 : Nat) (Option.some Jvm.ClassFile.FieldType.int)) := sb_4 (List.mem_of_getElem? (i := 53) rfl) rfl
theorem tw_774 : TW (Jvm.Cond.constant "ThousandLeaflets$Equations" (53 : Nat) (1048575 : Int32)) := sb_4 (List.mem_of_getElem? (i := 54) rfl) rfl
theorem tw_775 : TW (Jvm.Cond.methodLinkNest "ThousandLeaflets$Equations" (62 : Nat) ({ cls := "ThousandLeaflets", name := "lowestPlace", desc := "(I)I" } : Jvm.MethodName) "ThousandLeaflets") := sb_4 (List.mem_of_getElem? (i := 55) rfl) rfl
theorem tw_776 : TW (Jvm.Cond.static ({ cls := "ThousandLeaflets", name := "lowestPlace", desc := "(I)I" } : Jvm.MethodName)) := sb_4 (List.mem_of_getElem? (i := 56) rfl) rfl
theorem tw_777 : TW (Jvm.Cond.code ({ cls := "ThousandLeaflets", name := "lowestPlace", desc := "(I)I" } : Jvm.MethodName) prog_1_method_62_code (1 : Nat) (Option.some Jvm.ClassFile.FieldType.int)) := sb_4 (List.mem_of_getElem? (i := 57) rfl) rfl
theorem tw_778 : TW (Jvm.Cond.methodLink "ThousandLeaflets$Equations" (65 : Nat) ({ cls := "ThousandLeaflets$Equations", name := "restOf", desc := "(II)I" } : Jvm.MethodName)) := sb_4 (List.mem_of_getElem? (i := 58) rfl) rfl
theorem tw_780 : TW (Jvm.Cond.instanceMethod ({ cls := "ThousandLeaflets$Equations", name := "restOf", desc := "(II)I" } : Jvm.MethodName)) := sb_4 (List.mem_of_getElem? (i := 60) rfl) rfl
theorem tw_781 : TW (Jvm.Cond.code ({ cls := "ThousandLeaflets$Equations", name := "restOf", desc := "(II)I" } : Jvm.MethodName) prog_7_method_9_code (6 : Nat) (Option.some Jvm.ClassFile.FieldType.int)) := sb_4 (List.mem_of_getElem? (i := 61) rfl) rfl
theorem tw_782 : TW (Jvm.Cond.methodLink "ThousandLeaflets" (224 : Nat) ({ cls := "ThousandLeaflets$Equations", name := "quarrels", desc := "(I)I" } : Jvm.MethodName)) := sb_4 (List.mem_of_getElem? (i := 62) rfl) rfl
theorem tw_783 : TW (Jvm.Cond.instanceMethod ({ cls := "ThousandLeaflets$Equations", name := "quarrels", desc := "(I)I" } : Jvm.MethodName)) := sb_4 (List.mem_of_getElem? (i := 63) rfl) rfl
theorem tw_784 : TW (Jvm.Cond.selects "ThousandLeaflets$Equations" ({ cls := "ThousandLeaflets$Equations", name := "quarrels", desc := "(I)I" } : Jvm.MethodName) ({ cls := "ThousandLeaflets$Equations", name := "quarrels", desc := "(I)I" } : Jvm.MethodName)) := sb_4 (List.mem_of_getElem? (i := 64) rfl) rfl
theorem tw_785 : TW (Jvm.Cond.code ({ cls := "ThousandLeaflets$Equations", name := "quarrels", desc := "(I)I" } : Jvm.MethodName) prog_7_method_10_code (4 : Nat) (Option.some Jvm.ClassFile.FieldType.int)) := sb_4 (List.mem_of_getElem? (i := 65) rfl) rfl
theorem tw_786 : TW (Jvm.Cond.methodLink "ThousandLeaflets" (227 : Nat) ({ cls := "ThousandLeaflets$Equations", name := "work", desc := "(I)I" } : Jvm.MethodName)) := sb_4 (List.mem_of_getElem? (i := 66) rfl) rfl
theorem tw_787 : TW (Jvm.Cond.instanceMethod ({ cls := "ThousandLeaflets$Equations", name := "work", desc := "(I)I" } : Jvm.MethodName)) := sb_4 (List.mem_of_getElem? (i := 67) rfl) rfl
theorem tw_788 : TW (Jvm.Cond.selects "ThousandLeaflets$Equations" ({ cls := "ThousandLeaflets$Equations", name := "work", desc := "(I)I" } : Jvm.MethodName) ({ cls := "ThousandLeaflets$Equations", name := "work", desc := "(I)I" } : Jvm.MethodName)) := sb_4 (List.mem_of_getElem? (i := 68) rfl) rfl
theorem tw_789 : TW (Jvm.Cond.code ({ cls := "ThousandLeaflets$Equations", name := "work", desc := "(I)I" } : Jvm.MethodName) prog_7_method_11_code (4 : Nat) (Option.some Jvm.ClassFile.FieldType.int)) := sb_4 (List.mem_of_getElem? (i := 69) rfl) rfl
theorem tw_790 : TW (Jvm.Cond.methodLink "ThousandLeaflets$Equations" (68 : Nat) ({ cls := "java/lang/Integer", name := "bitCount", desc := "(I)I" } : Jvm.MethodName)) := sb_4 (List.mem_of_getElem? (i := 70) rfl) rfl
theorem tw_791 : TW (Jvm.Cond.methodLink "ThousandLeaflets" (230 : Nat) ({ cls := "ThousandLeaflets$Equations", name := "left", desc := "(I)I" } : Jvm.MethodName)) := sb_4 (List.mem_of_getElem? (i := 71) rfl) rfl
theorem tw_792 : TW (Jvm.Cond.instanceMethod ({ cls := "ThousandLeaflets$Equations", name := "left", desc := "(I)I" } : Jvm.MethodName)) := sb_4 (List.mem_of_getElem? (i := 72) rfl) rfl
theorem tw_793 : TW (Jvm.Cond.selects "ThousandLeaflets$Equations" ({ cls := "ThousandLeaflets$Equations", name := "left", desc := "(I)I" } : Jvm.MethodName) ({ cls := "ThousandLeaflets$Equations", name := "left", desc := "(I)I" } : Jvm.MethodName)) := sb_4 (List.mem_of_getElem? (i := 73) rfl) rfl
theorem tw_794 : TW (Jvm.Cond.code ({ cls := "ThousandLeaflets$Equations", name := "left", desc := "(I)I" } : Jvm.MethodName) prog_7_method_12_code (5 : Nat) (Option.some Jvm.ClassFile.FieldType.int)) := sb_4 (List.mem_of_getElem? (i := 74) rfl) rfl
theorem tw_795 : TW (Jvm.Cond.methodLink "ThousandLeafletsLaw" (86 : Nat) ({ cls := "ThousandLeaflets", name := "solves", desc := "(IIII)I" } : Jvm.MethodName)) := sb_4 (List.mem_of_getElem? (i := 75) rfl) rfl
theorem tw_796 : TW (Jvm.Cond.instanceMethod ({ cls := "ThousandLeaflets", name := "solves", desc := "(IIII)I" } : Jvm.MethodName)) := sb_4 (List.mem_of_getElem? (i := 76) rfl) rfl
theorem tw_797 : TW (Jvm.Cond.selects "ThousandLeaflets" ({ cls := "ThousandLeaflets", name := "solves", desc := "(IIII)I" } : Jvm.MethodName) ({ cls := "ThousandLeaflets", name := "solves", desc := "(IIII)I" } : Jvm.MethodName)) := sb_4 (List.mem_of_getElem? (i := 77) rfl) rfl
theorem tw_798 : TW (Jvm.Cond.code ({ cls := "ThousandLeaflets", name := "solves", desc := "(IIII)I" } : Jvm.MethodName) prog_1_method_15_code (7 : Nat) (Option.some Jvm.ClassFile.FieldType.int)) := sb_4 (List.mem_of_getElem? (i := 78) rfl) rfl
theorem tw_799 : TW (Jvm.Cond.methodLink "ThousandLeaflets" (236 : Nat) ({ cls := "ThousandLeaflets$Basis", name := "take", desc := "(LThousandLeaflets$Equations;I)V" } : Jvm.MethodName)) := sb_4 (List.mem_of_getElem? (i := 79) rfl) rfl
theorem tw_800 : TW (Jvm.Cond.instanceMethod ({ cls := "ThousandLeaflets$Basis", name := "take", desc := "(LThousandLeaflets$Equations;I)V" } : Jvm.MethodName)) := sb_4 (List.mem_of_getElem? (i := 80) rfl) rfl
theorem tw_801 : TW (Jvm.Cond.selects "ThousandLeaflets$Basis" ({ cls := "ThousandLeaflets$Basis", name := "take", desc := "(LThousandLeaflets$Equations;I)V" } : Jvm.MethodName) ({ cls := "ThousandLeaflets$Basis", name := "take", desc := "(LThousandLeaflets$Equations;I)V" } : Jvm.MethodName)) := sb_4 (List.mem_of_getElem? (i := 81) rfl) rfl
theorem tw_802 : TW (Jvm.Cond.code ({ cls := "ThousandLeaflets$Basis", name := "take", desc := "(LThousandLeaflets$Equations;I)V" } : Jvm.MethodName) prog_2_method_2_code (4 : Nat) (Option.none : Option Jvm.ClassFile.FieldType)) := sb_4 (List.mem_of_getElem? (i := 82) rfl) rfl
theorem tw_803 : TW (Jvm.Cond.methodLink "ThousandLeaflets$Basis" (32 : Nat) ({ cls := "ThousandLeaflets$Basis", name := "add", desc := "(I)V" } : Jvm.MethodName)) := sb_4 (List.mem_of_getElem? (i := 83) rfl) rfl
theorem tw_804 : TW (Jvm.Cond.instanceMethod ({ cls := "ThousandLeaflets$Basis", name := "add", desc := "(I)V" } : Jvm.MethodName)) := sb_4 (List.mem_of_getElem? (i := 84) rfl) rfl
theorem tw_805 : TW (Jvm.Cond.selects "ThousandLeaflets$Basis" ({ cls := "ThousandLeaflets$Basis", name := "add", desc := "(I)V" } : Jvm.MethodName) ({ cls := "ThousandLeaflets$Basis", name := "add", desc := "(I)V" } : Jvm.MethodName)) := sb_4 (List.mem_of_getElem? (i := 85) rfl) rfl
theorem tw_806 : TW (Jvm.Cond.code ({ cls := "ThousandLeaflets$Basis", name := "add", desc := "(I)V" } : Jvm.MethodName) prog_2_method_3_code (4 : Nat) (Option.none : Option Jvm.ClassFile.FieldType)) := sb_4 (List.mem_of_getElem? (i := 86) rfl) rfl
theorem tw_807 : TW (Jvm.Cond.methodLink "ThousandLeaflets$Basis" (36 : Nat) ({ cls := "ThousandLeaflets$Basis", name := "reduce", desc := "(I)I" } : Jvm.MethodName)) := sb_4 (List.mem_of_getElem? (i := 87) rfl) rfl
theorem tw_809 : TW (Jvm.Cond.instanceMethod ({ cls := "ThousandLeaflets$Basis", name := "reduce", desc := "(I)I" } : Jvm.MethodName)) := sb_4 (List.mem_of_getElem? (i := 89) rfl) rfl
theorem tw_810 : TW (Jvm.Cond.code ({ cls := "ThousandLeaflets$Basis", name := "reduce", desc := "(I)I" } : Jvm.MethodName) prog_2_method_5_code (4 : Nat) (Option.some Jvm.ClassFile.FieldType.int)) := sb_4 (List.mem_of_getElem? (i := 90) rfl) rfl
theorem tw_811 : TW (Jvm.Cond.constant "ThousandLeaflets$Basis" (40 : Nat) (1048575 : Int32)) := sb_4 (List.mem_of_getElem? (i := 91) rfl) rfl
theorem tw_812 : TW (Jvm.Cond.methodLink "ThousandLeaflets" (240 : Nat) ({ cls := "ThousandLeaflets$Basis", name := "fixedPages", desc := "(I)I" } : Jvm.MethodName)) := sb_4 (List.mem_of_getElem? (i := 92) rfl) rfl
theorem tw_813 : TW (Jvm.Cond.instanceMethod ({ cls := "ThousandLeaflets$Basis", name := "fixedPages", desc := "(I)I" } : Jvm.MethodName)) := sb_4 (List.mem_of_getElem? (i := 93) rfl) rfl
theorem tw_814 : TW (Jvm.Cond.selects "ThousandLeaflets$Basis" ({ cls := "ThousandLeaflets$Basis", name := "fixedPages", desc := "(I)I" } : Jvm.MethodName) ({ cls := "ThousandLeaflets$Basis", name := "fixedPages", desc := "(I)I" } : Jvm.MethodName)) := sb_4 (List.mem_of_getElem? (i := 94) rfl) rfl
theorem tw_815 : TW (Jvm.Cond.code ({ cls := "ThousandLeaflets$Basis", name := "fixedPages", desc := "(I)I" } : Jvm.MethodName) prog_2_method_7_code (4 : Nat) (Option.some Jvm.ClassFile.FieldType.int)) := sb_4 (List.mem_of_getElem? (i := 95) rfl) rfl
theorem tw_816 : TW (Jvm.Cond.methodLink "ThousandLeaflets$Basis" (41 : Nat) ({ cls := "ThousandLeaflets$Basis", name := "octetOf", desc := "(I)I" } : Jvm.MethodName)) := sb_4 (List.mem_of_getElem? (i := 96) rfl) rfl
theorem tw_817 : TW (Jvm.Cond.instanceMethod ({ cls := "ThousandLeaflets$Basis", name := "octetOf", desc := "(I)I" } : Jvm.MethodName)) := sb_4 (List.mem_of_getElem? (i := 97) rfl) rfl
theorem tw_818 : TW (Jvm.Cond.selects "ThousandLeaflets$Basis" ({ cls := "ThousandLeaflets$Basis", name := "octetOf", desc := "(I)I" } : Jvm.MethodName) ({ cls := "ThousandLeaflets$Basis", name := "octetOf", desc := "(I)I" } : Jvm.MethodName)) := sb_4 (List.mem_of_getElem? (i := 98) rfl) rfl
theorem tw_819 : TW (Jvm.Cond.code ({ cls := "ThousandLeaflets$Basis", name := "octetOf", desc := "(I)I" } : Jvm.MethodName) prog_2_method_6_code (3 : Nat) (Option.some Jvm.ClassFile.FieldType.int)) := sb_4 (List.mem_of_getElem? (i := 99) rfl) rfl
theorem tw_820 : TW (Jvm.Cond.methodLink "ThousandLeafletsLaw" (90 : Nat) ({ cls := "ThousandLeaflets", name := "read", desc := "(IIII)I" } : Jvm.MethodName)) := sb_4 (List.mem_of_getElem? (i := 100) rfl) rfl
theorem tw_821 : TW (Jvm.Cond.instanceMethod ({ cls := "ThousandLeaflets", name := "read", desc := "(IIII)I" } : Jvm.MethodName)) := sb_4 (List.mem_of_getElem? (i := 101) rfl) rfl
theorem tw_822 : TW (Jvm.Cond.selects "ThousandLeaflets" ({ cls := "ThousandLeaflets", name := "read", desc := "(IIII)I" } : Jvm.MethodName) ({ cls := "ThousandLeaflets", name := "read", desc := "(IIII)I" } : Jvm.MethodName)) := sb_4 (List.mem_of_getElem? (i := 102) rfl) rfl
theorem tw_823 : TW (Jvm.Cond.code ({ cls := "ThousandLeaflets", name := "read", desc := "(IIII)I" } : Jvm.MethodName) prog_1_method_16_code (7 : Nat) (Option.some Jvm.ClassFile.FieldType.int)) := sb_4 (List.mem_of_getElem? (i := 103) rfl) rfl
theorem tw_824 : TW (Jvm.Cond.methodLink "ThousandLeaflets" (249 : Nat) ({ cls := "ThousandLeaflets", name := "isHow", desc := "(I)Z" } : Jvm.MethodName)) := sb_4 (List.mem_of_getElem? (i := 104) rfl) rfl
theorem tw_825 : TW (Jvm.Cond.static ({ cls := "ThousandLeaflets", name := "isHow", desc := "(I)Z" } : Jvm.MethodName)) := sb_4 (List.mem_of_getElem? (i := 105) rfl) rfl
theorem tw_826 : TW (Jvm.Cond.code ({ cls := "ThousandLeaflets", name := "isHow", desc := "(I)Z" } : Jvm.MethodName) prog_1_method_39_code (1 : Nat) (Option.some Jvm.ClassFile.FieldType.boolean)) := sb_4 (List.mem_of_getElem? (i := 106) rfl) rfl
theorem tw_827 : TW (Jvm.Cond.methodLink "ThousandLeaflets" (252 : Nat) ({ cls := "ThousandLeaflets", name := "readOctet", desc := "(IIIII)I" } : Jvm.MethodName)) := sb_4 (List.mem_of_getElem? (i := 107) rfl) rfl
theorem tw_829 : TW (Jvm.Cond.instanceMethod ({ cls := "ThousandLeaflets", name := "readOctet", desc := "(IIIII)I" } : Jvm.MethodName)) := sb_4 (List.mem_of_getElem? (i := 109) rfl) rfl
theorem tw_830 : TW (Jvm.Cond.code ({ cls := "ThousandLeaflets", name := "readOctet", desc := "(IIIII)I" } : Jvm.MethodName) prog_1_method_50_code (8 : Nat) (Option.some Jvm.ClassFile.FieldType.int)) := sb_4 (List.mem_of_getElem? (i := 110) rfl) rfl
theorem tw_831 : TW (Jvm.Cond.methodLink "ThousandLeaflets" (272 : Nat) ({ cls := "ThousandLeaflets$Basis", name := "octetOf", desc := "(I)I" } : Jvm.MethodName)) := sb_4 (List.mem_of_getElem? (i := 111) rfl) rfl
theorem tw_832 : TW (Jvm.Cond.methodLink "ThousandLeafletsLaw" (94 : Nat) ({ cls := "ThousandLeaflets", name := "soon", desc := "(IIII)I" } : Jvm.MethodName)) := sb_4 (List.mem_of_getElem? (i := 112) rfl) rfl
theorem tw_833 : TW (Jvm.Cond.instanceMethod ({ cls := "ThousandLeaflets", name := "soon", desc := "(IIII)I" } : Jvm.MethodName)) := sb_4 (List.mem_of_getElem? (i := 113) rfl) rfl
theorem tw_834 : TW (Jvm.Cond.selects "ThousandLeaflets" ({ cls := "ThousandLeaflets", name := "soon", desc := "(IIII)I" } : Jvm.MethodName) ({ cls := "ThousandLeaflets", name := "soon", desc := "(IIII)I" } : Jvm.MethodName)) := sb_4 (List.mem_of_getElem? (i := 114) rfl) rfl
theorem tw_835 : TW (Jvm.Cond.code ({ cls := "ThousandLeaflets", name := "soon", desc := "(IIII)I" } : Jvm.MethodName) prog_1_method_17_code (5 : Nat) (Option.some Jvm.ClassFile.FieldType.int)) := sb_4 (List.mem_of_getElem? (i := 115) rfl) rfl
theorem tw_836 : TW (Jvm.Cond.methodLink "ThousandLeaflets" (256 : Nat) ({ cls := "ThousandLeaflets", name := "soonPeeled", desc := "(III)I" } : Jvm.MethodName)) := sb_4 (List.mem_of_getElem? (i := 116) rfl) rfl
theorem tw_838 : TW (Jvm.Cond.instanceMethod ({ cls := "ThousandLeaflets", name := "soonPeeled", desc := "(III)I" } : Jvm.MethodName)) := sb_4 (List.mem_of_getElem? (i := 118) rfl) rfl
theorem tw_839 : TW (Jvm.Cond.code ({ cls := "ThousandLeaflets", name := "soonPeeled", desc := "(III)I" } : Jvm.MethodName) prog_1_method_51_code (9 : Nat) (Option.some Jvm.ClassFile.FieldType.int)) := sb_4 (List.mem_of_getElem? (i := 119) rfl) rfl
theorem tw_840 : TW (Jvm.Cond.methodLink "ThousandLeaflets" (385 : Nat) ({ cls := "ThousandLeaflets", name := "spreadWith", desc := "(LThousandLeaflets$Paper;III)I" } : Jvm.MethodName)) := sb_4 (List.mem_of_getElem? (i := 120) rfl) rfl
theorem tw_842 : TW (Jvm.Cond.instanceMethod ({ cls := "ThousandLeaflets", name := "spreadWith", desc := "(LThousandLeaflets$Paper;III)I" } : Jvm.MethodName)) := sb_4 (List.mem_of_getElem? (i := 122) rfl) rfl
theorem tw_843 : TW (Jvm.Cond.code ({ cls := "ThousandLeaflets", name := "spreadWith", desc := "(LThousandLeaflets$Paper;III)I" } : Jvm.MethodName) prog_1_method_52_code (5 : Nat) (Option.some Jvm.ClassFile.FieldType.int)) := sb_4 (List.mem_of_getElem? (i := 123) rfl) rfl
theorem tw_844 : TW (Jvm.Cond.methodLink "ThousandLeaflets" (389 : Nat) ({ cls := "ThousandLeaflets$Equations", name := "spread", desc := "(I)I" } : Jvm.MethodName)) := sb_4 (List.mem_of_getElem? (i := 124) rfl) rfl
theorem tw_845 : TW (Jvm.Cond.instanceMethod ({ cls := "ThousandLeaflets$Equations", name := "spread", desc := "(I)I" } : Jvm.MethodName)) := sb_4 (List.mem_of_getElem? (i := 125) rfl) rfl
theorem tw_846 : TW (Jvm.Cond.selects "ThousandLeaflets$Equations" ({ cls := "ThousandLeaflets$Equations", name := "spread", desc := "(I)I" } : Jvm.MethodName) ({ cls := "ThousandLeaflets$Equations", name := "spread", desc := "(I)I" } : Jvm.MethodName)) := sb_4 (List.mem_of_getElem? (i := 126) rfl) rfl
theorem tw_847 : TW (Jvm.Cond.code ({ cls := "ThousandLeaflets$Equations", name := "spread", desc := "(I)I" } : Jvm.MethodName) prog_7_method_6_code (7 : Nat) (Option.some Jvm.ClassFile.FieldType.int)) := sb_4 (List.mem_of_getElem? (i := 127) rfl) rfl
theorem tw_848 : TW (Jvm.Cond.methodLink "ThousandLeaflets" (260 : Nat) ({ cls := "ThousandLeaflets", name := "soonSolved", desc := "(III)I" } : Jvm.MethodName)) := sb_4 (List.mem_of_getElem? (i := 128) rfl) rfl
theorem tw_850 : TW (Jvm.Cond.instanceMethod ({ cls := "ThousandLeaflets", name := "soonSolved", desc := "(III)I" } : Jvm.MethodName)) := sb_4 (List.mem_of_getElem? (i := 130) rfl) rfl
theorem tw_851 : TW (Jvm.Cond.code ({ cls := "ThousandLeaflets", name := "soonSolved", desc := "(III)I" } : Jvm.MethodName) prog_1_method_53_code (8 : Nat) (Option.some Jvm.ClassFile.FieldType.int)) := sb_4 (List.mem_of_getElem? (i := 131) rfl) rfl
theorem tw_852 : TW (Jvm.Cond.methodLink "ThousandLeaflets" (392 : Nat) ({ cls := "ThousandLeaflets$Basis", name := "add", desc := "(I)V" } : Jvm.MethodName)) := sb_4 (List.mem_of_getElem? (i := 132) rfl) rfl
theorem tw_853 : TW (Jvm.Cond.methodLink "ThousandLeafletsLaw" (98 : Nat) ({ cls := "ThousandLeaflets", name := "slipped", desc := "(IIII)I" } : Jvm.MethodName)) := sb_4 (List.mem_of_getElem? (i := 133) rfl) rfl
theorem tw_854 : TW (Jvm.Cond.instanceMethod ({ cls := "ThousandLeaflets", name := "slipped", desc := "(IIII)I" } : Jvm.MethodName)) := sb_4 (List.mem_of_getElem? (i := 134) rfl) rfl
theorem tw_855 : TW (Jvm.Cond.selects "ThousandLeaflets" ({ cls := "ThousandLeaflets", name := "slipped", desc := "(IIII)I" } : Jvm.MethodName) ({ cls := "ThousandLeaflets", name := "slipped", desc := "(IIII)I" } : Jvm.MethodName)) := sb_4 (List.mem_of_getElem? (i := 135) rfl) rfl
theorem tw_856 : TW (Jvm.Cond.code ({ cls := "ThousandLeaflets", name := "slipped", desc := "(IIII)I" } : Jvm.MethodName) prog_1_method_18_code (10 : Nat) (Option.some Jvm.ClassFile.FieldType.int)) := sb_4 (List.mem_of_getElem? (i := 136) rfl) rfl
theorem tw_857 : TW (Jvm.Cond.methodLink "ThousandLeafletsLaw" (102 : Nat) ({ cls := "ThousandLeaflets", name := "right", desc := "(IIII)I" } : Jvm.MethodName)) := sb_4 (List.mem_of_getElem? (i := 137) rfl) rfl
theorem tw_858 : TW (Jvm.Cond.instanceMethod ({ cls := "ThousandLeaflets", name := "right", desc := "(IIII)I" } : Jvm.MethodName)) := sb_4 (List.mem_of_getElem? (i := 138) rfl) rfl
theorem tw_859 : TW (Jvm.Cond.selects "ThousandLeaflets" ({ cls := "ThousandLeaflets", name := "right", desc := "(IIII)I" } : Jvm.MethodName) ({ cls := "ThousandLeaflets", name := "right", desc := "(IIII)I" } : Jvm.MethodName)) := sb_4 (List.mem_of_getElem? (i := 139) rfl) rfl
theorem tw_860 : TW (Jvm.Cond.code ({ cls := "ThousandLeaflets", name := "right", desc := "(IIII)I" } : Jvm.MethodName) prog_1_method_19_code (10 : Nat) (Option.some Jvm.ClassFile.FieldType.int)) := sb_4 (List.mem_of_getElem? (i := 140) rfl) rfl
theorem tw_861 : TW (Jvm.Cond.methodLink "ThousandLeafletsLaw" (106 : Nat) ({ cls := "ThousandLeaflets", name := "doubles", desc := "(III)I" } : Jvm.MethodName)) := sb_4 (List.mem_of_getElem? (i := 141) rfl) rfl
theorem tw_862 : TW (Jvm.Cond.instanceMethod ({ cls := "ThousandLeaflets", name := "doubles", desc := "(III)I" } : Jvm.MethodName)) := sb_4 (List.mem_of_getElem? (i := 142) rfl) rfl
theorem tw_863 : TW (Jvm.Cond.selects "ThousandLeaflets" ({ cls := "ThousandLeaflets", name := "doubles", desc := "(III)I" } : Jvm.MethodName) ({ cls := "ThousandLeaflets", name := "doubles", desc := "(III)I" } : Jvm.MethodName)) := sb_4 (List.mem_of_getElem? (i := 143) rfl) rfl
theorem tw_864 : TW (Jvm.Cond.code ({ cls := "ThousandLeaflets", name := "doubles", desc := "(III)I" } : Jvm.MethodName) prog_1_method_20_code (9 : Nat) (Option.some Jvm.ClassFile.FieldType.int)) := sb_4 (List.mem_of_getElem? (i := 144) rfl) rfl
theorem tw_865 : TW (Jvm.Cond.methodLink "ThousandLeafletsLaw" (110 : Nat) ({ cls := "ThousandLeaflets", name := "guard", desc := "(IIII)I" } : Jvm.MethodName)) := sb_4 (List.mem_of_getElem? (i := 145) rfl) rfl
theorem tw_866 : TW (Jvm.Cond.instanceMethod ({ cls := "ThousandLeaflets", name := "guard", desc := "(IIII)I" } : Jvm.MethodName)) := sb_4 (List.mem_of_getElem? (i := 146) rfl) rfl
theorem tw_867 : TW (Jvm.Cond.selects "ThousandLeaflets" ({ cls := "ThousandLeaflets", name := "guard", desc := "(IIII)I" } : Jvm.MethodName) ({ cls := "ThousandLeaflets", name := "guard", desc := "(IIII)I" } : Jvm.MethodName)) := sb_4 (List.mem_of_getElem? (i := 147) rfl) rfl
theorem tw_868 : TW (Jvm.Cond.code ({ cls := "ThousandLeaflets", name := "guard", desc := "(IIII)I" } : Jvm.MethodName) prog_1_method_21_code (8 : Nat) (Option.some Jvm.ClassFile.FieldType.int)) := sb_4 (List.mem_of_getElem? (i := 148) rfl) rfl
theorem tw_869 : TW (Jvm.Cond.methodLink "ThousandLeaflets" (275 : Nat) ({ cls := "ThousandLeaflets$Equations", name := "fewestGuarding", desc := "(LThousandLeaflets$Book;I)I" } : Jvm.MethodName)) := sb_4 (List.mem_of_getElem? (i := 149) rfl) rfl
theorem tw_870 : TW (Jvm.Cond.instanceMethod ({ cls := "ThousandLeaflets$Equations", name := "fewestGuarding", desc := "(LThousandLeaflets$Book;I)I" } : Jvm.MethodName)) := sb_4 (List.mem_of_getElem? (i := 150) rfl) rfl
theorem tw_871 : TW (Jvm.Cond.selects "ThousandLeaflets$Equations" ({ cls := "ThousandLeaflets$Equations", name := "fewestGuarding", desc := "(LThousandLeaflets$Book;I)I" } : Jvm.MethodName) ({ cls := "ThousandLeaflets$Equations", name := "fewestGuarding", desc := "(LThousandLeaflets$Book;I)I" } : Jvm.MethodName)) := sb_4 (List.mem_of_getElem? (i := 151) rfl) rfl
theorem tw_872 : TW (Jvm.Cond.code ({ cls := "ThousandLeaflets$Equations", name := "fewestGuarding", desc := "(LThousandLeaflets$Book;I)I" } : Jvm.MethodName) prog_7_method_13_code (9 : Nat) (Option.some Jvm.ClassFile.FieldType.int)) := sb_4 (List.mem_of_getElem? (i := 152) rfl) rfl
theorem tw_873 : TW (Jvm.Cond.methodLink "ThousandLeaflets$Equations" (73 : Nat) ({ cls := "ThousandLeaflets$Equations", name := "touchPapers", desc := "(LThousandLeaflets$Book;)V" } : Jvm.MethodName)) := sb_4 (List.mem_of_getElem? (i := 153) rfl) rfl
theorem tw_875 : TW (Jvm.Cond.instanceMethod ({ cls := "ThousandLeaflets$Equations", name := "touchPapers", desc := "(LThousandLeaflets$Book;)V" } : Jvm.MethodName)) := sb_4 (List.mem_of_getElem? (i := 155) rfl) rfl
theorem tw_876 : TW (Jvm.Cond.code ({ cls := "ThousandLeaflets$Equations", name := "touchPapers", desc := "(LThousandLeaflets$Book;)V" } : Jvm.MethodName) prog_7_method_14_code (5 : Nat) (Option.none : Option Jvm.ClassFile.FieldType)) := sb_4 (List.mem_of_getElem? (i := 156) rfl) rfl
theorem tw_877 : TW (Jvm.Cond.methodLink "ThousandLeaflets$Equations" (77 : Nat) ({ cls := "ThousandLeaflets$Book", name := "withoutHidden", desc := "(I)I" } : Jvm.MethodName)) := sb_4 (List.mem_of_getElem? (i := 157) rfl) rfl
theorem tw_878 : TW (Jvm.Cond.methodLink "ThousandLeaflets$Equations" (80 : Nat) ({ cls := "ThousandLeaflets$Equations", name := "fewestTouched", desc := "(JI)I" } : Jvm.MethodName)) := sb_4 (List.mem_of_getElem? (i := 158) rfl) rfl
theorem tw_880 : TW (Jvm.Cond.instanceMethod ({ cls := "ThousandLeaflets$Equations", name := "fewestTouched", desc := "(JI)I" } : Jvm.MethodName)) := sb_4 (List.mem_of_getElem? (i := 160) rfl) rfl
theorem tw_881 : TW (Jvm.Cond.code ({ cls := "ThousandLeaflets$Equations", name := "fewestTouched", desc := "(JI)I" } : Jvm.MethodName) prog_7_method_15_code (8 : Nat) (Option.some Jvm.ClassFile.FieldType.int)) := sb_4 (List.mem_of_getElem? (i := 161) rfl) rfl
theorem tw_882 : TW (Jvm.Cond.methodLink "ThousandLeaflets$Equations" (84 : Nat) ({ cls := "java/lang/Long", name := "bitCount", desc := "(J)I" } : Jvm.MethodName)) := sb_4 (List.mem_of_getElem? (i := 162) rfl) rfl
theorem tw_883 : TW (Jvm.Cond.static ({ cls := "java/lang/Long", name := "bitCount", desc := "(J)I" } : Jvm.MethodName)) := sb_4 (List.mem_of_getElem? (i := 163) rfl) rfl
theorem tw_884 : TW (Jvm.Cond.code ({ cls := "java/lang/Long", name := "bitCount", desc := "(J)I" } : Jvm.MethodName) prog_17_method_50_code (2 : Nat) (Option.some Jvm.ClassFile.FieldType.int)) := sb_4 (List.mem_of_getElem? (i := 164) rfl) rfl
theorem tw_885 : TW (Jvm.Cond.constantLong "java/lang/Long" (314 : Nat) (6148914691236517205 : Int64)) := sb_4 (List.mem_of_getElem? (i := 165) rfl) rfl
theorem tw_886 : TW (Jvm.Cond.constantLong "java/lang/Long" (316 : Nat) (3689348814741910323 : Int64)) := sb_4 (List.mem_of_getElem? (i := 166) rfl) rfl
theorem tw_887 : TW (Jvm.Cond.constantLong "java/lang/Long" (318 : Nat) (1085102592571150095 : Int64)) := sb_4 (List.mem_of_getElem? (i := 167) rfl) rfl
theorem tw_888 : TW (Jvm.Cond.methodLink "ThousandLeaflets$Equations" (89 : Nat) ({ cls := "java/lang/Math", name := "min", desc := "(II)I" } : Jvm.MethodName)) := sb_4 (List.mem_of_getElem? (i := 168) rfl) rfl
theorem tw_889 : TW (Jvm.Cond.static ({ cls := "java/lang/Math", name := "min", desc := "(II)I" } : Jvm.MethodName)) := sb_4 (List.mem_of_getElem? (i := 169) rfl) rfl
theorem tw_890 : TW (Jvm.Cond.code ({ cls := "java/lang/Math", name := "min", desc := "(II)I" } : Jvm.MethodName) prog_18_method_69_code (2 : Nat) (Option.some Jvm.ClassFile.FieldType.int)) := sb_4 (List.mem_of_getElem? (i := 170) rfl) rfl
theorem tw_891 : TW (Jvm.Cond.methodLink "ThousandLeafletsLaw" (114 : Nat) ({ cls := "ThousandLeaflets", name := "tocome", desc := "(III)I" } : Jvm.MethodName)) := sb_4 (List.mem_of_getElem? (i := 171) rfl) rfl
theorem tw_892 : TW (Jvm.Cond.instanceMethod ({ cls := "ThousandLeaflets", name := "tocome", desc := "(III)I" } : Jvm.MethodName)) := sb_4 (List.mem_of_getElem? (i := 172) rfl) rfl
theorem tw_893 : TW (Jvm.Cond.selects "ThousandLeaflets" ({ cls := "ThousandLeaflets", name := "tocome", desc := "(III)I" } : Jvm.MethodName) ({ cls := "ThousandLeaflets", name := "tocome", desc := "(III)I" } : Jvm.MethodName)) := sb_4 (List.mem_of_getElem? (i := 173) rfl) rfl
theorem tw_894 : TW (Jvm.Cond.code ({ cls := "ThousandLeaflets", name := "tocome", desc := "(III)I" } : Jvm.MethodName) prog_1_method_22_code (6 : Nat) (Option.some Jvm.ClassFile.FieldType.int)) := sb_4 (List.mem_of_getElem? (i := 174) rfl) rfl
theorem tw_895 : TW (Jvm.Cond.methodLink "ThousandLeaflets" (279 : Nat) ({ cls := "ThousandLeaflets$Coming", name := "find", desc := "(LThousandLeaflets$Book;LThousandLeaflets$Equations;LThousandLeaflets$Equations;)Z" } : Jvm.MethodName)) := sb_4 (List.mem_of_getElem? (i := 175) rfl) rfl
theorem tw_896 : TW (Jvm.Cond.instanceMethod ({ cls := "ThousandLeaflets$Coming", name := "find", desc := "(LThousandLeaflets$Book;LThousandLeaflets$Equations;LThousandLeaflets$Equations;)Z" } : Jvm.MethodName)) := sb_4 (List.mem_of_getElem? (i := 176) rfl) rfl
theorem tw_897 : TW (Jvm.Cond.selects "ThousandLeaflets$Coming" ({ cls := "ThousandLeaflets$Coming", name := "find", desc := "(LThousandLeaflets$Book;LThousandLeaflets$Equations;LThousandLeaflets$Equations;)Z" } : Jvm.MethodName) ({ cls := "ThousandLeaflets$Coming", name := "find", desc := "(LThousandLeaflets$Book;LThousandLeaflets$Equations;LThousandLeaflets$Equations;)Z" } : Jvm.MethodName)) := sb_4 (List.mem_of_getElem? (i := 177) rfl) rfl
theorem tw_898 : TW (Jvm.Cond.code ({ cls := "ThousandLeaflets$Coming", name := "find", desc := "(LThousandLeaflets$Book;LThousandLeaflets$Equations;LThousandLeaflets$Equations;)Z" } : Jvm.MethodName) prog_4_method_2_code (7 : Nat) (Option.some Jvm.ClassFile.FieldType.boolean)) := sb_4 (List.mem_of_getElem? (i := 178) rfl) rfl
theorem tw_899 : TW (Jvm.Cond.methodLink "ThousandLeaflets$Coming" (28 : Nat) ({ cls := "ThousandLeaflets$Basis", name := "take", desc := "(LThousandLeaflets$Equations;I)V" } : Jvm.MethodName)) := sb_4 (List.mem_of_getElem? (i := 179) rfl) rfl
theorem tw_900 : TW (Jvm.Cond.methodLink "ThousandLeaflets$Coming" (36 : Nat) ({ cls := "ThousandLeaflets$Book", name := "all", desc := "()I" } : Jvm.MethodName)) := sb_4 (List.mem_of_getElem? (i := 180) rfl) rfl
theorem tw_901 : TW (Jvm.Cond.methodLink "ThousandLeaflets$Coming" (51 : Nat) ({ cls := "ThousandLeaflets$Book", name := "pagesOf", desc := "(I)I" } : Jvm.MethodName)) := sb_4 (List.mem_of_getElem? (i := 181) rfl) rfl
theorem tw_902 : TW (Jvm.Cond.methodLink "ThousandLeaflets$Coming" (55 : Nat) ({ cls := "ThousandLeaflets$Book", name := "sumOf", desc := "(I)I" } : Jvm.MethodName)) := sb_4 (List.mem_of_getElem? (i := 182) rfl) rfl
theorem tw_903 : TW (Jvm.Cond.methodLink "ThousandLeaflets$Coming" (58 : Nat) ({ cls := "ThousandLeaflets$Coming", name := "seek", desc := "(III)V" } : Jvm.MethodName)) := sb_4 (List.mem_of_getElem? (i := 183) rfl) rfl
theorem tw_905 : TW (Jvm.Cond.instanceMethod ({ cls := "ThousandLeaflets$Coming", name := "seek", desc := "(III)V" } : Jvm.MethodName)) := sb_4 (List.mem_of_getElem? (i := 185) rfl) rfl
theorem tw_906 : TW (Jvm.Cond.code ({ cls := "ThousandLeaflets$Coming", name := "seek", desc := "(III)V" } : Jvm.MethodName) prog_4_method_3_code (7 : Nat) (Option.none : Option Jvm.ClassFile.FieldType)) := sb_4 (List.mem_of_getElem? (i := 186) rfl) rfl
theorem tw_907 : TW (Jvm.Cond.methodLink "ThousandLeaflets$Coming" (65 : Nat) ({ cls := "java/lang/Math", name := "min", desc := "(II)I" } : Jvm.MethodName)) := sb_4 (List.mem_of_getElem? (i := 187) rfl) rfl
theorem tw_908 : TW (Jvm.Cond.methodLink "ThousandLeaflets$Coming" (71 : Nat) ({ cls := "ThousandLeaflets$Basis", name := "add", desc := "(I)V" } : Jvm.MethodName)) := sb_4 (List.mem_of_getElem? (i := 188) rfl) rfl
theorem tw_909 : TW (Jvm.Cond.methodLink "ThousandLeaflets$Coming" (75 : Nat) ({ cls := "ThousandLeaflets$Basis", name := "cut", desc := "(I)V" } : Jvm.MethodName)) := sb_4 (List.mem_of_getElem? (i := 189) rfl) rfl
theorem tw_910 : TW (Jvm.Cond.instanceMethod ({ cls := "ThousandLeaflets$Basis", name := "cut", desc := "(I)V" } : Jvm.MethodName)) := sb_4 (List.mem_of_getElem? (i := 190) rfl) rfl
theorem tw_911 : TW (Jvm.Cond.selects "ThousandLeaflets$Basis" ({ cls := "ThousandLeaflets$Basis", name := "cut", desc := "(I)V" } : Jvm.MethodName) ({ cls := "ThousandLeaflets$Basis", name := "cut", desc := "(I)V" } : Jvm.MethodName)) := sb_4 (List.mem_of_getElem? (i := 191) rfl) rfl
theorem tw_912 : TW (Jvm.Cond.code ({ cls := "ThousandLeaflets$Basis", name := "cut", desc := "(I)V" } : Jvm.MethodName) prog_2_method_4_code (2 : Nat) (Option.none : Option Jvm.ClassFile.FieldType)) := sb_4 (List.mem_of_getElem? (i := 192) rfl) rfl
theorem tw_913 : TW (Jvm.Cond.methodLink "ThousandLeafletsLaw" (118 : Nat) ({ cls := "ThousandLeaflets", name := "chances", desc := "(IIII)I" } : Jvm.MethodName)) := sb_4 (List.mem_of_getElem? (i := 193) rfl) rfl
theorem tw_914 : TW (Jvm.Cond.instanceMethod ({ cls := "ThousandLeaflets", name := "chances", desc := "(IIII)I" } : Jvm.MethodName)) := sb_4 (List.mem_of_getElem? (i := 194) rfl) rfl
theorem tw_915 : TW (Jvm.Cond.selects "ThousandLeaflets" ({ cls := "ThousandLeaflets", name := "chances", desc := "(IIII)I" } : Jvm.MethodName) ({ cls := "ThousandLeaflets", name := "chances", desc := "(IIII)I" } : Jvm.MethodName)) := sb_4 (List.mem_of_getElem? (i := 195) rfl) rfl
theorem tw_916 : TW (Jvm.Cond.code ({ cls := "ThousandLeaflets", name := "chances", desc := "(IIII)I" } : Jvm.MethodName) prog_1_method_23_code (5 : Nat) (Option.some Jvm.ClassFile.FieldType.int)) := sb_4 (List.mem_of_getElem? (i := 196) rfl) rfl
theorem tw_917 : TW (Jvm.Cond.methodLink "ThousandLeaflets" (289 : Nat) ({ cls := "ThousandLeaflets", name := "isSetSize", desc := "(II)Z" } : Jvm.MethodName)) := sb_4 (List.mem_of_getElem? (i := 197) rfl) rfl
theorem tw_918 : TW (Jvm.Cond.static ({ cls := "ThousandLeaflets", name := "isSetSize", desc := "(II)Z" } : Jvm.MethodName)) := sb_4 (List.mem_of_getElem? (i := 198) rfl) rfl
theorem tw_919 : TW (Jvm.Cond.code ({ cls := "ThousandLeaflets", name := "isSetSize", desc := "(II)Z" } : Jvm.MethodName) prog_1_method_40_code (2 : Nat) (Option.some Jvm.ClassFile.FieldType.boolean)) := sb_4 (List.mem_of_getElem? (i := 199) rfl) rfl
theorem tw_920 : TW (Jvm.Cond.methodLink "ThousandLeaflets" (292 : Nat) ({ cls := "ThousandLeaflets$Sets", name := "tally", desc := "(LThousandLeaflets$Book;III)V" } : Jvm.MethodName)) := sb_4 (List.mem_of_getElem? (i := 200) rfl) rfl
theorem tw_921 : TW (Jvm.Cond.instanceMethod ({ cls := "ThousandLeaflets$Sets", name := "tally", desc := "(LThousandLeaflets$Book;III)V" } : Jvm.MethodName)) := sb_4 (List.mem_of_getElem? (i := 201) rfl) rfl
theorem tw_922 : TW (Jvm.Cond.selects "ThousandLeaflets$Sets" ({ cls := "ThousandLeaflets$Sets", name := "tally", desc := "(LThousandLeaflets$Book;III)V" } : Jvm.MethodName) ({ cls := "ThousandLeaflets$Sets", name := "tally", desc := "(LThousandLeaflets$Book;III)V" } : Jvm.MethodName)) := sb_4 (List.mem_of_getElem? (i := 202) rfl) rfl
theorem tw_923 : TW (Jvm.Cond.code ({ cls := "ThousandLeaflets$Sets", name := "tally", desc := "(LThousandLeaflets$Book;III)V" } : Jvm.MethodName) prog_10_method_2_code (6 : Nat) (Option.none : Option Jvm.ClassFile.FieldType)) := sb_4 (List.mem_of_getElem? (i := 203) rfl) rfl
theorem tw_924 : TW (Jvm.Cond.methodLink "ThousandLeaflets$Sets" (32 : Nat) ({ cls := "java/lang/Math", name := "min", desc := "(II)I" } : Jvm.MethodName)) := sb_4 (List.mem_of_getElem? (i := 204) rfl) rfl
theorem tw_925 : TW (Jvm.Cond.methodLink "ThousandLeaflets$Sets" (45 : Nat) ({ cls := "ThousandLeaflets$Book", name := "all", desc := "()I" } : Jvm.MethodName)) := sb_4 (List.mem_of_getElem? (i := 205) rfl) rfl
theorem tw_926 : TW (Jvm.Cond.methodLink "ThousandLeaflets$Sets" (53 : Nat) ({ cls := "ThousandLeaflets$Book", name := "allBits", desc := "()I" } : Jvm.MethodName)) := sb_4 (List.mem_of_getElem? (i := 206) rfl) rfl
theorem tw_927 : TW (Jvm.Cond.instanceMethod ({ cls := "ThousandLeaflets$Book", name := "allBits", desc := "()I" } : Jvm.MethodName)) := sb_4 (List.mem_of_getElem? (i := 207) rfl) rfl
theorem tw_928 : TW (Jvm.Cond.selects "ThousandLeaflets$Book" ({ cls := "ThousandLeaflets$Book", name := "allBits", desc := "()I" } : Jvm.MethodName) ({ cls := "ThousandLeaflets$Book", name := "allBits", desc := "()I" } : Jvm.MethodName)) := sb_4 (List.mem_of_getElem? (i := 208) rfl) rfl
theorem tw_929 : TW (Jvm.Cond.code ({ cls := "ThousandLeaflets$Book", name := "allBits", desc := "()I" } : Jvm.MethodName) prog_3_method_6_code (1 : Nat) (Option.some Jvm.ClassFile.FieldType.int)) := sb_4 (List.mem_of_getElem? (i := 209) rfl) rfl
theorem tw_930 : TW (Jvm.Cond.methodLink "ThousandLeaflets$Sets" (58 : Nat) ({ cls := "ThousandLeaflets$Book", name := "drawPages", desc := "(II)I" } : Jvm.MethodName)) := sb_4 (List.mem_of_getElem? (i := 210) rfl) rfl
theorem tw_931 : TW (Jvm.Cond.methodLink "ThousandLeaflets$Sets" (61 : Nat) ({ cls := "ThousandLeaflets$Book", name := "pagesOf", desc := "(I)I" } : Jvm.MethodName)) := sb_4 (List.mem_of_getElem? (i := 211) rfl) rfl
theorem tw_932 : TW (Jvm.Cond.methodLink "ThousandLeaflets$Sets" (65 : Nat) ({ cls := "ThousandLeaflets$Equations", name := "startWith", desc := "(LThousandLeaflets$Book;)V" } : Jvm.MethodName)) := sb_4 (List.mem_of_getElem? (i := 212) rfl) rfl
theorem tw_933 : TW (Jvm.Cond.methodLink "ThousandLeaflets$Sets" (69 : Nat) ({ cls := "ThousandLeaflets$Basis", name := "take", desc := "(LThousandLeaflets$Equations;I)V" } : Jvm.MethodName)) := sb_4 (List.mem_of_getElem? (i := 213) rfl) rfl
theorem tw_934 : TW (Jvm.Cond.methodLink "ThousandLeaflets$Sets" (73 : Nat) ({ cls := "ThousandLeaflets$Sets", name := "walk", desc := "(III)V" } : Jvm.MethodName)) := sb_4 (List.mem_of_getElem? (i := 214) rfl) rfl
theorem tw_936 : TW (Jvm.Cond.instanceMethod ({ cls := "ThousandLeaflets$Sets", name := "walk", desc := "(III)V" } : Jvm.MethodName)) := sb_4 (List.mem_of_getElem? (i := 216) rfl) rfl
theorem tw_937 : TW (Jvm.Cond.code ({ cls := "ThousandLeaflets$Sets", name := "walk", desc := "(III)V" } : Jvm.MethodName) prog_10_method_3_code (6 : Nat) (Option.none : Option Jvm.ClassFile.FieldType)) := sb_4 (List.mem_of_getElem? (i := 217) rfl) rfl
theorem tw_938 : TW (Jvm.Cond.methodLink "ThousandLeaflets$Sets" (80 : Nat) ({ cls := "ThousandLeaflets$Sets", name := "addAllWith", desc := "(II)V" } : Jvm.MethodName)) := sb_4 (List.mem_of_getElem? (i := 218) rfl) rfl
theorem tw_940 : TW (Jvm.Cond.instanceMethod ({ cls := "ThousandLeaflets$Sets", name := "addAllWith", desc := "(II)V" } : Jvm.MethodName)) := sb_4 (List.mem_of_getElem? (i := 220) rfl) rfl
theorem tw_941 : TW (Jvm.Cond.code ({ cls := "ThousandLeaflets$Sets", name := "addAllWith", desc := "(II)V" } : Jvm.MethodName) prog_10_method_4_code (4 : Nat) (Option.none : Option Jvm.ClassFile.FieldType)) := sb_4 (List.mem_of_getElem? (i := 221) rfl) rfl
theorem tw_942 : TW (Jvm.Cond.methodLinkNest "ThousandLeaflets$Sets" (100 : Nat) ({ cls := "ThousandLeaflets", name := "choose", desc := "(II)I" } : Jvm.MethodName) "ThousandLeaflets") := sb_4 (List.mem_of_getElem? (i := 222) rfl) rfl
theorem tw_943 : TW (Jvm.Cond.static ({ cls := "ThousandLeaflets", name := "choose", desc := "(II)I" } : Jvm.MethodName)) := sb_4 (List.mem_of_getElem? (i := 223) rfl) rfl
theorem tw_944 : TW (Jvm.Cond.code ({ cls := "ThousandLeaflets", name := "choose", desc := "(II)I" } : Jvm.MethodName) prog_1_method_60_code (4 : Nat) (Option.some Jvm.ClassFile.FieldType.int)) := sb_4 (List.mem_of_getElem? (i := 224) rfl) rfl
theorem tw_945 : TW (Jvm.Cond.methodLink "ThousandLeaflets$Sets" (87 : Nat) ({ cls := "ThousandLeaflets$Basis", name := "add", desc := "(I)V" } : Jvm.MethodName)) := sb_4 (List.mem_of_getElem? (i := 225) rfl) rfl
theorem tw_946 : TW (Jvm.Cond.methodLink "ThousandLeaflets$Sets" (91 : Nat) ({ cls := "ThousandLeaflets$Equations", name := "add", desc := "(II)V" } : Jvm.MethodName)) := sb_4 (List.mem_of_getElem? (i := 226) rfl) rfl
theorem tw_947 : TW (Jvm.Cond.methodLink "ThousandLeaflets$Sets" (93 : Nat) ({ cls := "ThousandLeaflets$Equations", name := "spread", desc := "(I)I" } : Jvm.MethodName)) := sb_4 (List.mem_of_getElem? (i := 227) rfl) rfl
theorem tw_948 : TW (Jvm.Cond.methodLink "ThousandLeaflets$Sets" (96 : Nat) ({ cls := "ThousandLeaflets$Basis", name := "cut", desc := "(I)V" } : Jvm.MethodName)) := sb_4 (List.mem_of_getElem? (i := 228) rfl) rfl
theorem tw_949 : TW (Jvm.Cond.methodLink "ThousandLeaflets$Sets" (99 : Nat) ({ cls := "ThousandLeaflets$Equations", name := "cut", desc := "(I)V" } : Jvm.MethodName)) := sb_4 (List.mem_of_getElem? (i := 229) rfl) rfl
theorem tw_950 : TW (Jvm.Cond.instanceMethod ({ cls := "ThousandLeaflets$Equations", name := "cut", desc := "(I)V" } : Jvm.MethodName)) := sb_4 (List.mem_of_getElem? (i := 230) rfl) rfl
theorem tw_951 : TW (Jvm.Cond.selects "ThousandLeaflets$Equations" ({ cls := "ThousandLeaflets$Equations", name := "cut", desc := "(I)V" } : Jvm.MethodName) ({ cls := "ThousandLeaflets$Equations", name := "cut", desc := "(I)V" } : Jvm.MethodName)) := sb_4 (List.mem_of_getElem? (i := 231) rfl) rfl
theorem tw_952 : TW (Jvm.Cond.code ({ cls := "ThousandLeaflets$Equations", name := "cut", desc := "(I)V" } : Jvm.MethodName) prog_7_method_4_code (2 : Nat) (Option.none : Option Jvm.ClassFile.FieldType)) := sb_4 (List.mem_of_getElem? (i := 232) rfl) rfl
theorem tw_953 : TW (Jvm.Cond.methodLink "ThousandLeafletsLaw" (122 : Nat) ({ cls := "ThousandLeaflets", name := "enough", desc := "(IIIZ)I" } : Jvm.MethodName)) := sb_4 (List.mem_of_getElem? (i := 233) rfl) rfl
theorem tw_954 : TW (Jvm.Cond.instanceMethod ({ cls := "ThousandLeaflets", name := "enough", desc := "(IIIZ)I" } : Jvm.MethodName)) := sb_4 (List.mem_of_getElem? (i := 234) rfl) rfl
theorem tw_955 : TW (Jvm.Cond.selects "ThousandLeaflets" ({ cls := "ThousandLeaflets", name := "enough", desc := "(IIIZ)I" } : Jvm.MethodName) ({ cls := "ThousandLeaflets", name := "enough", desc := "(IIIZ)I" } : Jvm.MethodName)) := sb_4 (List.mem_of_getElem? (i := 235) rfl) rfl
theorem tw_956 : TW (Jvm.Cond.code ({ cls := "ThousandLeaflets", name := "enough", desc := "(IIIZ)I" } : Jvm.MethodName) prog_1_method_24_code (8 : Nat) (Option.some Jvm.ClassFile.FieldType.int)) := sb_4 (List.mem_of_getElem? (i := 236) rfl) rfl
theorem tw_957 : TW (Jvm.Cond.methodLink "ThousandLeaflets" (299 : Nat) ({ cls := "ThousandLeaflets", name := "choose", desc := "(II)I" } : Jvm.MethodName)) := sb_4 (List.mem_of_getElem? (i := 237) rfl) rfl
theorem tw_958 : TW (Jvm.Cond.methodLink "ThousandLeafletsLaw" (127 : Nat) ({ cls := "ThousandLeaflets", name := "average", desc := "(IIII)J" } : Jvm.MethodName)) := sb_4 (List.mem_of_getElem? (i := 238) rfl) rfl
theorem tw_959 : TW (Jvm.Cond.instanceMethod ({ cls := "ThousandLeaflets", name := "average", desc := "(IIII)J" } : Jvm.MethodName)) := sb_4 (List.mem_of_getElem? (i := 239) rfl) rfl
theorem tw_960 : TW (Jvm.Cond.selects "ThousandLeaflets" ({ cls := "ThousandLeaflets", name := "average", desc := "(IIII)J" } : Jvm.MethodName) ({ cls := "ThousandLeaflets", name := "average", desc := "(IIII)J" } : Jvm.MethodName)) := sb_5 (List.mem_of_getElem? (i := 0) rfl) rfl
theorem tw_961 : TW (Jvm.Cond.code ({ cls := "ThousandLeaflets", name := "average", desc := "(IIII)J" } : Jvm.MethodName) prog_1_method_25_code (14 : Nat) (Option.some Jvm.ClassFile.FieldType.long)) := sb_5 (List.mem_of_getElem? (i := 1) rfl) rfl
theorem tw_962 : TW (Jvm.Cond.constantLong "ThousandLeaflets" (302 : Nat) (-1 : Int64)) := sb_5 (List.mem_of_getElem? (i := 2) rfl) rfl
theorem tw_963 : TW (Jvm.Cond.methodLink "ThousandLeaflets" (304 : Nat) ({ cls := "ThousandLeaflets", name := "commonDivisor", desc := "(JJ)J" } : Jvm.MethodName)) := sb_5 (List.mem_of_getElem? (i := 3) rfl) rfl
theorem tw_964 : TW (Jvm.Cond.static ({ cls := "ThousandLeaflets", name := "commonDivisor", desc := "(JJ)J" } : Jvm.MethodName)) := sb_5 (List.mem_of_getElem? (i := 4) rfl) rfl
theorem tw_965 : TW (Jvm.Cond.code ({ cls := "ThousandLeaflets", name := "commonDivisor", desc := "(JJ)J" } : Jvm.MethodName) prog_1_method_61_code (11 : Nat) (Option.some Jvm.ClassFile.FieldType.long)) := sb_5 (List.mem_of_getElem? (i := 5) rfl) rfl
theorem tw_966 : TW (Jvm.Cond.methodLink "ThousandLeafletsLaw" (132 : Nat) ({ cls := "ThousandLeaflets", name := "degree", desc := "(IIII)I" } : Jvm.MethodName)) := sb_5 (List.mem_of_getElem? (i := 6) rfl) rfl
theorem tw_967 : TW (Jvm.Cond.instanceMethod ({ cls := "ThousandLeaflets", name := "degree", desc := "(IIII)I" } : Jvm.MethodName)) := sb_5 (List.mem_of_getElem? (i := 7) rfl) rfl
theorem tw_968 : TW (Jvm.Cond.selects "ThousandLeaflets" ({ cls := "ThousandLeaflets", name := "degree", desc := "(IIII)I" } : Jvm.MethodName) ({ cls := "ThousandLeaflets", name := "degree", desc := "(IIII)I" } : Jvm.MethodName)) := sb_5 (List.mem_of_getElem? (i := 8) rfl) rfl
theorem tw_969 : TW (Jvm.Cond.code ({ cls := "ThousandLeaflets", name := "degree", desc := "(IIII)I" } : Jvm.MethodName) prog_1_method_26_code (10 : Nat) (Option.some Jvm.ClassFile.FieldType.int)) := sb_5 (List.mem_of_getElem? (i := 9) rfl) rfl
theorem tw_970 : TW (Jvm.Cond.methodLink "ThousandLeafletsLaw" (136 : Nat) ({ cls := "ThousandLeaflets", name := "apart", desc := "(II)I" } : Jvm.MethodName)) := sb_5 (List.mem_of_getElem? (i := 10) rfl) rfl
theorem tw_971 : TW (Jvm.Cond.instanceMethod ({ cls := "ThousandLeaflets", name := "apart", desc := "(II)I" } : Jvm.MethodName)) := sb_5 (List.mem_of_getElem? (i := 11) rfl) rfl
theorem tw_972 : TW (Jvm.Cond.selects "ThousandLeaflets" ({ cls := "ThousandLeaflets", name := "apart", desc := "(II)I" } : Jvm.MethodName) ({ cls := "ThousandLeaflets", name := "apart", desc := "(II)I" } : Jvm.MethodName)) := sb_5 (List.mem_of_getElem? (i := 12) rfl) rfl
theorem tw_973 : TW (Jvm.Cond.code ({ cls := "ThousandLeaflets", name := "apart", desc := "(II)I" } : Jvm.MethodName) prog_1_method_27_code (6 : Nat) (Option.some Jvm.ClassFile.FieldType.int)) := sb_5 (List.mem_of_getElem? (i := 13) rfl) rfl
theorem tw_974 : TW (Jvm.Cond.methodLink "ThousandLeaflets" (308 : Nat) ({ cls := "ThousandLeaflets$Ways", name := "basisOf", desc := "(II)LThousandLeaflets$Basis;" } : Jvm.MethodName)) := sb_5 (List.mem_of_getElem? (i := 14) rfl) rfl
theorem tw_975 : TW (Jvm.Cond.instanceMethod ({ cls := "ThousandLeaflets$Ways", name := "basisOf", desc := "(II)LThousandLeaflets$Basis;" } : Jvm.MethodName)) := sb_5 (List.mem_of_getElem? (i := 15) rfl) rfl
theorem tw_976 : TW (Jvm.Cond.selects "ThousandLeaflets$Ways" ({ cls := "ThousandLeaflets$Ways", name := "basisOf", desc := "(II)LThousandLeaflets$Basis;" } : Jvm.MethodName) ({ cls := "ThousandLeaflets$Ways", name := "basisOf", desc := "(II)LThousandLeaflets$Basis;" } : Jvm.MethodName)) := sb_5 (List.mem_of_getElem? (i := 16) rfl) rfl
theorem tw_977 : TW (Jvm.Cond.code ({ cls := "ThousandLeaflets$Ways", name := "basisOf", desc := "(II)LThousandLeaflets$Basis;" } : Jvm.MethodName) prog_12_method_2_code (3 : Nat) (Option.some (Jvm.ClassFile.FieldType.object "ThousandLeaflets$Basis"))) := sb_5 (List.mem_of_getElem? (i := 17) rfl) rfl
theorem tw_978 : TW (Jvm.Cond.methodLink "ThousandLeaflets" (312 : Nat) ({ cls := "ThousandLeaflets$Ways", name := "findAll", desc := "(LThousandLeaflets$Heap;)V" } : Jvm.MethodName)) := sb_5 (List.mem_of_getElem? (i := 18) rfl) rfl
theorem tw_979 : TW (Jvm.Cond.instanceMethod ({ cls := "ThousandLeaflets$Ways", name := "findAll", desc := "(LThousandLeaflets$Heap;)V" } : Jvm.MethodName)) := sb_5 (List.mem_of_getElem? (i := 19) rfl) rfl
theorem tw_980 : TW (Jvm.Cond.selects "ThousandLeaflets$Ways" ({ cls := "ThousandLeaflets$Ways", name := "findAll", desc := "(LThousandLeaflets$Heap;)V" } : Jvm.MethodName) ({ cls := "ThousandLeaflets$Ways", name := "findAll", desc := "(LThousandLeaflets$Heap;)V" } : Jvm.MethodName)) := sb_5 (List.mem_of_getElem? (i := 20) rfl) rfl
theorem tw_981 : TW (Jvm.Cond.code ({ cls := "ThousandLeaflets$Ways", name := "findAll", desc := "(LThousandLeaflets$Heap;)V" } : Jvm.MethodName) prog_12_method_3_code (4 : Nat) (Option.none : Option Jvm.ClassFile.FieldType)) := sb_5 (List.mem_of_getElem? (i := 21) rfl) rfl
theorem tw_982 : TW (Jvm.Cond.methodLink "ThousandLeaflets$Ways" (41 : Nat) ({ cls := "ThousandLeaflets$Heap", name := "at", desc := "(I)LThousandLeaflets$Paper;" } : Jvm.MethodName)) := sb_5 (List.mem_of_getElem? (i := 22) rfl) rfl
theorem tw_983 : TW (Jvm.Cond.methodLink "ThousandLeaflets$Ways" (48 : Nat) ({ cls := "ThousandLeaflets$Ways", name := "allAgree", desc := "()Z" } : Jvm.MethodName)) := sb_5 (List.mem_of_getElem? (i := 23) rfl) rfl
theorem tw_985 : TW (Jvm.Cond.instanceMethod ({ cls := "ThousandLeaflets$Ways", name := "allAgree", desc := "()Z" } : Jvm.MethodName)) := sb_5 (List.mem_of_getElem? (i := 25) rfl) rfl
theorem tw_986 : TW (Jvm.Cond.code ({ cls := "ThousandLeaflets$Ways", name := "allAgree", desc := "()Z" } : Jvm.MethodName) prog_12_method_4_code (2 : Nat) (Option.some Jvm.ClassFile.FieldType.boolean)) := sb_5 (List.mem_of_getElem? (i := 26) rfl) rfl
theorem tw_987 : TW (Jvm.Cond.methodLink "ThousandLeaflets$Ways" (52 : Nat) ({ cls := "ThousandLeaflets$Ways", name := "give", desc := "(II)V" } : Jvm.MethodName)) := sb_5 (List.mem_of_getElem? (i := 27) rfl) rfl
theorem tw_989 : TW (Jvm.Cond.instanceMethod ({ cls := "ThousandLeaflets$Ways", name := "give", desc := "(II)V" } : Jvm.MethodName)) := sb_5 (List.mem_of_getElem? (i := 29) rfl) rfl
theorem tw_990 : TW (Jvm.Cond.code ({ cls := "ThousandLeaflets$Ways", name := "give", desc := "(II)V" } : Jvm.MethodName) prog_12_method_5_code (5 : Nat) (Option.none : Option Jvm.ClassFile.FieldType)) := sb_5 (List.mem_of_getElem? (i := 30) rfl) rfl
theorem tw_991 : TW (Jvm.Cond.methodLink "ThousandLeaflets$Ways" (60 : Nat) ({ cls := "ThousandLeaflets$Ways", name := "tryBook", desc := "(IILThousandLeaflets$Paper;I)V" } : Jvm.MethodName)) := sb_5 (List.mem_of_getElem? (i := 31) rfl) rfl
theorem tw_993 : TW (Jvm.Cond.instanceMethod ({ cls := "ThousandLeaflets$Ways", name := "tryBook", desc := "(IILThousandLeaflets$Paper;I)V" } : Jvm.MethodName)) := sb_5 (List.mem_of_getElem? (i := 33) rfl) rfl
theorem tw_994 : TW (Jvm.Cond.code ({ cls := "ThousandLeaflets$Ways", name := "tryBook", desc := "(IILThousandLeaflets$Paper;I)V" } : Jvm.MethodName) prog_12_method_6_code (9 : Nat) (Option.none : Option Jvm.ClassFile.FieldType)) := sb_5 (List.mem_of_getElem? (i := 34) rfl) rfl
theorem tw_995 : TW (Jvm.Cond.methodLink "ThousandLeaflets$Ways" (64 : Nat) ({ cls := "ThousandLeaflets$Ways", name := "basisOf", desc := "(II)LThousandLeaflets$Basis;" } : Jvm.MethodName)) := sb_5 (List.mem_of_getElem? (i := 35) rfl) rfl
theorem tw_996 : TW (Jvm.Cond.methodLink "ThousandLeaflets$Ways" (71 : Nat) ({ cls := "ThousandLeaflets$Paper", name := "equation", desc := "(II)I" } : Jvm.MethodName)) := sb_5 (List.mem_of_getElem? (i := 36) rfl) rfl
theorem tw_997 : TW (Jvm.Cond.methodLink "ThousandLeaflets$Ways" (75 : Nat) ({ cls := "ThousandLeaflets$Basis", name := "add", desc := "(I)V" } : Jvm.MethodName)) := sb_5 (List.mem_of_getElem? (i := 37) rfl) rfl
theorem tw_998 : TW (Jvm.Cond.methodLink "ThousandLeaflets$Ways" (79 : Nat) ({ cls := "ThousandLeaflets$Basis", name := "cut", desc := "(I)V" } : Jvm.MethodName)) := sb_5 (List.mem_of_getElem? (i := 38) rfl) rfl
theorem tw_999 : TW (Jvm.Cond.methodLink "ThousandLeaflets" (316 : Nat) ({ cls := "ThousandLeaflets$Ways", name := "bookAt", desc := "(I)I" } : Jvm.MethodName)) := sb_5 (List.mem_of_getElem? (i := 39) rfl) rfl
theorem tw_1000 : TW (Jvm.Cond.instanceMethod ({ cls := "ThousandLeaflets$Ways", name := "bookAt", desc := "(I)I" } : Jvm.MethodName)) := sb_5 (List.mem_of_getElem? (i := 40) rfl) rfl
theorem tw_1001 : TW (Jvm.Cond.selects "ThousandLeaflets$Ways" ({ cls := "ThousandLeaflets$Ways", name := "bookAt", desc := "(I)I" } : Jvm.MethodName) ({ cls := "ThousandLeaflets$Ways", name := "bookAt", desc := "(I)I" } : Jvm.MethodName)) := sb_5 (List.mem_of_getElem? (i := 41) rfl) rfl
theorem tw_1002 : TW (Jvm.Cond.code ({ cls := "ThousandLeaflets$Ways", name := "bookAt", desc := "(I)I" } : Jvm.MethodName) prog_12_method_7_code (5 : Nat) (Option.some Jvm.ClassFile.FieldType.int)) := sb_5 (List.mem_of_getElem? (i := 42) rfl) rfl
theorem tw_1003 : TW (Jvm.Cond.methodLink "ThousandLeafletsLaw" (140 : Nat) ({ cls := "ThousandLeaflets", name := "quarter", desc := "(III)Z" } : Jvm.MethodName)) := sb_5 (List.mem_of_getElem? (i := 43) rfl) rfl
theorem tw_1004 : TW (Jvm.Cond.instanceMethod ({ cls := "ThousandLeaflets", name := "quarter", desc := "(III)Z" } : Jvm.MethodName)) := sb_5 (List.mem_of_getElem? (i := 44) rfl) rfl
theorem tw_1005 : TW (Jvm.Cond.selects "ThousandLeaflets" ({ cls := "ThousandLeaflets", name := "quarter", desc := "(III)Z" } : Jvm.MethodName) ({ cls := "ThousandLeaflets", name := "quarter", desc := "(III)Z" } : Jvm.MethodName)) := sb_5 (List.mem_of_getElem? (i := 45) rfl) rfl
theorem tw_1006 : TW (Jvm.Cond.code ({ cls := "ThousandLeaflets", name := "quarter", desc := "(III)Z" } : Jvm.MethodName) prog_1_method_28_code (4 : Nat) (Option.some Jvm.ClassFile.FieldType.boolean)) := sb_5 (List.mem_of_getElem? (i := 46) rfl) rfl
theorem tw_1007 : TW (Jvm.Cond.methodLink "ThousandLeafletsLaw" (144 : Nat) ({ cls := "ThousandLeaflets", name := "scatter", desc := "(III)I" } : Jvm.MethodName)) := sb_5 (List.mem_of_getElem? (i := 47) rfl) rfl
theorem tw_1008 : TW (Jvm.Cond.instanceMethod ({ cls := "ThousandLeaflets", name := "scatter", desc := "(III)I" } : Jvm.MethodName)) := sb_5 (List.mem_of_getElem? (i := 48) rfl) rfl
theorem tw_1009 : TW (Jvm.Cond.selects "ThousandLeaflets" ({ cls := "ThousandLeaflets", name := "scatter", desc := "(III)I" } : Jvm.MethodName) ({ cls := "ThousandLeaflets", name := "scatter", desc := "(III)I" } : Jvm.MethodName)) := sb_5 (List.mem_of_getElem? (i := 49) rfl) rfl
theorem tw_1010 : TW (Jvm.Cond.code ({ cls := "ThousandLeaflets", name := "scatter", desc := "(III)I" } : Jvm.MethodName) prog_1_method_29_code (6 : Nat) (Option.some Jvm.ClassFile.FieldType.int)) := sb_5 (List.mem_of_getElem? (i := 50) rfl) rfl
theorem tw_1011 : TW (Jvm.Cond.methodLink "ThousandLeaflets" (319 : Nat) ({ cls := "ThousandLeaflets", name := "isRoomAnywhere", desc := "()Z" } : Jvm.MethodName)) := sb_5 (List.mem_of_getElem? (i := 51) rfl) rfl
theorem tw_1013 : TW (Jvm.Cond.instanceMethod ({ cls := "ThousandLeaflets", name := "isRoomAnywhere", desc := "()Z" } : Jvm.MethodName)) := sb_5 (List.mem_of_getElem? (i := 53) rfl) rfl
theorem tw_1014 : TW (Jvm.Cond.code ({ cls := "ThousandLeaflets", name := "isRoomAnywhere", desc := "()Z" } : Jvm.MethodName) prog_1_method_55_code (2 : Nat) (Option.some Jvm.ClassFile.FieldType.boolean)) := sb_5 (List.mem_of_getElem? (i := 54) rfl) rfl
theorem tw_1015 : TW (Jvm.Cond.methodLink "ThousandLeaflets" (323 : Nat) ({ cls := "ThousandLeaflets", name := "throwOne", desc := "(LThousandLeaflets$Book;I)I" } : Jvm.MethodName)) := sb_5 (List.mem_of_getElem? (i := 55) rfl) rfl
theorem tw_1017 : TW (Jvm.Cond.instanceMethod ({ cls := "ThousandLeaflets", name := "throwOne", desc := "(LThousandLeaflets$Book;I)I" } : Jvm.MethodName)) := sb_5 (List.mem_of_getElem? (i := 57) rfl) rfl
theorem tw_1018 : TW (Jvm.Cond.code ({ cls := "ThousandLeaflets", name := "throwOne", desc := "(LThousandLeaflets$Book;I)I" } : Jvm.MethodName) prog_1_method_56_code (6 : Nat) (Option.some Jvm.ClassFile.FieldType.int)) := sb_5 (List.mem_of_getElem? (i := 58) rfl) rfl
theorem tw_1019 : TW (Jvm.Cond.methodLink "ThousandLeaflets" (397 : Nat) ({ cls := "ThousandLeaflets", name := "falls", desc := "(LThousandLeaflets$Book;II)Z" } : Jvm.MethodName)) := sb_5 (List.mem_of_getElem? (i := 59) rfl) rfl
theorem tw_1021 : TW (Jvm.Cond.instanceMethod ({ cls := "ThousandLeaflets", name := "falls", desc := "(LThousandLeaflets$Book;II)Z" } : Jvm.MethodName)) := sb_5 (List.mem_of_getElem? (i := 61) rfl) rfl
theorem tw_1022 : TW (Jvm.Cond.code ({ cls := "ThousandLeaflets", name := "falls", desc := "(LThousandLeaflets$Book;II)Z" } : Jvm.MethodName) prog_1_method_54_code (4 : Nat) (Option.some Jvm.ClassFile.FieldType.boolean)) := sb_5 (List.mem_of_getElem? (i := 62) rfl) rfl
theorem tw_1023 : TW (Jvm.Cond.methodLink "ThousandLeaflets" (341 : Nat) ({ cls := "ThousandLeaflets$Heap", name := "hasAlike", desc := "(LThousandLeaflets$Paper;)Z" } : Jvm.MethodName)) := sb_5 (List.mem_of_getElem? (i := 63) rfl) rfl
theorem tw_1024 : TW (Jvm.Cond.instanceMethod ({ cls := "ThousandLeaflets$Heap", name := "hasAlike", desc := "(LThousandLeaflets$Paper;)Z" } : Jvm.MethodName)) := sb_5 (List.mem_of_getElem? (i := 64) rfl) rfl
theorem tw_1025 : TW (Jvm.Cond.selects "ThousandLeaflets$Heap" ({ cls := "ThousandLeaflets$Heap", name := "hasAlike", desc := "(LThousandLeaflets$Paper;)Z" } : Jvm.MethodName) ({ cls := "ThousandLeaflets$Heap", name := "hasAlike", desc := "(LThousandLeaflets$Paper;)Z" } : Jvm.MethodName)) := sb_5 (List.mem_of_getElem? (i := 65) rfl) rfl
theorem tw_1026 : TW (Jvm.Cond.code ({ cls := "ThousandLeaflets$Heap", name := "hasAlike", desc := "(LThousandLeaflets$Paper;)Z" } : Jvm.MethodName) prog_8_method_5_code (4 : Nat) (Option.some Jvm.ClassFile.FieldType.boolean)) := sb_5 (List.mem_of_getElem? (i := 66) rfl) rfl
theorem tw_1027 : TW (Jvm.Cond.methodLink "ThousandLeaflets$Heap" (28 : Nat) ({ cls := "ThousandLeaflets$Paper", name := "isAlike", desc := "(LThousandLeaflets$Paper;)Z" } : Jvm.MethodName)) := sb_5 (List.mem_of_getElem? (i := 67) rfl) rfl
theorem tw_1028 : TW (Jvm.Cond.instanceMethod ({ cls := "ThousandLeaflets$Paper", name := "isAlike", desc := "(LThousandLeaflets$Paper;)Z" } : Jvm.MethodName)) := sb_5 (List.mem_of_getElem? (i := 68) rfl) rfl
theorem tw_1029 : TW (Jvm.Cond.selects "ThousandLeaflets$Paper" ({ cls := "ThousandLeaflets$Paper", name := "isAlike", desc := "(LThousandLeaflets$Paper;)Z" } : Jvm.MethodName) ({ cls := "ThousandLeaflets$Paper", name := "isAlike", desc := "(LThousandLeaflets$Paper;)Z" } : Jvm.MethodName)) := sb_5 (List.mem_of_getElem? (i := 69) rfl) rfl
theorem tw_1030 : TW (Jvm.Cond.code ({ cls := "ThousandLeaflets$Paper", name := "isAlike", desc := "(LThousandLeaflets$Paper;)Z" } : Jvm.MethodName) prog_9_method_5_code (2 : Nat) (Option.some Jvm.ClassFile.FieldType.boolean)) := sb_5 (List.mem_of_getElem? (i := 70) rfl) rfl
theorem tw_1031 : TW (Jvm.Cond.methodLink "ThousandLeafletsLaw" (148 : Nat) ({ cls := "ThousandLeaflets", name := "needs", desc := "(II)I" } : Jvm.MethodName)) := sb_5 (List.mem_of_getElem? (i := 71) rfl) rfl
theorem tw_1032 : TW (Jvm.Cond.instanceMethod ({ cls := "ThousandLeaflets", name := "needs", desc := "(II)I" } : Jvm.MethodName)) := sb_5 (List.mem_of_getElem? (i := 72) rfl) rfl
theorem tw_1033 : TW (Jvm.Cond.selects "ThousandLeaflets" ({ cls := "ThousandLeaflets", name := "needs", desc := "(II)I" } : Jvm.MethodName) ({ cls := "ThousandLeaflets", name := "needs", desc := "(II)I" } : Jvm.MethodName)) := sb_5 (List.mem_of_getElem? (i := 73) rfl) rfl
theorem tw_1034 : TW (Jvm.Cond.code ({ cls := "ThousandLeaflets", name := "needs", desc := "(II)I" } : Jvm.MethodName) prog_1_method_30_code (3 : Nat) (Option.some Jvm.ClassFile.FieldType.int)) := sb_5 (List.mem_of_getElem? (i := 74) rfl) rfl
theorem tw_1035 : TW (Jvm.Cond.methodLink "ThousandLeaflets" (326 : Nat) ({ cls := "ThousandLeaflets", name := "neededIn", desc := "(ILThousandLeaflets$Book;)I" } : Jvm.MethodName)) := sb_5 (List.mem_of_getElem? (i := 75) rfl) rfl
theorem tw_1037 : TW (Jvm.Cond.instanceMethod ({ cls := "ThousandLeaflets", name := "neededIn", desc := "(ILThousandLeaflets$Book;)I" } : Jvm.MethodName)) := sb_5 (List.mem_of_getElem? (i := 77) rfl) rfl
theorem tw_1038 : TW (Jvm.Cond.code ({ cls := "ThousandLeaflets", name := "neededIn", desc := "(ILThousandLeaflets$Book;)I" } : Jvm.MethodName) prog_1_method_57_code (6 : Nat) (Option.some Jvm.ClassFile.FieldType.int)) := sb_5 (List.mem_of_getElem? (i := 78) rfl) rfl
theorem tw_1039 : TW (Jvm.Cond.methodLink "ThousandLeafletsLaw" (152 : Nat) ({ cls := "ThousandLeaflets", name := "town", desc := "(II)I" } : Jvm.MethodName)) := sb_5 (List.mem_of_getElem? (i := 79) rfl) rfl
theorem tw_1040 : TW (Jvm.Cond.instanceMethod ({ cls := "ThousandLeaflets", name := "town", desc := "(II)I" } : Jvm.MethodName)) := sb_5 (List.mem_of_getElem? (i := 80) rfl) rfl
theorem tw_1041 : TW (Jvm.Cond.selects "ThousandLeaflets" ({ cls := "ThousandLeaflets", name := "town", desc := "(II)I" } : Jvm.MethodName) ({ cls := "ThousandLeaflets", name := "town", desc := "(II)I" } : Jvm.MethodName)) := sb_5 (List.mem_of_getElem? (i := 81) rfl) rfl
theorem tw_1042 : TW (Jvm.Cond.code ({ cls := "ThousandLeaflets", name := "town", desc := "(II)I" } : Jvm.MethodName) prog_1_method_31_code (5 : Nat) (Option.some Jvm.ClassFile.FieldType.int)) := sb_5 (List.mem_of_getElem? (i := 82) rfl) rfl
theorem tw_1043 : TW (Jvm.Cond.methodLink "ThousandLeaflets" (330 : Nat) ({ cls := "ThousandLeaflets", name := "allHouses", desc := "()I" } : Jvm.MethodName)) := sb_5 (List.mem_of_getElem? (i := 83) rfl) rfl
theorem tw_1045 : TW (Jvm.Cond.instanceMethod ({ cls := "ThousandLeaflets", name := "allHouses", desc := "()I" } : Jvm.MethodName)) := sb_5 (List.mem_of_getElem? (i := 85) rfl) rfl
theorem tw_1046 : TW (Jvm.Cond.code ({ cls := "ThousandLeaflets", name := "allHouses", desc := "()I" } : Jvm.MethodName) prog_1_method_58_code (3 : Nat) (Option.some Jvm.ClassFile.FieldType.int)) := sb_5 (List.mem_of_getElem? (i := 86) rfl) rfl
theorem tw_1047 : TW (Jvm.Cond.methodLink "ThousandLeaflets" (333 : Nat) ({ cls := "ThousandLeaflets", name := "housesServed", desc := "(I)I" } : Jvm.MethodName)) := sb_5 (List.mem_of_getElem? (i := 87) rfl) rfl
theorem tw_1049 : TW (Jvm.Cond.instanceMethod ({ cls := "ThousandLeaflets", name := "housesServed", desc := "(I)I" } : Jvm.MethodName)) := sb_5 (List.mem_of_getElem? (i := 89) rfl) rfl
theorem tw_1050 : TW (Jvm.Cond.code ({ cls := "ThousandLeaflets", name := "housesServed", desc := "(I)I" } : Jvm.MethodName) prog_1_method_59_code (4 : Nat) (Option.some Jvm.ClassFile.FieldType.int)) := sb_5 (List.mem_of_getElem? (i := 90) rfl) rfl
theorem tw_1051 : TW (Jvm.Cond.methodLink "ThousandLeafletsLaw" (156 : Nat) ({ cls := "ThousandLeaflets", name := "swap", desc := "(III)I" } : Jvm.MethodName)) := sb_5 (List.mem_of_getElem? (i := 91) rfl) rfl
theorem tw_1052 : TW (Jvm.Cond.instanceMethod ({ cls := "ThousandLeaflets", name := "swap", desc := "(III)I" } : Jvm.MethodName)) := sb_5 (List.mem_of_getElem? (i := 92) rfl) rfl
theorem tw_1053 : TW (Jvm.Cond.selects "ThousandLeaflets" ({ cls := "ThousandLeaflets", name := "swap", desc := "(III)I" } : Jvm.MethodName) ({ cls := "ThousandLeaflets", name := "swap", desc := "(III)I" } : Jvm.MethodName)) := sb_5 (List.mem_of_getElem? (i := 93) rfl) rfl
theorem tw_1054 : TW (Jvm.Cond.code ({ cls := "ThousandLeaflets", name := "swap", desc := "(III)I" } : Jvm.MethodName) prog_1_method_32_code (9 : Nat) (Option.some Jvm.ClassFile.FieldType.int)) := sb_5 (List.mem_of_getElem? (i := 94) rfl) rfl
theorem tw_1055 : TW (Jvm.Cond.methodLink "ThousandLeafletsLaw" (160 : Nat) ({ cls := "ThousandLeaflets", name := "mark", desc := "(IZ)Z" } : Jvm.MethodName)) := sb_5 (List.mem_of_getElem? (i := 95) rfl) rfl
theorem tw_1056 : TW (Jvm.Cond.instanceMethod ({ cls := "ThousandLeaflets", name := "mark", desc := "(IZ)Z" } : Jvm.MethodName)) := sb_5 (List.mem_of_getElem? (i := 96) rfl) rfl
theorem tw_1057 : TW (Jvm.Cond.selects "ThousandLeaflets" ({ cls := "ThousandLeaflets", name := "mark", desc := "(IZ)Z" } : Jvm.MethodName) ({ cls := "ThousandLeaflets", name := "mark", desc := "(IZ)Z" } : Jvm.MethodName)) := sb_5 (List.mem_of_getElem? (i := 97) rfl) rfl
theorem tw_1058 : TW (Jvm.Cond.code ({ cls := "ThousandLeaflets", name := "mark", desc := "(IZ)Z" } : Jvm.MethodName) prog_1_method_33_code (5 : Nat) (Option.some Jvm.ClassFile.FieldType.boolean)) := sb_5 (List.mem_of_getElem? (i := 98) rfl) rfl
theorem tw_1059 : TW (Jvm.Cond.methodLink "ThousandLeaflets" (345 : Nat) ({ cls := "ThousandLeaflets$Heap", name := "copy", desc := "(LThousandLeaflets$Heap;)V" } : Jvm.MethodName)) := sb_5 (List.mem_of_getElem? (i := 99) rfl) rfl
theorem tw_1060 : TW (Jvm.Cond.instanceMethod ({ cls := "ThousandLeaflets$Heap", name := "copy", desc := "(LThousandLeaflets$Heap;)V" } : Jvm.MethodName)) := sb_5 (List.mem_of_getElem? (i := 100) rfl) rfl
theorem tw_1061 : TW (Jvm.Cond.selects "ThousandLeaflets$Heap" ({ cls := "ThousandLeaflets$Heap", name := "copy", desc := "(LThousandLeaflets$Heap;)V" } : Jvm.MethodName) ({ cls := "ThousandLeaflets$Heap", name := "copy", desc := "(LThousandLeaflets$Heap;)V" } : Jvm.MethodName)) := sb_5 (List.mem_of_getElem? (i := 101) rfl) rfl
theorem tw_1062 : TW (Jvm.Cond.code ({ cls := "ThousandLeaflets$Heap", name := "copy", desc := "(LThousandLeaflets$Heap;)V" } : Jvm.MethodName) prog_8_method_10_code (3 : Nat) (Option.none : Option Jvm.ClassFile.FieldType)) := sb_5 (List.mem_of_getElem? (i := 102) rfl) rfl
theorem tw_1063 : TW (Jvm.Cond.methodLink "ThousandLeafletsLaw" (165 : Nat) ({ cls := "ThousandLeaflets", name := "count", desc := "(I)I" } : Jvm.MethodName)) := sb_5 (List.mem_of_getElem? (i := 103) rfl) rfl
theorem tw_1064 : TW (Jvm.Cond.instanceMethod ({ cls := "ThousandLeaflets", name := "count", desc := "(I)I" } : Jvm.MethodName)) := sb_5 (List.mem_of_getElem? (i := 104) rfl) rfl
theorem tw_1065 : TW (Jvm.Cond.selects "ThousandLeaflets" ({ cls := "ThousandLeaflets", name := "count", desc := "(I)I" } : Jvm.MethodName) ({ cls := "ThousandLeaflets", name := "count", desc := "(I)I" } : Jvm.MethodName)) := sb_5 (List.mem_of_getElem? (i := 105) rfl) rfl
theorem tw_1066 : TW (Jvm.Cond.code ({ cls := "ThousandLeaflets", name := "count", desc := "(I)I" } : Jvm.MethodName) prog_1_method_34_code (2 : Nat) (Option.some Jvm.ClassFile.FieldType.int)) := sb_5 (List.mem_of_getElem? (i := 106) rfl) rfl
theorem tw_1071 : TW (Jvm.Cond.methodLink "ThousandLeafletsLaw" (7 : Nat) ({ cls := "ThousandLeaflets", name := "paper", desc := "(III)I" } : Jvm.MethodName)) := sb_5 (List.mem_of_getElem? (i := 111) rfl) rfl
theorem tw_1072 : TW (Jvm.Cond.instanceMethod ({ cls := "ThousandLeaflets", name := "paper", desc := "(III)I" } : Jvm.MethodName)) := sb_5 (List.mem_of_getElem? (i := 112) rfl) rfl
theorem tw_1073 : TW (Jvm.Cond.selects "ThousandLeaflets" ({ cls := "ThousandLeaflets", name := "paper", desc := "(III)I" } : Jvm.MethodName) ({ cls := "ThousandLeaflets", name := "paper", desc := "(III)I" } : Jvm.MethodName)) := sb_5 (List.mem_of_getElem? (i := 113) rfl) rfl
theorem tw_1074 : TW (Jvm.Cond.code ({ cls := "ThousandLeaflets", name := "paper", desc := "(III)I" } : Jvm.MethodName) prog_1_method_12_code (5 : Nat) (Option.some Jvm.ClassFile.FieldType.int)) := sb_5 (List.mem_of_getElem? (i := 114) rfl) rfl
theorem tw_1136 : TW (Jvm.Cond.methodLink "ThousandLeaflets" (206 : Nat) ({ cls := "ThousandLeaflets", name := "unknownPages", desc := "(ILThousandLeaflets$Paper;)I" } : Jvm.MethodName)) := sb_5 (List.mem_of_getElem? (i := 176) rfl) rfl
theorem tw_1138 : TW (Jvm.Cond.instanceMethod ({ cls := "ThousandLeaflets", name := "unknownPages", desc := "(ILThousandLeaflets$Paper;)I" } : Jvm.MethodName)) := sb_5 (List.mem_of_getElem? (i := 178) rfl) rfl
theorem tw_1139 : TW (Jvm.Cond.code ({ cls := "ThousandLeaflets", name := "unknownPages", desc := "(ILThousandLeaflets$Paper;)I" } : Jvm.MethodName) prog_1_method_48_code (5 : Nat) (Option.some Jvm.ClassFile.FieldType.int)) := sb_5 (List.mem_of_getElem? (i := 179) rfl) rfl
theorem tw_1140 : TW (Jvm.Cond.constant "ThousandLeaflets" (364 : Nat) (1048575 : Int32)) := sb_5 (List.mem_of_getElem? (i := 180) rfl) rfl
theorem tw_1141 : TW (Jvm.Cond.methodLink "ThousandLeaflets" (368 : Nat) ({ cls := "ThousandLeaflets$Paper", name := "pagesBy", desc := "(I)I" } : Jvm.MethodName)) := sb_5 (List.mem_of_getElem? (i := 181) rfl) rfl
theorem tw_1142 : TW (Jvm.Cond.methodLink "ThousandLeafletsLaw" (74 : Nat) ({ cls := "ThousandLeafletsModel", name := "thrown", desc := "()I" } : Jvm.MethodName)) := sb_5 (List.mem_of_getElem? (i := 182) rfl) rfl
theorem tw_1143 : TW (Jvm.Cond.instanceMethod ({ cls := "ThousandLeafletsModel", name := "thrown", desc := "()I" } : Jvm.MethodName)) := sb_5 (List.mem_of_getElem? (i := 183) rfl) rfl
theorem tw_1144 : TW (Jvm.Cond.selects "ThousandLeafletsModel" ({ cls := "ThousandLeafletsModel", name := "thrown", desc := "()I" } : Jvm.MethodName) ({ cls := "ThousandLeafletsModel", name := "thrown", desc := "()I" } : Jvm.MethodName)) := sb_5 (List.mem_of_getElem? (i := 184) rfl) rfl
theorem tw_1145 : TW (Jvm.Cond.code ({ cls := "ThousandLeafletsModel", name := "thrown", desc := "()I" } : Jvm.MethodName) prog_14_method_1_code (1 : Nat) (Option.some Jvm.ClassFile.FieldType.int)) := sb_5 (List.mem_of_getElem? (i := 185) rfl) rfl
theorem tw_1146 : TW (Jvm.Cond.methodLink "ThousandLeafletsLaw" (35 : Nat) ({ cls := "ThousandLeafletsModel", name := "feed", desc := "(JJJ)I" } : Jvm.MethodName)) := sb_5 (List.mem_of_getElem? (i := 186) rfl) rfl
theorem tw_1147 : TW (Jvm.Cond.instanceMethod ({ cls := "ThousandLeafletsModel", name := "feed", desc := "(JJJ)I" } : Jvm.MethodName)) := sb_5 (List.mem_of_getElem? (i := 187) rfl) rfl
theorem tw_1148 : TW (Jvm.Cond.selects "ThousandLeafletsModel" ({ cls := "ThousandLeafletsModel", name := "feed", desc := "(JJJ)I" } : Jvm.MethodName) ({ cls := "ThousandLeafletsModel", name := "feed", desc := "(JJJ)I" } : Jvm.MethodName)) := sb_5 (List.mem_of_getElem? (i := 188) rfl) rfl
theorem tw_1149 : TW (Jvm.Cond.code ({ cls := "ThousandLeafletsModel", name := "feed", desc := "(JJJ)I" } : Jvm.MethodName) prog_14_method_2_code (7 : Nat) (Option.some Jvm.ClassFile.FieldType.int)) := sb_5 (List.mem_of_getElem? (i := 189) rfl) rfl
theorem tw_1150 : TW (Jvm.Cond.methodLink "ThousandLeafletsModel" (7 : Nat) ({ cls := "ThousandLeafletsModel", name := "lay", desc := "(J)V" } : Jvm.MethodName)) := sb_5 (List.mem_of_getElem? (i := 190) rfl) rfl
theorem tw_1152 : TW (Jvm.Cond.instanceMethod ({ cls := "ThousandLeafletsModel", name := "lay", desc := "(J)V" } : Jvm.MethodName)) := sb_5 (List.mem_of_getElem? (i := 192) rfl) rfl
theorem tw_1153 : TW (Jvm.Cond.instantiable "ThousandLeafletsModel" (48 : Nat)) := sb_5 (List.mem_of_getElem? (i := 193) rfl) rfl
theorem tw_1154 : TW (Jvm.Cond.code ({ cls := "ThousandLeafletsModel", name := "lay", desc := "(J)V" } : Jvm.MethodName) prog_14_method_3_code (5 : Nat) (Option.none : Option Jvm.ClassFile.FieldType)) := sb_5 (List.mem_of_getElem? (i := 194) rfl) rfl
theorem tw_1155 : TW (Jvm.Cond.classLink "ThousandLeafletsLaw" (16 : Nat) "ThousandLeafletsModel") := sb_5 (List.mem_of_getElem? (i := 195) rfl) rfl
theorem tw_1156 : TW (Jvm.Cond.methodLink "ThousandLeafletsLaw" (18 : Nat) ({ cls := "ThousandLeafletsModel", name := "<init>", desc := "()V" } : Jvm.MethodName)) := sb_5 (List.mem_of_getElem? (i := 196) rfl) rfl
theorem tw_1157 : TW (Jvm.Cond.instanceMethod ({ cls := "ThousandLeafletsModel", name := "<init>", desc := "()V" } : Jvm.MethodName)) := sb_5 (List.mem_of_getElem? (i := 197) rfl) rfl
theorem tw_1158 : TW (Jvm.Cond.code ({ cls := "ThousandLeafletsModel", name := "<init>", desc := "()V" } : Jvm.MethodName) prog_14_method_4_code (2 : Nat) (Option.none : Option Jvm.ClassFile.FieldType)) := sb_5 (List.mem_of_getElem? (i := 198) rfl) rfl
theorem tw_1159 : TW (Jvm.Cond.methodLink "ThousandLeafletsModel" (18 : Nat) ({ cls := "java/lang/Object", name := "<init>", desc := "()V" } : Jvm.MethodName)) := sb_5 (List.mem_of_getElem? (i := 199) rfl) rfl
theorem tw_1160 : TW (Jvm.Cond.constantLong "ThousandLeafletsModel" (34 : Nat) (765438 : Int64)) := sb_5 (List.mem_of_getElem? (i := 200) rfl) rfl
theorem tw_1161 : TW (Jvm.Cond.constantLong "ThousandLeafletsModel" (36 : Nat) (11726208 : Int64)) := sb_5 (List.mem_of_getElem? (i := 201) rfl) rfl
theorem tw_1162 : TW (Jvm.Cond.constantLong "ThousandLeafletsModel" (38 : Nat) (26801 : Int64)) := sb_5 (List.mem_of_getElem? (i := 202) rfl) rfl
theorem tw_1163 : TW (Jvm.Cond.constantLong "ThousandLeafletsModel" (40 : Nat) (969301 : Int64)) := sb_5 (List.mem_of_getElem? (i := 203) rfl) rfl
theorem tw_1164 : TW (Jvm.Cond.fieldLink "ThousandLeafletsModel" (1 : Nat) "ThousandLeafletsModel" "thrown" "I") := sb_5 (List.mem_of_getElem? (i := 204) rfl) rfl
theorem tw_1165 : TW (Jvm.Cond.fieldLink "ThousandLeafletsModel" (14 : Nat) "ThousandLeafletsModel" "tape" "[I") := sb_5 (List.mem_of_getElem? (i := 205) rfl) rfl
theorem tw_1166 : TW (Jvm.Cond.fieldLink "ThousandLeafletsModel" (11 : Nat) "ThousandLeafletsModel" "taped" "I") := sb_5 (List.mem_of_getElem? (i := 206) rfl) rfl
theorem tw_1167 : TW (Jvm.Cond.fieldLink "ThousandLeafletsModel" (140 : Nat) "ThousandLeafletsModel" "size" "I") := sb_5 (List.mem_of_getElem? (i := 207) rfl) rfl
theorem tw_1168 : TW (Jvm.Cond.fieldLink "ThousandLeafletsModel" (24 : Nat) "ThousandLeafletsModel" "sort" "[I") := sb_5 (List.mem_of_getElem? (i := 208) rfl) rfl
theorem tw_1169 : TW (Jvm.Cond.fieldLink "ThousandLeafletsModel" (27 : Nat) "ThousandLeafletsModel" "place" "[I") := sb_5 (List.mem_of_getElem? (i := 209) rfl) rfl
theorem tw_1170 : TW (Jvm.Cond.fieldLink "ThousandLeafletsModel" (30 : Nat) "ThousandLeafletsModel" "value" "[J") := sb_5 (List.mem_of_getElem? (i := 210) rfl) rfl
theorem tw_1171 : TW (Jvm.Cond.fieldLink "ThousandLeafletsModel" (159 : Nat) "ThousandLeafletsModel" "at" "I") := sb_5 (List.mem_of_getElem? (i := 211) rfl) rfl
theorem tw_1172 : TW (Jvm.Cond.fieldLink "ThousandLeafletsModel" (162 : Nat) "ThousandLeafletsModel" "fault" "I") := sb_5 (List.mem_of_getElem? (i := 212) rfl) rfl
theorem tw_1173 : TW (Jvm.Cond.fieldLink "ThousandLeafletsModel" (42 : Nat) "ThousandLeafletsModel" "words" "[J") := sb_5 (List.mem_of_getElem? (i := 213) rfl) rfl
theorem tw_1174 : TW (Jvm.Cond.fieldLink "ThousandLeafletsModel" (45 : Nat) "ThousandLeafletsModel" "pages" "[I") := sb_5 (List.mem_of_getElem? (i := 214) rfl) rfl
theorem tw_1175 : TW (Jvm.Cond.fieldLink "ThousandLeafletsModel" (48 : Nat) "ThousandLeafletsModel" "page" "[I") := sb_5 (List.mem_of_getElem? (i := 215) rfl) rfl
theorem tw_1176 : TW (Jvm.Cond.fieldLink "ThousandLeafletsModel" (51 : Nat) "ThousandLeafletsModel" "odds" "[I") := sb_5 (List.mem_of_getElem? (i := 216) rfl) rfl
theorem tw_1177 : TW (Jvm.Cond.fieldLink "ThousandLeafletsModel" (54 : Nat) "ThousandLeafletsModel" "firstBelow" "[I") := sb_5 (List.mem_of_getElem? (i := 217) rfl) rfl
theorem tw_1178 : TW (Jvm.Cond.fieldLink "ThousandLeafletsModel" (57 : Nat) "ThousandLeafletsModel" "firstWeight" "[I") := sb_5 (List.mem_of_getElem? (i := 218) rfl) rfl
theorem tw_1179 : TW (Jvm.Cond.fieldLink "ThousandLeafletsModel" (60 : Nat) "ThousandLeafletsModel" "sums" "[I") := sb_5 (List.mem_of_getElem? (i := 219) rfl) rfl
theorem tw_1180 : TW (Jvm.Cond.fieldLink "ThousandLeafletsModel" (63 : Nat) "ThousandLeafletsModel" "sumSet" "[I") := sb_5 (List.mem_of_getElem? (i := 220) rfl) rfl
theorem tw_1181 : TW (Jvm.Cond.fieldLink "ThousandLeafletsModel" (66 : Nat) "ThousandLeafletsModel" "sealBy" "[I") := sb_5 (List.mem_of_getElem? (i := 221) rfl) rfl
theorem tw_1182 : TW (Jvm.Cond.fieldLink "ThousandLeafletsModel" (202 : Nat) "ThousandLeafletsModel" "readPages" "I") := sb_5 (List.mem_of_getElem? (i := 222) rfl) rfl
theorem tw_1183 : TW (Jvm.Cond.fieldLink "ThousandLeafletsModel" (226 : Nat) "ThousandLeafletsModel" "seed" "J") := sb_5 (List.mem_of_getElem? (i := 223) rfl) rfl
theorem tw_1184 : TW (Jvm.Cond.fieldLink "ThousandLeafletsModel" (69 : Nat) "ThousandLeafletsModel" "sizes" "[I") := sb_5 (List.mem_of_getElem? (i := 224) rfl) rfl
theorem tw_1185 : TW (Jvm.Cond.fieldLink "ThousandLeafletsModel" (72 : Nat) "ThousandLeafletsModel" "numberOf" "[I") := sb_5 (List.mem_of_getElem? (i := 225) rfl) rfl
theorem tw_1186 : TW (Jvm.Cond.fieldLink "ThousandLeafletsModel" (75 : Nat) "ThousandLeafletsModel" "bookOf" "[I") := sb_5 (List.mem_of_getElem? (i := 226) rfl) rfl
theorem tw_1187 : TW (Jvm.Cond.fieldLink "ThousandLeafletsModel" (78 : Nat) "ThousandLeafletsModel" "sumOn" "[I") := sb_5 (List.mem_of_getElem? (i := 227) rfl) rfl
theorem tw_1188 : TW (Jvm.Cond.fieldLink "ThousandLeafletsModel" (81 : Nat) "ThousandLeafletsModel" "bytesOn" "[I") := sb_5 (List.mem_of_getElem? (i := 228) rfl) rfl
theorem tw_1189 : TW (Jvm.Cond.fieldLink "ThousandLeafletsModel" (84 : Nat) "ThousandLeafletsModel" "sealOn" "[I") := sb_5 (List.mem_of_getElem? (i := 229) rfl) rfl
theorem tw_1190 : TW (Jvm.Cond.fieldLink "ThousandLeafletsModel" (87 : Nat) "ThousandLeafletsModel" "isMarked" "[Z") := sb_5 (List.mem_of_getElem? (i := 230) rfl) rfl
theorem tw_1191 : TW (Jvm.Cond.fieldLink "ThousandLeafletsModel" (288 : Nat) "ThousandLeafletsModel" "thrownOut" "I") := sb_5 (List.mem_of_getElem? (i := 231) rfl) rfl
theorem tw_1192 : TW (Jvm.Cond.fieldLink "ThousandLeafletsModel" (305 : Nat) "ThousandLeafletsModel" "equations" "I") := sb_5 (List.mem_of_getElem? (i := 232) rfl) rfl
theorem tw_1193 : TW (Jvm.Cond.fieldLink "ThousandLeafletsModel" (91 : Nat) "ThousandLeafletsModel" "sets" "[I") := sb_5 (List.mem_of_getElem? (i := 233) rfl) rfl
theorem tw_1194 : TW (Jvm.Cond.fieldLink "ThousandLeafletsModel" (94 : Nat) "ThousandLeafletsModel" "bytes" "[I") := sb_5 (List.mem_of_getElem? (i := 234) rfl) rfl
theorem tw_1195 : TW (Jvm.Cond.fieldLink "ThousandLeafletsModel" (97 : Nat) "ThousandLeafletsModel" "fromPlace" "[I") := sb_5 (List.mem_of_getElem? (i := 235) rfl) rfl
theorem tw_1196 : TW (Jvm.Cond.fieldLink "ThousandLeafletsModel" (100 : Nat) "ThousandLeafletsModel" "isLeft" "[Z") := sb_5 (List.mem_of_getElem? (i := 236) rfl) rfl
theorem tw_1197 : TW (Jvm.Cond.fieldLink "ThousandLeafletsModel" (318 : Nat) "ThousandLeafletsModel" "peeled" "I") := sb_5 (List.mem_of_getElem? (i := 237) rfl) rfl
theorem tw_1198 : TW (Jvm.Cond.fieldLink "ThousandLeafletsModel" (103 : Nat) "ThousandLeafletsModel" "byteBy" "[I") := sb_5 (List.mem_of_getElem? (i := 238) rfl) rfl
theorem tw_1199 : TW (Jvm.Cond.fieldLink "ThousandLeafletsModel" (324 : Nat) "ThousandLeafletsModel" "rank" "I") := sb_5 (List.mem_of_getElem? (i := 239) rfl) rfl
theorem tw_1200 : TW (Jvm.Cond.fieldLink "ThousandLeafletsModel" (326 : Nat) "ThousandLeafletsModel" "doAgree" "Z") := sb_6 (List.mem_of_getElem? (i := 0) rfl) rfl
theorem tw_1201 : TW (Jvm.Cond.fieldLink "ThousandLeafletsModel" (106 : Nat) "ThousandLeafletsModel" "leadSet" "[I") := sb_6 (List.mem_of_getElem? (i := 1) rfl) rfl
theorem tw_1202 : TW (Jvm.Cond.fieldLink "ThousandLeafletsModel" (109 : Nat) "ThousandLeafletsModel" "leadByte" "[I") := sb_6 (List.mem_of_getElem? (i := 2) rfl) rfl
theorem tw_1203 : TW (Jvm.Cond.fieldLink "ThousandLeafletsModel" (361 : Nat) "ThousandLeafletsModel" "slippedMany" "I") := sb_6 (List.mem_of_getElem? (i := 3) rfl) rfl
theorem tw_1204 : TW (Jvm.Cond.fieldLink "ThousandLeafletsModel" (112 : Nat) "ThousandLeafletsModel" "slippedAt" "[I") := sb_6 (List.mem_of_getElem? (i := 4) rfl) rfl
theorem tw_1205 : TW (Jvm.Cond.fieldLink "ThousandLeafletsModel" (115 : Nat) "ThousandLeafletsModel" "withoutSets" "[I") := sb_6 (List.mem_of_getElem? (i := 5) rfl) rfl
theorem tw_1206 : TW (Jvm.Cond.fieldLink "ThousandLeafletsModel" (118 : Nat) "ThousandLeafletsModel" "withoutBytes" "[I") := sb_6 (List.mem_of_getElem? (i := 6) rfl) rfl
theorem tw_1207 : TW (Jvm.Cond.fieldLink "ThousandLeafletsModel" (121 : Nat) "ThousandLeafletsModel" "sixty" "[I") := sb_6 (List.mem_of_getElem? (i := 7) rfl) rfl
theorem tw_1208 : TW (Jvm.Cond.fieldLink "ThousandLeafletsModel" (124 : Nat) "ThousandLeafletsModel" "oddsKept" "[I") := sb_6 (List.mem_of_getElem? (i := 8) rfl) rfl
theorem tw_1209 : TW (Jvm.Cond.fieldLink "ThousandLeafletsModel" (127 : Nat) "ThousandLeafletsModel" "burn" "[I") := sb_6 (List.mem_of_getElem? (i := 9) rfl) rfl
theorem tw_1210 : TW (Jvm.Cond.fieldLink "ThousandLeafletsModel" (130 : Nat) "ThousandLeafletsModel" "houses" "[I") := sb_6 (List.mem_of_getElem? (i := 10) rfl) rfl
theorem tw_1211 : TW (Jvm.Cond.fieldLink "ThousandLeafletsModel" (133 : Nat) "ThousandLeafletsModel" "need" "[I") := sb_6 (List.mem_of_getElem? (i := 11) rfl) rfl
theorem tw_1212 : TW (Jvm.Cond.lays "ThousandLeafletsModel" "ThousandLeafletsModel" "thrown" "I") := sb_6 (List.mem_of_getElem? (i := 12) rfl) rfl
theorem tw_1214 : TW (Jvm.Cond.laysFinal "ThousandLeafletsModel" "ThousandLeafletsModel" "tape" "[I") := sb_6 (List.mem_of_getElem? (i := 14) rfl) rfl
theorem tw_1216 : TW (Jvm.Cond.lays "ThousandLeafletsModel" "ThousandLeafletsModel" "taped" "I") := sb_6 (List.mem_of_getElem? (i := 16) rfl) rfl
theorem tw_1218 : TW (Jvm.Cond.lays "ThousandLeafletsModel" "ThousandLeafletsModel" "size" "I") := sb_6 (List.mem_of_getElem? (i := 18) rfl) rfl
theorem tw_1220 : TW (Jvm.Cond.laysFinal "ThousandLeafletsModel" "ThousandLeafletsModel" "sort" "[I") := sb_6 (List.mem_of_getElem? (i := 20) rfl) rfl
theorem tw_1222 : TW (Jvm.Cond.laysFinal "ThousandLeafletsModel" "ThousandLeafletsModel" "place" "[I") := sb_6 (List.mem_of_getElem? (i := 22) rfl) rfl
theorem tw_1224 : TW (Jvm.Cond.laysFinal "ThousandLeafletsModel" "ThousandLeafletsModel" "value" "[J") := sb_6 (List.mem_of_getElem? (i := 24) rfl) rfl
theorem tw_1226 : TW (Jvm.Cond.lays "ThousandLeafletsModel" "ThousandLeafletsModel" "at" "I") := sb_6 (List.mem_of_getElem? (i := 26) rfl) rfl
theorem tw_1228 : TW (Jvm.Cond.lays "ThousandLeafletsModel" "ThousandLeafletsModel" "fault" "I") := sb_6 (List.mem_of_getElem? (i := 28) rfl) rfl
theorem tw_1230 : TW (Jvm.Cond.laysFinal "ThousandLeafletsModel" "ThousandLeafletsModel" "words" "[J") := sb_6 (List.mem_of_getElem? (i := 30) rfl) rfl
theorem tw_1232 : TW (Jvm.Cond.laysFinal "ThousandLeafletsModel" "ThousandLeafletsModel" "pages" "[I") := sb_6 (List.mem_of_getElem? (i := 32) rfl) rfl
theorem tw_1234 : TW (Jvm.Cond.laysFinal "ThousandLeafletsModel" "ThousandLeafletsModel" "page" "[I") := sb_6 (List.mem_of_getElem? (i := 34) rfl) rfl
theorem tw_1236 : TW (Jvm.Cond.laysFinal "ThousandLeafletsModel" "ThousandLeafletsModel" "odds" "[I") := sb_6 (List.mem_of_getElem? (i := 36) rfl) rfl
theorem tw_1238 : TW (Jvm.Cond.laysFinal "ThousandLeafletsModel" "ThousandLeafletsModel" "firstBelow" "[I") := sb_6 (List.mem_of_getElem? (i := 38) rfl) rfl
theorem tw_1240 : TW (Jvm.Cond.laysFinal "ThousandLeafletsModel" "ThousandLeafletsModel" "firstWeight" "[I") := sb_6 (List.mem_of_getElem? (i := 40) rfl) rfl
theorem tw_1242 : TW (Jvm.Cond.laysFinal "ThousandLeafletsModel" "ThousandLeafletsModel" "sums" "[I") := sb_6 (List.mem_of_getElem? (i := 42) rfl) rfl
theorem tw_1244 : TW (Jvm.Cond.laysFinal "ThousandLeafletsModel" "ThousandLeafletsModel" "sumSet" "[I") := sb_6 (List.mem_of_getElem? (i := 44) rfl) rfl
theorem tw_1246 : TW (Jvm.Cond.laysFinal "ThousandLeafletsModel" "ThousandLeafletsModel" "sealBy" "[I") := sb_6 (List.mem_of_getElem? (i := 46) rfl) rfl
theorem tw_1248 : TW (Jvm.Cond.lays "ThousandLeafletsModel" "ThousandLeafletsModel" "readPages" "I") := sb_6 (List.mem_of_getElem? (i := 48) rfl) rfl
theorem tw_1250 : TW (Jvm.Cond.lays "ThousandLeafletsModel" "ThousandLeafletsModel" "seed" "J") := sb_6 (List.mem_of_getElem? (i := 50) rfl) rfl
theorem tw_1252 : TW (Jvm.Cond.laysFinal "ThousandLeafletsModel" "ThousandLeafletsModel" "sizes" "[I") := sb_6 (List.mem_of_getElem? (i := 52) rfl) rfl
theorem tw_1254 : TW (Jvm.Cond.laysFinal "ThousandLeafletsModel" "ThousandLeafletsModel" "numberOf" "[I") := sb_6 (List.mem_of_getElem? (i := 54) rfl) rfl
theorem tw_1256 : TW (Jvm.Cond.laysFinal "ThousandLeafletsModel" "ThousandLeafletsModel" "bookOf" "[I") := sb_6 (List.mem_of_getElem? (i := 56) rfl) rfl
theorem tw_1258 : TW (Jvm.Cond.laysFinal "ThousandLeafletsModel" "ThousandLeafletsModel" "sumOn" "[I") := sb_6 (List.mem_of_getElem? (i := 58) rfl) rfl
theorem tw_1260 : TW (Jvm.Cond.laysFinal "ThousandLeafletsModel" "ThousandLeafletsModel" "bytesOn" "[I") := sb_6 (List.mem_of_getElem? (i := 60) rfl) rfl
theorem tw_1262 : TW (Jvm.Cond.laysFinal "ThousandLeafletsModel" "ThousandLeafletsModel" "sealOn" "[I") := sb_6 (List.mem_of_getElem? (i := 62) rfl) rfl
theorem tw_1264 : TW (Jvm.Cond.laysFinal "ThousandLeafletsModel" "ThousandLeafletsModel" "isMarked" "[Z") := sb_6 (List.mem_of_getElem? (i := 64) rfl) rfl
theorem tw_1266 : TW (Jvm.Cond.lays "ThousandLeafletsModel" "ThousandLeafletsModel" "thrownOut" "I") := sb_6 (List.mem_of_getElem? (i := 66) rfl) rfl
theorem tw_1268 : TW (Jvm.Cond.lays "ThousandLeafletsModel" "ThousandLeafletsModel" "equations" "I") := sb_6 (List.mem_of_getElem? (i := 68) rfl) rfl
theorem tw_1270 : TW (Jvm.Cond.laysFinal "ThousandLeafletsModel" "ThousandLeafletsModel" "sets" "[I") := sb_6 (List.mem_of_getElem? (i := 70) rfl) rfl
theorem tw_1272 : TW (Jvm.Cond.laysFinal "ThousandLeafletsModel" "ThousandLeafletsModel" "bytes" "[I") := sb_6 (List.mem_of_getElem? (i := 72) rfl) rfl
theorem tw_1274 : TW (Jvm.Cond.laysFinal "ThousandLeafletsModel" "ThousandLeafletsModel" "fromPlace" "[I") := sb_6 (List.mem_of_getElem? (i := 74) rfl) rfl
theorem tw_1276 : TW (Jvm.Cond.laysFinal "ThousandLeafletsModel" "ThousandLeafletsModel" "isLeft" "[Z") := sb_6 (List.mem_of_getElem? (i := 76) rfl) rfl
theorem tw_1278 : TW (Jvm.Cond.lays "ThousandLeafletsModel" "ThousandLeafletsModel" "peeled" "I") := sb_6 (List.mem_of_getElem? (i := 78) rfl) rfl
theorem tw_1280 : TW (Jvm.Cond.laysFinal "ThousandLeafletsModel" "ThousandLeafletsModel" "byteBy" "[I") := sb_6 (List.mem_of_getElem? (i := 80) rfl) rfl
theorem tw_1282 : TW (Jvm.Cond.lays "ThousandLeafletsModel" "ThousandLeafletsModel" "rank" "I") := sb_6 (List.mem_of_getElem? (i := 82) rfl) rfl
theorem tw_1284 : TW (Jvm.Cond.lays "ThousandLeafletsModel" "ThousandLeafletsModel" "doAgree" "Z") := sb_6 (List.mem_of_getElem? (i := 84) rfl) rfl
theorem tw_1286 : TW (Jvm.Cond.laysFinal "ThousandLeafletsModel" "ThousandLeafletsModel" "leadSet" "[I") := sb_6 (List.mem_of_getElem? (i := 86) rfl) rfl
theorem tw_1288 : TW (Jvm.Cond.laysFinal "ThousandLeafletsModel" "ThousandLeafletsModel" "leadByte" "[I") := sb_6 (List.mem_of_getElem? (i := 88) rfl) rfl
theorem tw_1290 : TW (Jvm.Cond.lays "ThousandLeafletsModel" "ThousandLeafletsModel" "slippedMany" "I") := sb_6 (List.mem_of_getElem? (i := 90) rfl) rfl
theorem tw_1292 : TW (Jvm.Cond.laysFinal "ThousandLeafletsModel" "ThousandLeafletsModel" "slippedAt" "[I") := sb_6 (List.mem_of_getElem? (i := 92) rfl) rfl
theorem tw_1294 : TW (Jvm.Cond.laysFinal "ThousandLeafletsModel" "ThousandLeafletsModel" "withoutSets" "[I") := sb_6 (List.mem_of_getElem? (i := 94) rfl) rfl
theorem tw_1296 : TW (Jvm.Cond.laysFinal "ThousandLeafletsModel" "ThousandLeafletsModel" "withoutBytes" "[I") := sb_6 (List.mem_of_getElem? (i := 96) rfl) rfl
theorem tw_1298 : TW (Jvm.Cond.laysFinal "ThousandLeafletsModel" "ThousandLeafletsModel" "sixty" "[I") := sb_6 (List.mem_of_getElem? (i := 98) rfl) rfl
theorem tw_1300 : TW (Jvm.Cond.laysFinal "ThousandLeafletsModel" "ThousandLeafletsModel" "oddsKept" "[I") := sb_6 (List.mem_of_getElem? (i := 100) rfl) rfl
theorem tw_1302 : TW (Jvm.Cond.laysFinal "ThousandLeafletsModel" "ThousandLeafletsModel" "burn" "[I") := sb_6 (List.mem_of_getElem? (i := 102) rfl) rfl
theorem tw_1304 : TW (Jvm.Cond.laysFinal "ThousandLeafletsModel" "ThousandLeafletsModel" "houses" "[I") := sb_6 (List.mem_of_getElem? (i := 104) rfl) rfl
theorem tw_1306 : TW (Jvm.Cond.laysFinal "ThousandLeafletsModel" "ThousandLeafletsModel" "need" "[I") := sb_6 (List.mem_of_getElem? (i := 106) rfl) rfl
theorem tw_1309 : TW (Jvm.Cond.methodLink "ThousandLeafletsLaw" (23 : Nat) ({ cls := "ThousandLeafletsModel", name := "book", desc := "(II)Z" } : Jvm.MethodName)) := sb_6 (List.mem_of_getElem? (i := 109) rfl) rfl
theorem tw_1310 : TW (Jvm.Cond.instanceMethod ({ cls := "ThousandLeafletsModel", name := "book", desc := "(II)Z" } : Jvm.MethodName)) := sb_6 (List.mem_of_getElem? (i := 110) rfl) rfl
theorem tw_1311 : TW (Jvm.Cond.selects "ThousandLeafletsModel" ({ cls := "ThousandLeafletsModel", name := "book", desc := "(II)Z" } : Jvm.MethodName) ({ cls := "ThousandLeafletsModel", name := "book", desc := "(II)Z" } : Jvm.MethodName)) := sb_6 (List.mem_of_getElem? (i := 111) rfl) rfl
theorem tw_1312 : TW (Jvm.Cond.code ({ cls := "ThousandLeafletsModel", name := "book", desc := "(II)Z" } : Jvm.MethodName) prog_14_method_20_code (5 : Nat) (Option.some Jvm.ClassFile.FieldType.boolean)) := sb_6 (List.mem_of_getElem? (i := 112) rfl) rfl
theorem tw_1313 : TW (Jvm.Cond.methodLink "ThousandLeafletsModel" (178 : Nat) ({ cls := "ThousandLeafletsModel", name := "within", desc := "(III)Z" } : Jvm.MethodName)) := sb_6 (List.mem_of_getElem? (i := 113) rfl) rfl
theorem tw_1314 : TW (Jvm.Cond.static ({ cls := "ThousandLeafletsModel", name := "within", desc := "(III)Z" } : Jvm.MethodName)) := sb_6 (List.mem_of_getElem? (i := 114) rfl) rfl
theorem tw_1315 : TW (Jvm.Cond.code ({ cls := "ThousandLeafletsModel", name := "within", desc := "(III)Z" } : Jvm.MethodName) prog_14_method_17_code (3 : Nat) (Option.some Jvm.ClassFile.FieldType.boolean)) := sb_6 (List.mem_of_getElem? (i := 115) rfl) rfl
theorem tw_1316 : TW (Jvm.Cond.methodLink "ThousandLeafletsModel" (182 : Nat) ({ cls := "ThousandLeafletsModel", name := "forgetsDraw", desc := "(I)V" } : Jvm.MethodName)) := sb_6 (List.mem_of_getElem? (i := 116) rfl) rfl
theorem tw_1318 : TW (Jvm.Cond.instanceMethod ({ cls := "ThousandLeafletsModel", name := "forgetsDraw", desc := "(I)V" } : Jvm.MethodName)) := sb_6 (List.mem_of_getElem? (i := 118) rfl) rfl
theorem tw_1319 : TW (Jvm.Cond.code ({ cls := "ThousandLeafletsModel", name := "forgetsDraw", desc := "(I)V" } : Jvm.MethodName) prog_14_method_19_code (3 : Nat) (Option.none : Option Jvm.ClassFile.FieldType)) := sb_6 (List.mem_of_getElem? (i := 119) rfl) rfl
theorem tw_1320 : TW (Jvm.Cond.methodLink "ThousandLeafletsModel" (185 : Nat) ({ cls := "ThousandLeafletsModel", name := "takesOut", desc := "(II)V" } : Jvm.MethodName)) := sb_6 (List.mem_of_getElem? (i := 120) rfl) rfl
theorem tw_1322 : TW (Jvm.Cond.instanceMethod ({ cls := "ThousandLeafletsModel", name := "takesOut", desc := "(II)V" } : Jvm.MethodName)) := sb_6 (List.mem_of_getElem? (i := 122) rfl) rfl
theorem tw_1323 : TW (Jvm.Cond.code ({ cls := "ThousandLeafletsModel", name := "takesOut", desc := "(II)V" } : Jvm.MethodName) prog_14_method_43_code (4 : Nat) (Option.none : Option Jvm.ClassFile.FieldType)) := sb_6 (List.mem_of_getElem? (i := 123) rfl) rfl
theorem tw_1324 : TW (Jvm.Cond.methodLink "ThousandLeafletsModel" (274 : Nat) ({ cls := "ThousandLeafletsModel", name := "moves", desc := "(II)V" } : Jvm.MethodName)) := sb_6 (List.mem_of_getElem? (i := 124) rfl) rfl
theorem tw_1326 : TW (Jvm.Cond.instanceMethod ({ cls := "ThousandLeafletsModel", name := "moves", desc := "(II)V" } : Jvm.MethodName)) := sb_6 (List.mem_of_getElem? (i := 126) rfl) rfl
theorem tw_1327 : TW (Jvm.Cond.code ({ cls := "ThousandLeafletsModel", name := "moves", desc := "(II)V" } : Jvm.MethodName) prog_14_method_42_code (3 : Nat) (Option.none : Option Jvm.ClassFile.FieldType)) := sb_6 (List.mem_of_getElem? (i := 127) rfl) rfl
theorem tw_1328 : TW (Jvm.Cond.methodLink "ThousandLeafletsModel" (189 : Nat) ({ cls := "ThousandLeafletsModel", name := "forgetsMarks", desc := "()V" } : Jvm.MethodName)) := sb_6 (List.mem_of_getElem? (i := 128) rfl) rfl
theorem tw_1330 : TW (Jvm.Cond.instanceMethod ({ cls := "ThousandLeafletsModel", name := "forgetsMarks", desc := "()V" } : Jvm.MethodName)) := sb_6 (List.mem_of_getElem? (i := 130) rfl) rfl
theorem tw_1331 : TW (Jvm.Cond.code ({ cls := "ThousandLeafletsModel", name := "forgetsMarks", desc := "()V" } : Jvm.MethodName) prog_14_method_55_code (2 : Nat) (Option.none : Option Jvm.ClassFile.FieldType)) := sb_6 (List.mem_of_getElem? (i := 131) rfl) rfl
theorem tw_1332 : TW (Jvm.Cond.methodLink "ThousandLeafletsLaw" (28 : Nat) ({ cls := "ThousandLeafletsModel", name := "page", desc := "(III)Z" } : Jvm.MethodName)) := sb_6 (List.mem_of_getElem? (i := 132) rfl) rfl
theorem tw_1333 : TW (Jvm.Cond.instanceMethod ({ cls := "ThousandLeafletsModel", name := "page", desc := "(III)Z" } : Jvm.MethodName)) := sb_6 (List.mem_of_getElem? (i := 133) rfl) rfl
theorem tw_1334 : TW (Jvm.Cond.selects "ThousandLeafletsModel" ({ cls := "ThousandLeafletsModel", name := "page", desc := "(III)Z" } : Jvm.MethodName) ({ cls := "ThousandLeafletsModel", name := "page", desc := "(III)Z" } : Jvm.MethodName)) := sb_6 (List.mem_of_getElem? (i := 134) rfl) rfl
theorem tw_1335 : TW (Jvm.Cond.code ({ cls := "ThousandLeafletsModel", name := "page", desc := "(III)Z" } : Jvm.MethodName) prog_14_method_22_code (4 : Nat) (Option.some Jvm.ClassFile.FieldType.boolean)) := sb_6 (List.mem_of_getElem? (i := 135) rfl) rfl
theorem tw_1336 : TW (Jvm.Cond.methodLink "ThousandLeafletsModel" (192 : Nat) ({ cls := "ThousandLeafletsModel", name := "isBook", desc := "(I)Z" } : Jvm.MethodName)) := sb_6 (List.mem_of_getElem? (i := 136) rfl) rfl
theorem tw_1338 : TW (Jvm.Cond.instanceMethod ({ cls := "ThousandLeafletsModel", name := "isBook", desc := "(I)Z" } : Jvm.MethodName)) := sb_6 (List.mem_of_getElem? (i := 138) rfl) rfl
theorem tw_1339 : TW (Jvm.Cond.code ({ cls := "ThousandLeafletsModel", name := "isBook", desc := "(I)Z" } : Jvm.MethodName) prog_14_method_18_code (2 : Nat) (Option.some Jvm.ClassFile.FieldType.boolean)) := sb_6 (List.mem_of_getElem? (i := 139) rfl) rfl
theorem tw_1340 : TW (Jvm.Cond.constant "ThousandLeafletsModel" (195 : Nat) (65535 : Int32)) := sb_6 (List.mem_of_getElem? (i := 140) rfl) rfl
theorem tw_1341 : TW (Jvm.Cond.methodLink "ThousandLeafletsModel" (196 : Nat) ({ cls := "ThousandLeafletsModel", name := "isOut", desc := "(I)Z" } : Jvm.MethodName)) := sb_6 (List.mem_of_getElem? (i := 141) rfl) rfl
theorem tw_1343 : TW (Jvm.Cond.instanceMethod ({ cls := "ThousandLeafletsModel", name := "isOut", desc := "(I)Z" } : Jvm.MethodName)) := sb_6 (List.mem_of_getElem? (i := 143) rfl) rfl
theorem tw_1344 : TW (Jvm.Cond.code ({ cls := "ThousandLeafletsModel", name := "isOut", desc := "(I)Z" } : Jvm.MethodName) prog_14_method_21_code (5 : Nat) (Option.some Jvm.ClassFile.FieldType.boolean)) := sb_6 (List.mem_of_getElem? (i := 144) rfl) rfl
theorem tw_1345 : TW (Jvm.Cond.methodLink "ThousandLeafletsLaw" (40 : Nat) ({ cls := "ThousandLeafletsModel", name := "draw", desc := "(I)I" } : Jvm.MethodName)) := sb_6 (List.mem_of_getElem? (i := 145) rfl) rfl
theorem tw_1346 : TW (Jvm.Cond.instanceMethod ({ cls := "ThousandLeafletsModel", name := "draw", desc := "(I)I" } : Jvm.MethodName)) := sb_6 (List.mem_of_getElem? (i := 146) rfl) rfl
theorem tw_1347 : TW (Jvm.Cond.selects "ThousandLeafletsModel" ({ cls := "ThousandLeafletsModel", name := "draw", desc := "(I)I" } : Jvm.MethodName) ({ cls := "ThousandLeafletsModel", name := "draw", desc := "(I)I" } : Jvm.MethodName)) := sb_6 (List.mem_of_getElem? (i := 147) rfl) rfl
theorem tw_1348 : TW (Jvm.Cond.code ({ cls := "ThousandLeafletsModel", name := "draw", desc := "(I)I" } : Jvm.MethodName) prog_14_method_24_code (3 : Nat) (Option.some Jvm.ClassFile.FieldType.int)) := sb_6 (List.mem_of_getElem? (i := 148) rfl) rfl
theorem tw_1349 : TW (Jvm.Cond.methodLink "ThousandLeafletsModel" (199 : Nat) ({ cls := "ThousandLeafletsModel", name := "cutAll", desc := "()V" } : Jvm.MethodName)) := sb_6 (List.mem_of_getElem? (i := 149) rfl) rfl
theorem tw_1351 : TW (Jvm.Cond.instanceMethod ({ cls := "ThousandLeafletsModel", name := "cutAll", desc := "()V" } : Jvm.MethodName)) := sb_6 (List.mem_of_getElem? (i := 151) rfl) rfl
theorem tw_1352 : TW (Jvm.Cond.code ({ cls := "ThousandLeafletsModel", name := "cutAll", desc := "()V" } : Jvm.MethodName) prog_14_method_9_code (7 : Nat) (Option.none : Option Jvm.ClassFile.FieldType)) := sb_6 (List.mem_of_getElem? (i := 152) rfl) rfl
theorem tw_1353 : TW (Jvm.Cond.methodLink "ThousandLeafletsModel" (136 : Nat) ({ cls := "ThousandLeafletsModel", name := "isLetter", desc := "(I)Z" } : Jvm.MethodName)) := sb_6 (List.mem_of_getElem? (i := 153) rfl) rfl
theorem tw_1354 : TW (Jvm.Cond.static ({ cls := "ThousandLeafletsModel", name := "isLetter", desc := "(I)Z" } : Jvm.MethodName)) := sb_6 (List.mem_of_getElem? (i := 154) rfl) rfl
theorem tw_1355 : TW (Jvm.Cond.code ({ cls := "ThousandLeafletsModel", name := "isLetter", desc := "(I)Z" } : Jvm.MethodName) prog_14_method_5_code (1 : Nat) (Option.some Jvm.ClassFile.FieldType.boolean)) := sb_6 (List.mem_of_getElem? (i := 155) rfl) rfl
theorem tw_1356 : TW (Jvm.Cond.constantLong "ThousandLeafletsModel" (143 : Nat) (37 : Int64)) := sb_6 (List.mem_of_getElem? (i := 156) rfl) rfl
theorem tw_1357 : TW (Jvm.Cond.methodLink "ThousandLeafletsModel" (145 : Nat) ({ cls := "ThousandLeafletsModel", name := "rank", desc := "(I)I" } : Jvm.MethodName)) := sb_6 (List.mem_of_getElem? (i := 157) rfl) rfl
theorem tw_1358 : TW (Jvm.Cond.static ({ cls := "ThousandLeafletsModel", name := "rank", desc := "(I)I" } : Jvm.MethodName)) := sb_6 (List.mem_of_getElem? (i := 158) rfl) rfl
theorem tw_1359 : TW (Jvm.Cond.code ({ cls := "ThousandLeafletsModel", name := "rank", desc := "(I)I" } : Jvm.MethodName) prog_14_method_7_code (1 : Nat) (Option.some Jvm.ClassFile.FieldType.int)) := sb_6 (List.mem_of_getElem? (i := 159) rfl) rfl
theorem tw_1360 : TW (Jvm.Cond.methodLink "ThousandLeafletsModel" (149 : Nat) ({ cls := "ThousandLeafletsModel", name := "isDigit", desc := "(I)Z" } : Jvm.MethodName)) := sb_6 (List.mem_of_getElem? (i := 160) rfl) rfl
theorem tw_1361 : TW (Jvm.Cond.static ({ cls := "ThousandLeafletsModel", name := "isDigit", desc := "(I)Z" } : Jvm.MethodName)) := sb_6 (List.mem_of_getElem? (i := 161) rfl) rfl
theorem tw_1362 : TW (Jvm.Cond.code ({ cls := "ThousandLeafletsModel", name := "isDigit", desc := "(I)Z" } : Jvm.MethodName) prog_14_method_6_code (1 : Nat) (Option.some Jvm.ClassFile.FieldType.boolean)) := sb_6 (List.mem_of_getElem? (i := 162) rfl) rfl
theorem tw_1363 : TW (Jvm.Cond.constantLong "ThousandLeafletsModel" (152 : Nat) (10 : Int64)) := sb_6 (List.mem_of_getElem? (i := 163) rfl) rfl
theorem tw_1364 : TW (Jvm.Cond.constantLong "ThousandLeafletsModel" (154 : Nat) (48 : Int64)) := sb_6 (List.mem_of_getElem? (i := 164) rfl) rfl
theorem tw_1365 : TW (Jvm.Cond.methodLink "ThousandLeafletsModel" (156 : Nat) ({ cls := "ThousandLeafletsModel", name := "isSignOf", desc := "(I)Z" } : Jvm.MethodName)) := sb_6 (List.mem_of_getElem? (i := 165) rfl) rfl
theorem tw_1366 : TW (Jvm.Cond.static ({ cls := "ThousandLeafletsModel", name := "isSignOf", desc := "(I)Z" } : Jvm.MethodName)) := sb_6 (List.mem_of_getElem? (i := 166) rfl) rfl
theorem tw_1367 : TW (Jvm.Cond.code ({ cls := "ThousandLeafletsModel", name := "isSignOf", desc := "(I)Z" } : Jvm.MethodName) prog_14_method_8_code (1 : Nat) (Option.some Jvm.ClassFile.FieldType.boolean)) := sb_6 (List.mem_of_getElem? (i := 167) rfl) rfl
theorem tw_1368 : TW (Jvm.Cond.methodLink "ThousandLeafletsModel" (205 : Nat) ({ cls := "ThousandLeafletsModel", name := "readLine", desc := "()V" } : Jvm.MethodName)) := sb_6 (List.mem_of_getElem? (i := 168) rfl) rfl
theorem tw_1370 : TW (Jvm.Cond.instanceMethod ({ cls := "ThousandLeafletsModel", name := "readLine", desc := "()V" } : Jvm.MethodName)) := sb_6 (List.mem_of_getElem? (i := 170) rfl) rfl
theorem tw_1371 : TW (Jvm.Cond.code ({ cls := "ThousandLeafletsModel", name := "readLine", desc := "()V" } : Jvm.MethodName) prog_14_method_25_code (2 : Nat) (Option.none : Option Jvm.ClassFile.FieldType)) := sb_6 (List.mem_of_getElem? (i := 171) rfl) rfl
theorem tw_1372 : TW (Jvm.Cond.methodLink "ThousandLeafletsModel" (172 : Nat) ({ cls := "ThousandLeafletsModel", name := "isWord", desc := "(I)Z" } : Jvm.MethodName)) := sb_6 (List.mem_of_getElem? (i := 172) rfl) rfl
theorem tw_1374 : TW (Jvm.Cond.instanceMethod ({ cls := "ThousandLeafletsModel", name := "isWord", desc := "(I)Z" } : Jvm.MethodName)) := sb_6 (List.mem_of_getElem? (i := 174) rfl) rfl
theorem tw_1375 : TW (Jvm.Cond.code ({ cls := "ThousandLeafletsModel", name := "isWord", desc := "(I)Z" } : Jvm.MethodName) prog_14_method_12_code (2 : Nat) (Option.some Jvm.ClassFile.FieldType.boolean)) := sb_6 (List.mem_of_getElem? (i := 175) rfl) rfl
theorem tw_1376 : TW (Jvm.Cond.methodLink "ThousandLeafletsModel" (168 : Nat) ({ cls := "ThousandLeafletsModel", name := "wrong", desc := "(I)V" } : Jvm.MethodName)) := sb_6 (List.mem_of_getElem? (i := 176) rfl) rfl
theorem tw_1378 : TW (Jvm.Cond.instanceMethod ({ cls := "ThousandLeafletsModel", name := "wrong", desc := "(I)V" } : Jvm.MethodName)) := sb_6 (List.mem_of_getElem? (i := 178) rfl) rfl
theorem tw_1379 : TW (Jvm.Cond.code ({ cls := "ThousandLeafletsModel", name := "wrong", desc := "(I)V" } : Jvm.MethodName) prog_14_method_10_code (2 : Nat) (Option.none : Option Jvm.ClassFile.FieldType)) := sb_6 (List.mem_of_getElem? (i := 179) rfl) rfl
theorem tw_1380 : TW (Jvm.Cond.methodLink "ThousandLeafletsModel" (175 : Nat) ({ cls := "ThousandLeafletsModel", name := "hasWord", desc := "(I)Z" } : Jvm.MethodName)) := sb_6 (List.mem_of_getElem? (i := 180) rfl) rfl
theorem tw_1382 : TW (Jvm.Cond.instanceMethod ({ cls := "ThousandLeafletsModel", name := "hasWord", desc := "(I)Z" } : Jvm.MethodName)) := sb_6 (List.mem_of_getElem? (i := 182) rfl) rfl
theorem tw_1383 : TW (Jvm.Cond.code ({ cls := "ThousandLeafletsModel", name := "hasWord", desc := "(I)Z" } : Jvm.MethodName) prog_14_method_15_code (3 : Nat) (Option.some Jvm.ClassFile.FieldType.boolean)) := sb_6 (List.mem_of_getElem? (i := 183) rfl) rfl
theorem tw_1384 : TW (Jvm.Cond.methodLink "ThousandLeafletsModel" (208 : Nat) ({ cls := "ThousandLeafletsModel", name := "readOdds", desc := "()V" } : Jvm.MethodName)) := sb_6 (List.mem_of_getElem? (i := 184) rfl) rfl
theorem tw_1386 : TW (Jvm.Cond.instanceMethod ({ cls := "ThousandLeafletsModel", name := "readOdds", desc := "()V" } : Jvm.MethodName)) := sb_6 (List.mem_of_getElem? (i := 186) rfl) rfl
theorem tw_1387 : TW (Jvm.Cond.code ({ cls := "ThousandLeafletsModel", name := "readOdds", desc := "()V" } : Jvm.MethodName) prog_14_method_26_code (3 : Nat) (Option.none : Option Jvm.ClassFile.FieldType)) := sb_6 (List.mem_of_getElem? (i := 187) rfl) rfl
theorem tw_1388 : TW (Jvm.Cond.constantLong "ThousandLeafletsModel" (221 : Nat) (20 : Int64)) := sb_6 (List.mem_of_getElem? (i := 188) rfl) rfl
theorem tw_1389 : TW (Jvm.Cond.methodLink "ThousandLeafletsModel" (211 : Nat) ({ cls := "ThousandLeafletsModel", name := "takeNumber", desc := "(II)I" } : Jvm.MethodName)) := sb_6 (List.mem_of_getElem? (i := 189) rfl) rfl
theorem tw_1391 : TW (Jvm.Cond.instanceMethod ({ cls := "ThousandLeafletsModel", name := "takeNumber", desc := "(II)I" } : Jvm.MethodName)) := sb_6 (List.mem_of_getElem? (i := 191) rfl) rfl
theorem tw_1392 : TW (Jvm.Cond.code ({ cls := "ThousandLeafletsModel", name := "takeNumber", desc := "(II)I" } : Jvm.MethodName) prog_14_method_23_code (3 : Nat) (Option.some Jvm.ClassFile.FieldType.int)) := sb_6 (List.mem_of_getElem? (i := 192) rfl) rfl
theorem tw_1393 : TW (Jvm.Cond.methodLink "ThousandLeafletsModel" (215 : Nat) ({ cls := "ThousandLeafletsModel", name := "readSum", desc := "()V" } : Jvm.MethodName)) := sb_6 (List.mem_of_getElem? (i := 193) rfl) rfl
theorem tw_1395 : TW (Jvm.Cond.instanceMethod ({ cls := "ThousandLeafletsModel", name := "readSum", desc := "()V" } : Jvm.MethodName)) := sb_6 (List.mem_of_getElem? (i := 195) rfl) rfl
theorem tw_1396 : TW (Jvm.Cond.code ({ cls := "ThousandLeafletsModel", name := "readSum", desc := "()V" } : Jvm.MethodName) prog_14_method_27_code (3 : Nat) (Option.none : Option Jvm.ClassFile.FieldType)) := sb_6 (List.mem_of_getElem? (i := 196) rfl) rfl
theorem tw_1397 : TW (Jvm.Cond.methodLink "ThousandLeafletsModel" (218 : Nat) ({ cls := "ThousandLeafletsModel", name := "takeSign", desc := "(I)V" } : Jvm.MethodName)) := sb_6 (List.mem_of_getElem? (i := 197) rfl) rfl
theorem tw_1399 : TW (Jvm.Cond.instanceMethod ({ cls := "ThousandLeafletsModel", name := "takeSign", desc := "(I)V" } : Jvm.MethodName)) := sb_6 (List.mem_of_getElem? (i := 199) rfl) rfl
theorem tw_1400 : TW (Jvm.Cond.code ({ cls := "ThousandLeafletsModel", name := "takeSign", desc := "(I)V" } : Jvm.MethodName) prog_14_method_13_code (2 : Nat) (Option.none : Option Jvm.ClassFile.FieldType)) := sb_6 (List.mem_of_getElem? (i := 200) rfl) rfl
theorem tw_1401 : TW (Jvm.Cond.methodLink "ThousandLeafletsModel" (165 : Nat) ({ cls := "ThousandLeafletsModel", name := "isSign", desc := "(I)Z" } : Jvm.MethodName)) := sb_6 (List.mem_of_getElem? (i := 201) rfl) rfl
theorem tw_1403 : TW (Jvm.Cond.instanceMethod ({ cls := "ThousandLeafletsModel", name := "isSign", desc := "(I)Z" } : Jvm.MethodName)) := sb_6 (List.mem_of_getElem? (i := 203) rfl) rfl
theorem tw_1404 : TW (Jvm.Cond.code ({ cls := "ThousandLeafletsModel", name := "isSign", desc := "(I)Z" } : Jvm.MethodName) prog_14_method_11_code (2 : Nat) (Option.some Jvm.ClassFile.FieldType.boolean)) := sb_6 (List.mem_of_getElem? (i := 204) rfl) rfl
theorem tw_1405 : TW (Jvm.Cond.methodLink "ThousandLeafletsLaw" (44 : Nat) ({ cls := "ThousandLeafletsModel", name := "leaflet", desc := "(III)I" } : Jvm.MethodName)) := sb_6 (List.mem_of_getElem? (i := 205) rfl) rfl
theorem tw_1406 : TW (Jvm.Cond.instanceMethod ({ cls := "ThousandLeafletsModel", name := "leaflet", desc := "(III)I" } : Jvm.MethodName)) := sb_6 (List.mem_of_getElem? (i := 206) rfl) rfl
theorem tw_1407 : TW (Jvm.Cond.selects "ThousandLeafletsModel" ({ cls := "ThousandLeafletsModel", name := "leaflet", desc := "(III)I" } : Jvm.MethodName) ({ cls := "ThousandLeafletsModel", name := "leaflet", desc := "(III)I" } : Jvm.MethodName)) := sb_6 (List.mem_of_getElem? (i := 207) rfl) rfl
theorem tw_1408 : TW (Jvm.Cond.code ({ cls := "ThousandLeafletsModel", name := "leaflet", desc := "(III)I" } : Jvm.MethodName) prog_14_method_39_code (5 : Nat) (Option.some Jvm.ClassFile.FieldType.int)) := sb_6 (List.mem_of_getElem? (i := 208) rfl) rfl
theorem tw_1409 : TW (Jvm.Cond.methodLink "ThousandLeafletsModel" (258 : Nat) ({ cls := "ThousandLeafletsModel", name := "isNumber", desc := "(I)Z" } : Jvm.MethodName)) := sb_6 (List.mem_of_getElem? (i := 209) rfl) rfl
theorem tw_1410 : TW (Jvm.Cond.static ({ cls := "ThousandLeafletsModel", name := "isNumber", desc := "(I)Z" } : Jvm.MethodName)) := sb_6 (List.mem_of_getElem? (i := 210) rfl) rfl
theorem tw_1411 : TW (Jvm.Cond.code ({ cls := "ThousandLeafletsModel", name := "isNumber", desc := "(I)Z" } : Jvm.MethodName) prog_14_method_37_code (1 : Nat) (Option.some Jvm.ClassFile.FieldType.boolean)) := sb_6 (List.mem_of_getElem? (i := 211) rfl) rfl
theorem tw_1412 : TW (Jvm.Cond.methodLink "ThousandLeafletsModel" (261 : Nat) ({ cls := "ThousandLeafletsModel", name := "setOf", desc := "(II)I" } : Jvm.MethodName)) := sb_6 (List.mem_of_getElem? (i := 212) rfl) rfl
theorem tw_1414 : TW (Jvm.Cond.instanceMethod ({ cls := "ThousandLeafletsModel", name := "setOf", desc := "(II)I" } : Jvm.MethodName)) := sb_6 (List.mem_of_getElem? (i := 214) rfl) rfl
theorem tw_1415 : TW (Jvm.Cond.code ({ cls := "ThousandLeafletsModel", name := "setOf", desc := "(II)I" } : Jvm.MethodName) prog_14_method_35_code (10 : Nat) (Option.some Jvm.ClassFile.FieldType.int)) := sb_6 (List.mem_of_getElem? (i := 215) rfl) rfl
theorem tw_1416 : TW (Jvm.Cond.constantLong "ThousandLeafletsModel" (248 : Nat) (7919 : Int64)) := sb_6 (List.mem_of_getElem? (i := 216) rfl) rfl
theorem tw_1417 : TW (Jvm.Cond.constantLong "ThousandLeafletsModel" (250 : Nat) (104729 : Int64)) := sb_6 (List.mem_of_getElem? (i := 217) rfl) rfl
theorem tw_1418 : TW (Jvm.Cond.constantLong "ThousandLeafletsModel" (234 : Nat) (2147483648 : Int64)) := sb_6 (List.mem_of_getElem? (i := 218) rfl) rfl
theorem tw_1419 : TW (Jvm.Cond.methodLink "ThousandLeafletsModel" (252 : Nat) ({ cls := "ThousandLeafletsModel", name := "howMany", desc := "(I)I" } : Jvm.MethodName)) := sb_6 (List.mem_of_getElem? (i := 219) rfl) rfl
theorem tw_1421 : TW (Jvm.Cond.instanceMethod ({ cls := "ThousandLeafletsModel", name := "howMany", desc := "(I)I" } : Jvm.MethodName)) := sb_6 (List.mem_of_getElem? (i := 221) rfl) rfl
theorem tw_1422 : TW (Jvm.Cond.code ({ cls := "ThousandLeafletsModel", name := "howMany", desc := "(I)I" } : Jvm.MethodName) prog_14_method_33_code (6 : Nat) (Option.some Jvm.ClassFile.FieldType.int)) := sb_6 (List.mem_of_getElem? (i := 222) rfl) rfl
theorem tw_1423 : TW (Jvm.Cond.methodLink "ThousandLeafletsModel" (238 : Nat) ({ cls := "ThousandLeafletsModel", name := "allOf", desc := "(I)I" } : Jvm.MethodName)) := sb_6 (List.mem_of_getElem? (i := 223) rfl) rfl
theorem tw_1425 : TW (Jvm.Cond.instanceMethod ({ cls := "ThousandLeafletsModel", name := "allOf", desc := "(I)I" } : Jvm.MethodName)) := sb_6 (List.mem_of_getElem? (i := 225) rfl) rfl
theorem tw_1426 : TW (Jvm.Cond.code ({ cls := "ThousandLeafletsModel", name := "allOf", desc := "(I)I" } : Jvm.MethodName) prog_14_method_28_code (2 : Nat) (Option.some Jvm.ClassFile.FieldType.int)) := sb_6 (List.mem_of_getElem? (i := 226) rfl) rfl
theorem tw_1427 : TW (Jvm.Cond.methodLink "ThousandLeafletsModel" (241 : Nat) ({ cls := "ThousandLeafletsModel", name := "oddsOf", desc := "(II)I" } : Jvm.MethodName)) := sb_6 (List.mem_of_getElem? (i := 227) rfl) rfl
theorem tw_1429 : TW (Jvm.Cond.instanceMethod ({ cls := "ThousandLeafletsModel", name := "oddsOf", desc := "(II)I" } : Jvm.MethodName)) := sb_6 (List.mem_of_getElem? (i := 229) rfl) rfl
theorem tw_1430 : TW (Jvm.Cond.code ({ cls := "ThousandLeafletsModel", name := "oddsOf", desc := "(II)I" } : Jvm.MethodName) prog_14_method_32_code (3 : Nat) (Option.some Jvm.ClassFile.FieldType.int)) := sb_6 (List.mem_of_getElem? (i := 230) rfl) rfl
theorem tw_1431 : TW (Jvm.Cond.methodLink "ThousandLeafletsModel" (244 : Nat) ({ cls := "ThousandLeafletsModel", name := "drawn", desc := "()I" } : Jvm.MethodName)) := sb_6 (List.mem_of_getElem? (i := 231) rfl) rfl
theorem tw_1433 : TW (Jvm.Cond.instanceMethod ({ cls := "ThousandLeafletsModel", name := "drawn", desc := "()I" } : Jvm.MethodName)) := sb_6 (List.mem_of_getElem? (i := 233) rfl) rfl
theorem tw_1434 : TW (Jvm.Cond.code ({ cls := "ThousandLeafletsModel", name := "drawn", desc := "()I" } : Jvm.MethodName) prog_14_method_31_code (1 : Nat) (Option.some Jvm.ClassFile.FieldType.int)) := sb_6 (List.mem_of_getElem? (i := 234) rfl) rfl
theorem tw_1435 : TW (Jvm.Cond.constantLong "ThousandLeafletsModel" (230 : Nat) (1103515245 : Int64)) := sb_6 (List.mem_of_getElem? (i := 235) rfl) rfl
theorem tw_1436 : TW (Jvm.Cond.constantLong "ThousandLeafletsModel" (232 : Nat) (12345 : Int64)) := sb_6 (List.mem_of_getElem? (i := 236) rfl) rfl
theorem tw_1437 : TW (Jvm.Cond.constantLong "ThousandLeafletsModel" (236 : Nat) (65536 : Int64)) := sb_6 (List.mem_of_getElem? (i := 237) rfl) rfl
theorem tw_1438 : TW (Jvm.Cond.methodLink "ThousandLeafletsModel" (255 : Nat) ({ cls := "ThousandLeafletsModel", name := "weightOf", desc := "(II)I" } : Jvm.MethodName)) := sb_6 (List.mem_of_getElem? (i := 238) rfl) rfl
theorem tw_1440 : TW (Jvm.Cond.instanceMethod ({ cls := "ThousandLeafletsModel", name := "weightOf", desc := "(II)I" } : Jvm.MethodName)) := sb_7 (List.mem_of_getElem? (i := 0) rfl) rfl
theorem tw_1441 : TW (Jvm.Cond.code ({ cls := "ThousandLeafletsModel", name := "weightOf", desc := "(II)I" } : Jvm.MethodName) prog_14_method_34_code (3 : Nat) (Option.some Jvm.ClassFile.FieldType.int)) := sb_7 (List.mem_of_getElem? (i := 1) rfl) rfl
theorem tw_1442 : TW (Jvm.Cond.methodLink "ThousandLeafletsModel" (264 : Nat) ({ cls := "ThousandLeafletsModel", name := "bits", desc := "(I)I" } : Jvm.MethodName)) := sb_7 (List.mem_of_getElem? (i := 2) rfl) rfl
theorem tw_1443 : TW (Jvm.Cond.static ({ cls := "ThousandLeafletsModel", name := "bits", desc := "(I)I" } : Jvm.MethodName)) := sb_7 (List.mem_of_getElem? (i := 3) rfl) rfl
theorem tw_1444 : TW (Jvm.Cond.code ({ cls := "ThousandLeafletsModel", name := "bits", desc := "(I)I" } : Jvm.MethodName) prog_14_method_38_code (3 : Nat) (Option.some Jvm.ClassFile.FieldType.int)) := sb_7 (List.mem_of_getElem? (i := 4) rfl) rfl
theorem tw_1445 : TW (Jvm.Cond.methodLink "ThousandLeafletsModel" (223 : Nat) ({ cls := "ThousandLeafletsModel", name := "sumOf", desc := "(II)I" } : Jvm.MethodName)) := sb_7 (List.mem_of_getElem? (i := 5) rfl) rfl
theorem tw_1447 : TW (Jvm.Cond.instanceMethod ({ cls := "ThousandLeafletsModel", name := "sumOf", desc := "(II)I" } : Jvm.MethodName)) := sb_7 (List.mem_of_getElem? (i := 7) rfl) rfl
theorem tw_1448 : TW (Jvm.Cond.code ({ cls := "ThousandLeafletsModel", name := "sumOf", desc := "(II)I" } : Jvm.MethodName) prog_14_method_30_code (6 : Nat) (Option.some Jvm.ClassFile.FieldType.int)) := sb_7 (List.mem_of_getElem? (i := 8) rfl) rfl
theorem tw_1449 : TW (Jvm.Cond.methodLink "ThousandLeafletsModel" (267 : Nat) ({ cls := "ThousandLeafletsModel", name := "sealOf", desc := "(III)I" } : Jvm.MethodName)) := sb_7 (List.mem_of_getElem? (i := 9) rfl) rfl
theorem tw_1451 : TW (Jvm.Cond.instanceMethod ({ cls := "ThousandLeafletsModel", name := "sealOf", desc := "(III)I" } : Jvm.MethodName)) := sb_7 (List.mem_of_getElem? (i := 11) rfl) rfl
theorem tw_1452 : TW (Jvm.Cond.code ({ cls := "ThousandLeafletsModel", name := "sealOf", desc := "(III)I" } : Jvm.MethodName) prog_14_method_36_code (4 : Nat) (Option.some Jvm.ClassFile.FieldType.int)) := sb_7 (List.mem_of_getElem? (i := 12) rfl) rfl
theorem tw_1453 : TW (Jvm.Cond.methodLink "ThousandLeafletsLaw" (49 : Nat) ({ cls := "ThousandLeafletsModel", name := "told", desc := "(II)I" } : Jvm.MethodName)) := sb_7 (List.mem_of_getElem? (i := 13) rfl) rfl
theorem tw_1454 : TW (Jvm.Cond.instanceMethod ({ cls := "ThousandLeafletsModel", name := "told", desc := "(II)I" } : Jvm.MethodName)) := sb_7 (List.mem_of_getElem? (i := 14) rfl) rfl
theorem tw_1455 : TW (Jvm.Cond.selects "ThousandLeafletsModel" ({ cls := "ThousandLeafletsModel", name := "told", desc := "(II)I" } : Jvm.MethodName) ({ cls := "ThousandLeafletsModel", name := "told", desc := "(II)I" } : Jvm.MethodName)) := sb_7 (List.mem_of_getElem? (i := 15) rfl) rfl
theorem tw_1456 : TW (Jvm.Cond.code ({ cls := "ThousandLeafletsModel", name := "told", desc := "(II)I" } : Jvm.MethodName) prog_14_method_40_code (3 : Nat) (Option.some Jvm.ClassFile.FieldType.int)) := sb_7 (List.mem_of_getElem? (i := 16) rfl) rfl
theorem tw_1457 : TW (Jvm.Cond.methodLink "ThousandLeafletsModel" (271 : Nat) ({ cls := "ThousandLeafletsModel", name := "valueOf", desc := "(II)I" } : Jvm.MethodName)) := sb_7 (List.mem_of_getElem? (i := 17) rfl) rfl
theorem tw_1459 : TW (Jvm.Cond.instanceMethod ({ cls := "ThousandLeafletsModel", name := "valueOf", desc := "(II)I" } : Jvm.MethodName)) := sb_7 (List.mem_of_getElem? (i := 19) rfl) rfl
theorem tw_1460 : TW (Jvm.Cond.code ({ cls := "ThousandLeafletsModel", name := "valueOf", desc := "(II)I" } : Jvm.MethodName) prog_14_method_29_code (3 : Nat) (Option.some Jvm.ClassFile.FieldType.int)) := sb_7 (List.mem_of_getElem? (i := 20) rfl) rfl
theorem tw_1461 : TW (Jvm.Cond.methodLink "ThousandLeafletsLaw" (54 : Nat) ({ cls := "ThousandLeafletsModel", name := "comes", desc := "(IIII)I" } : Jvm.MethodName)) := sb_7 (List.mem_of_getElem? (i := 21) rfl) rfl
theorem tw_1462 : TW (Jvm.Cond.instanceMethod ({ cls := "ThousandLeafletsModel", name := "comes", desc := "(IIII)I" } : Jvm.MethodName)) := sb_7 (List.mem_of_getElem? (i := 22) rfl) rfl
theorem tw_1463 : TW (Jvm.Cond.selects "ThousandLeafletsModel" ({ cls := "ThousandLeafletsModel", name := "comes", desc := "(IIII)I" } : Jvm.MethodName) ({ cls := "ThousandLeafletsModel", name := "comes", desc := "(IIII)I" } : Jvm.MethodName)) := sb_7 (List.mem_of_getElem? (i := 23) rfl) rfl
theorem tw_1464 : TW (Jvm.Cond.code ({ cls := "ThousandLeafletsModel", name := "comes", desc := "(IIII)I" } : Jvm.MethodName) prog_14_method_46_code (6 : Nat) (Option.some Jvm.ClassFile.FieldType.int)) := sb_7 (List.mem_of_getElem? (i := 24) rfl) rfl
theorem tw_1465 : TW (Jvm.Cond.methodLink "ThousandLeafletsModel" (278 : Nat) ({ cls := "ThousandLeafletsModel", name := "isQuarter", desc := "(I)Z" } : Jvm.MethodName)) := sb_7 (List.mem_of_getElem? (i := 25) rfl) rfl
theorem tw_1466 : TW (Jvm.Cond.static ({ cls := "ThousandLeafletsModel", name := "isQuarter", desc := "(I)Z" } : Jvm.MethodName)) := sb_7 (List.mem_of_getElem? (i := 26) rfl) rfl
theorem tw_1467 : TW (Jvm.Cond.code ({ cls := "ThousandLeafletsModel", name := "isQuarter", desc := "(I)Z" } : Jvm.MethodName) prog_14_method_41_code (1 : Nat) (Option.some Jvm.ClassFile.FieldType.boolean)) := sb_7 (List.mem_of_getElem? (i := 27) rfl) rfl
theorem tw_1468 : TW (Jvm.Cond.methodLink "ThousandLeafletsModel" (281 : Nat) ({ cls := "ThousandLeafletsModel", name := "cutTo", desc := "(II)I" } : Jvm.MethodName)) := sb_7 (List.mem_of_getElem? (i := 28) rfl) rfl
theorem tw_1469 : TW (Jvm.Cond.static ({ cls := "ThousandLeafletsModel", name := "cutTo", desc := "(II)I" } : Jvm.MethodName)) := sb_7 (List.mem_of_getElem? (i := 29) rfl) rfl
theorem tw_1470 : TW (Jvm.Cond.code ({ cls := "ThousandLeafletsModel", name := "cutTo", desc := "(II)I" } : Jvm.MethodName) prog_14_method_45_code (2 : Nat) (Option.some Jvm.ClassFile.FieldType.int)) := sb_7 (List.mem_of_getElem? (i := 30) rfl) rfl
theorem tw_1471 : TW (Jvm.Cond.constant "ThousandLeafletsModel" (277 : Nat) (65280 : Int32)) := sb_7 (List.mem_of_getElem? (i := 31) rfl) rfl
theorem tw_1472 : TW (Jvm.Cond.methodLink "ThousandLeafletsModel" (284 : Nat) ({ cls := "ThousandLeafletsModel", name := "lays", desc := "(IIIIII)I" } : Jvm.MethodName)) := sb_7 (List.mem_of_getElem? (i := 32) rfl) rfl
theorem tw_1474 : TW (Jvm.Cond.instanceMethod ({ cls := "ThousandLeafletsModel", name := "lays", desc := "(IIIIII)I" } : Jvm.MethodName)) := sb_7 (List.mem_of_getElem? (i := 34) rfl) rfl
theorem tw_1475 : TW (Jvm.Cond.code ({ cls := "ThousandLeafletsModel", name := "lays", desc := "(IIIIII)I" } : Jvm.MethodName) prog_14_method_44_code (8 : Nat) (Option.some Jvm.ClassFile.FieldType.int)) := sb_7 (List.mem_of_getElem? (i := 35) rfl) rfl
theorem tw_1476 : TW (Jvm.Cond.methodLink "ThousandLeafletsLaw" (58 : Nat) ({ cls := "ThousandLeafletsModel", name := "slip", desc := "(IIII)I" } : Jvm.MethodName)) := sb_7 (List.mem_of_getElem? (i := 36) rfl) rfl
theorem tw_1477 : TW (Jvm.Cond.instanceMethod ({ cls := "ThousandLeafletsModel", name := "slip", desc := "(IIII)I" } : Jvm.MethodName)) := sb_7 (List.mem_of_getElem? (i := 37) rfl) rfl
theorem tw_1478 : TW (Jvm.Cond.selects "ThousandLeafletsModel" ({ cls := "ThousandLeafletsModel", name := "slip", desc := "(IIII)I" } : Jvm.MethodName) ({ cls := "ThousandLeafletsModel", name := "slip", desc := "(IIII)I" } : Jvm.MethodName)) := sb_7 (List.mem_of_getElem? (i := 38) rfl) rfl
theorem tw_1479 : TW (Jvm.Cond.code ({ cls := "ThousandLeafletsModel", name := "slip", desc := "(IIII)I" } : Jvm.MethodName) prog_14_method_48_code (6 : Nat) (Option.some Jvm.ClassFile.FieldType.int)) := sb_7 (List.mem_of_getElem? (i := 39) rfl) rfl
theorem tw_1480 : TW (Jvm.Cond.methodLink "ThousandLeafletsModel" (291 : Nat) ({ cls := "ThousandLeafletsModel", name := "laysIf", desc := "(IIIII)I" } : Jvm.MethodName)) := sb_7 (List.mem_of_getElem? (i := 40) rfl) rfl
theorem tw_1482 : TW (Jvm.Cond.instanceMethod ({ cls := "ThousandLeafletsModel", name := "laysIf", desc := "(IIIII)I" } : Jvm.MethodName)) := sb_7 (List.mem_of_getElem? (i := 42) rfl) rfl
theorem tw_1483 : TW (Jvm.Cond.code ({ cls := "ThousandLeafletsModel", name := "laysIf", desc := "(IIIII)I" } : Jvm.MethodName) prog_14_method_47_code (6 : Nat) (Option.some Jvm.ClassFile.FieldType.int)) := sb_7 (List.mem_of_getElem? (i := 43) rfl) rfl
theorem tw_1484 : TW (Jvm.Cond.methodLink "ThousandLeafletsLaw" (63 : Nat) ({ cls := "ThousandLeafletsModel", name := "forged", desc := "(IIIII)I" } : Jvm.MethodName)) := sb_7 (List.mem_of_getElem? (i := 44) rfl) rfl
theorem tw_1485 : TW (Jvm.Cond.instanceMethod ({ cls := "ThousandLeafletsModel", name := "forged", desc := "(IIIII)I" } : Jvm.MethodName)) := sb_7 (List.mem_of_getElem? (i := 45) rfl) rfl
theorem tw_1486 : TW (Jvm.Cond.selects "ThousandLeafletsModel" ({ cls := "ThousandLeafletsModel", name := "forged", desc := "(IIIII)I" } : Jvm.MethodName) ({ cls := "ThousandLeafletsModel", name := "forged", desc := "(IIIII)I" } : Jvm.MethodName)) := sb_7 (List.mem_of_getElem? (i := 46) rfl) rfl
theorem tw_1487 : TW (Jvm.Cond.code ({ cls := "ThousandLeafletsModel", name := "forged", desc := "(IIIII)I" } : Jvm.MethodName) prog_14_method_49_code (7 : Nat) (Option.some Jvm.ClassFile.FieldType.int)) := sb_7 (List.mem_of_getElem? (i := 47) rfl) rfl
theorem tw_1488 : TW (Jvm.Cond.methodLink "ThousandLeafletsLaw" (67 : Nat) ({ cls := "ThousandLeafletsModel", name := "nameless", desc := "(III)I" } : Jvm.MethodName)) := sb_7 (List.mem_of_getElem? (i := 48) rfl) rfl
theorem tw_1489 : TW (Jvm.Cond.instanceMethod ({ cls := "ThousandLeafletsModel", name := "nameless", desc := "(III)I" } : Jvm.MethodName)) := sb_7 (List.mem_of_getElem? (i := 49) rfl) rfl
theorem tw_1490 : TW (Jvm.Cond.selects "ThousandLeafletsModel" ({ cls := "ThousandLeafletsModel", name := "nameless", desc := "(III)I" } : Jvm.MethodName) ({ cls := "ThousandLeafletsModel", name := "nameless", desc := "(III)I" } : Jvm.MethodName)) := sb_7 (List.mem_of_getElem? (i := 50) rfl) rfl
theorem tw_1491 : TW (Jvm.Cond.code ({ cls := "ThousandLeafletsModel", name := "nameless", desc := "(III)I" } : Jvm.MethodName) prog_14_method_51_code (4 : Nat) (Option.some Jvm.ClassFile.FieldType.int)) := sb_7 (List.mem_of_getElem? (i := 51) rfl) rfl
theorem tw_1492 : TW (Jvm.Cond.methodLink "ThousandLeafletsModel" (295 : Nat) ({ cls := "ThousandLeafletsModel", name := "namelessIn", desc := "(I)I" } : Jvm.MethodName)) := sb_7 (List.mem_of_getElem? (i := 52) rfl) rfl
theorem tw_1494 : TW (Jvm.Cond.instanceMethod ({ cls := "ThousandLeafletsModel", name := "namelessIn", desc := "(I)I" } : Jvm.MethodName)) := sb_7 (List.mem_of_getElem? (i := 54) rfl) rfl
theorem tw_1495 : TW (Jvm.Cond.code ({ cls := "ThousandLeafletsModel", name := "namelessIn", desc := "(I)I" } : Jvm.MethodName) prog_14_method_50_code (4 : Nat) (Option.some Jvm.ClassFile.FieldType.int)) := sb_7 (List.mem_of_getElem? (i := 55) rfl) rfl
theorem tw_1496 : TW (Jvm.Cond.methodLink "ThousandLeafletsLaw" (81 : Nat) ({ cls := "ThousandLeafletsModel", name := "away", desc := "(II)Z" } : Jvm.MethodName)) := sb_7 (List.mem_of_getElem? (i := 56) rfl) rfl
theorem tw_1497 : TW (Jvm.Cond.instanceMethod ({ cls := "ThousandLeafletsModel", name := "away", desc := "(II)Z" } : Jvm.MethodName)) := sb_7 (List.mem_of_getElem? (i := 57) rfl) rfl
theorem tw_1498 : TW (Jvm.Cond.selects "ThousandLeafletsModel" ({ cls := "ThousandLeafletsModel", name := "away", desc := "(II)Z" } : Jvm.MethodName) ({ cls := "ThousandLeafletsModel", name := "away", desc := "(II)Z" } : Jvm.MethodName)) := sb_7 (List.mem_of_getElem? (i := 58) rfl) rfl
theorem tw_1499 : TW (Jvm.Cond.code ({ cls := "ThousandLeafletsModel", name := "away", desc := "(II)Z" } : Jvm.MethodName) prog_14_method_53_code (3 : Nat) (Option.some Jvm.ClassFile.FieldType.boolean)) := sb_7 (List.mem_of_getElem? (i := 59) rfl) rfl
theorem tw_1500 : TW (Jvm.Cond.methodLink "ThousandLeafletsModel" (298 : Nat) ({ cls := "ThousandLeafletsModel", name := "isPaper", desc := "(II)Z" } : Jvm.MethodName)) := sb_7 (List.mem_of_getElem? (i := 60) rfl) rfl
theorem tw_1502 : TW (Jvm.Cond.instanceMethod ({ cls := "ThousandLeafletsModel", name := "isPaper", desc := "(II)Z" } : Jvm.MethodName)) := sb_7 (List.mem_of_getElem? (i := 62) rfl) rfl
theorem tw_1503 : TW (Jvm.Cond.code ({ cls := "ThousandLeafletsModel", name := "isPaper", desc := "(II)Z" } : Jvm.MethodName) prog_14_method_52_code (3 : Nat) (Option.some Jvm.ClassFile.FieldType.boolean)) := sb_7 (List.mem_of_getElem? (i := 63) rfl) rfl
theorem tw_1504 : TW (Jvm.Cond.methodLink "ThousandLeafletsLaw" (164 : Nat) ({ cls := "ThousandLeafletsModel", name := "mark", desc := "(IZ)Z" } : Jvm.MethodName)) := sb_7 (List.mem_of_getElem? (i := 64) rfl) rfl
theorem tw_1505 : TW (Jvm.Cond.instanceMethod ({ cls := "ThousandLeafletsModel", name := "mark", desc := "(IZ)Z" } : Jvm.MethodName)) := sb_7 (List.mem_of_getElem? (i := 65) rfl) rfl
theorem tw_1506 : TW (Jvm.Cond.selects "ThousandLeafletsModel" ({ cls := "ThousandLeafletsModel", name := "mark", desc := "(IZ)Z" } : Jvm.MethodName) ({ cls := "ThousandLeafletsModel", name := "mark", desc := "(IZ)Z" } : Jvm.MethodName)) := sb_7 (List.mem_of_getElem? (i := 66) rfl) rfl
theorem tw_1507 : TW (Jvm.Cond.code ({ cls := "ThousandLeafletsModel", name := "mark", desc := "(IZ)Z" } : Jvm.MethodName) prog_14_method_56_code (4 : Nat) (Option.some Jvm.ClassFile.FieldType.boolean)) := sb_7 (List.mem_of_getElem? (i := 67) rfl) rfl
theorem tw_1508 : TW (Jvm.Cond.methodLink "ThousandLeafletsModel" (302 : Nat) ({ cls := "ThousandLeafletsModel", name := "copies", desc := "(II)V" } : Jvm.MethodName)) := sb_7 (List.mem_of_getElem? (i := 68) rfl) rfl
theorem tw_1510 : TW (Jvm.Cond.instanceMethod ({ cls := "ThousandLeafletsModel", name := "copies", desc := "(II)V" } : Jvm.MethodName)) := sb_7 (List.mem_of_getElem? (i := 70) rfl) rfl
theorem tw_1511 : TW (Jvm.Cond.code ({ cls := "ThousandLeafletsModel", name := "copies", desc := "(II)V" } : Jvm.MethodName) prog_14_method_54_code (4 : Nat) (Option.none : Option Jvm.ClassFile.FieldType)) := sb_7 (List.mem_of_getElem? (i := 71) rfl) rfl
theorem tw_1512 : TW (Jvm.Cond.methodLink "ThousandLeafletsLaw" (85 : Nat) ({ cls := "ThousandLeafletsModel", name := "peels", desc := "(IIII)I" } : Jvm.MethodName)) := sb_7 (List.mem_of_getElem? (i := 72) rfl) rfl
theorem tw_1513 : TW (Jvm.Cond.instanceMethod ({ cls := "ThousandLeafletsModel", name := "peels", desc := "(IIII)I" } : Jvm.MethodName)) := sb_7 (List.mem_of_getElem? (i := 73) rfl) rfl
theorem tw_1514 : TW (Jvm.Cond.selects "ThousandLeafletsModel" ({ cls := "ThousandLeafletsModel", name := "peels", desc := "(IIII)I" } : Jvm.MethodName) ({ cls := "ThousandLeafletsModel", name := "peels", desc := "(IIII)I" } : Jvm.MethodName)) := sb_7 (List.mem_of_getElem? (i := 74) rfl) rfl
theorem tw_1515 : TW (Jvm.Cond.code ({ cls := "ThousandLeafletsModel", name := "peels", desc := "(IIII)I" } : Jvm.MethodName) prog_14_method_68_code (8 : Nat) (Option.some Jvm.ClassFile.FieldType.int)) := sb_7 (List.mem_of_getElem? (i := 75) rfl) rfl
theorem tw_1516 : TW (Jvm.Cond.methodLink "ThousandLeafletsModel" (333 : Nat) ({ cls := "ThousandLeafletsModel", name := "isAsked", desc := "(III)Z" } : Jvm.MethodName)) := sb_7 (List.mem_of_getElem? (i := 76) rfl) rfl
theorem tw_1518 : TW (Jvm.Cond.instanceMethod ({ cls := "ThousandLeafletsModel", name := "isAsked", desc := "(III)Z" } : Jvm.MethodName)) := sb_7 (List.mem_of_getElem? (i := 78) rfl) rfl
theorem tw_1519 : TW (Jvm.Cond.code ({ cls := "ThousandLeafletsModel", name := "isAsked", desc := "(III)Z" } : Jvm.MethodName) prog_14_method_67_code (4 : Nat) (Option.some Jvm.ClassFile.FieldType.boolean)) := sb_7 (List.mem_of_getElem? (i := 79) rfl) rfl
theorem tw_1520 : TW (Jvm.Cond.methodLink "ThousandLeafletsModel" (336 : Nat) ({ cls := "ThousandLeafletsModel", name := "leavesNone", desc := "()V" } : Jvm.MethodName)) := sb_7 (List.mem_of_getElem? (i := 80) rfl) rfl
theorem tw_1522 : TW (Jvm.Cond.instanceMethod ({ cls := "ThousandLeafletsModel", name := "leavesNone", desc := "()V" } : Jvm.MethodName)) := sb_7 (List.mem_of_getElem? (i := 82) rfl) rfl
theorem tw_1523 : TW (Jvm.Cond.code ({ cls := "ThousandLeafletsModel", name := "leavesNone", desc := "()V" } : Jvm.MethodName) prog_14_method_61_code (2 : Nat) (Option.none : Option Jvm.ClassFile.FieldType)) := sb_7 (List.mem_of_getElem? (i := 83) rfl) rfl
theorem tw_1524 : TW (Jvm.Cond.methodLink "ThousandLeafletsModel" (339 : Nat) ({ cls := "ThousandLeafletsModel", name := "gathers", desc := "(IIII)V" } : Jvm.MethodName)) := sb_7 (List.mem_of_getElem? (i := 84) rfl) rfl
theorem tw_1526 : TW (Jvm.Cond.instanceMethod ({ cls := "ThousandLeafletsModel", name := "gathers", desc := "(IIII)V" } : Jvm.MethodName)) := sb_7 (List.mem_of_getElem? (i := 86) rfl) rfl
theorem tw_1527 : TW (Jvm.Cond.code ({ cls := "ThousandLeafletsModel", name := "gathers", desc := "(IIII)V" } : Jvm.MethodName) prog_14_method_60_code (7 : Nat) (Option.none : Option Jvm.ClassFile.FieldType)) := sb_7 (List.mem_of_getElem? (i := 87) rfl) rfl
theorem tw_1528 : TW (Jvm.Cond.methodLink "ThousandLeafletsModel" (312 : Nat) ({ cls := "ThousandLeafletsModel", name := "begins", desc := "(I)V" } : Jvm.MethodName)) := sb_7 (List.mem_of_getElem? (i := 88) rfl) rfl
theorem tw_1530 : TW (Jvm.Cond.instanceMethod ({ cls := "ThousandLeafletsModel", name := "begins", desc := "(I)V" } : Jvm.MethodName)) := sb_7 (List.mem_of_getElem? (i := 90) rfl) rfl
theorem tw_1531 : TW (Jvm.Cond.code ({ cls := "ThousandLeafletsModel", name := "begins", desc := "(I)V" } : Jvm.MethodName) prog_14_method_58_code (3 : Nat) (Option.none : Option Jvm.ClassFile.FieldType)) := sb_7 (List.mem_of_getElem? (i := 91) rfl) rfl
theorem tw_1532 : TW (Jvm.Cond.methodLink "ThousandLeafletsModel" (308 : Nat) ({ cls := "ThousandLeafletsModel", name := "adds", desc := "(III)V" } : Jvm.MethodName)) := sb_7 (List.mem_of_getElem? (i := 92) rfl) rfl
theorem tw_1534 : TW (Jvm.Cond.instanceMethod ({ cls := "ThousandLeafletsModel", name := "adds", desc := "(III)V" } : Jvm.MethodName)) := sb_7 (List.mem_of_getElem? (i := 94) rfl) rfl
theorem tw_1535 : TW (Jvm.Cond.code ({ cls := "ThousandLeafletsModel", name := "adds", desc := "(III)V" } : Jvm.MethodName) prog_14_method_57_code (4 : Nat) (Option.none : Option Jvm.ClassFile.FieldType)) := sb_7 (List.mem_of_getElem? (i := 95) rfl) rfl
theorem tw_1536 : TW (Jvm.Cond.methodLink "ThousandLeafletsModel" (315 : Nat) ({ cls := "ThousandLeafletsModel", name := "byteOf", desc := "(II)I" } : Jvm.MethodName)) := sb_7 (List.mem_of_getElem? (i := 96) rfl) rfl
theorem tw_1537 : TW (Jvm.Cond.static ({ cls := "ThousandLeafletsModel", name := "byteOf", desc := "(II)I" } : Jvm.MethodName)) := sb_7 (List.mem_of_getElem? (i := 97) rfl) rfl
theorem tw_1538 : TW (Jvm.Cond.code ({ cls := "ThousandLeafletsModel", name := "byteOf", desc := "(II)I" } : Jvm.MethodName) prog_14_method_59_code (2 : Nat) (Option.some Jvm.ClassFile.FieldType.int)) := sb_7 (List.mem_of_getElem? (i := 98) rfl) rfl
theorem tw_1539 : TW (Jvm.Cond.methodLink "ThousandLeafletsModel" (343 : Nat) ({ cls := "ThousandLeafletsModel", name := "findPeeled", desc := "()V" } : Jvm.MethodName)) := sb_7 (List.mem_of_getElem? (i := 99) rfl) rfl
theorem tw_1541 : TW (Jvm.Cond.instanceMethod ({ cls := "ThousandLeafletsModel", name := "findPeeled", desc := "()V" } : Jvm.MethodName)) := sb_7 (List.mem_of_getElem? (i := 101) rfl) rfl
theorem tw_1542 : TW (Jvm.Cond.code ({ cls := "ThousandLeafletsModel", name := "findPeeled", desc := "()V" } : Jvm.MethodName) prog_14_method_62_code (6 : Nat) (Option.none : Option Jvm.ClassFile.FieldType)) := sb_7 (List.mem_of_getElem? (i := 102) rfl) rfl
theorem tw_1543 : TW (Jvm.Cond.methodLink "ThousandLeafletsModel" (321 : Nat) ({ cls := "ThousandLeafletsModel", name := "comesTo", desc := "(I)I" } : Jvm.MethodName)) := sb_7 (List.mem_of_getElem? (i := 103) rfl) rfl
theorem tw_1545 : TW (Jvm.Cond.instanceMethod ({ cls := "ThousandLeafletsModel", name := "comesTo", desc := "(I)I" } : Jvm.MethodName)) := sb_7 (List.mem_of_getElem? (i := 105) rfl) rfl
theorem tw_1546 : TW (Jvm.Cond.code ({ cls := "ThousandLeafletsModel", name := "comesTo", desc := "(I)I" } : Jvm.MethodName) prog_14_method_63_code (4 : Nat) (Option.some Jvm.ClassFile.FieldType.int)) := sb_7 (List.mem_of_getElem? (i := 106) rfl) rfl
theorem tw_1547 : TW (Jvm.Cond.methodLink "ThousandLeafletsLaw" (89 : Nat) ({ cls := "ThousandLeafletsModel", name := "solves", desc := "(IIII)I" } : Jvm.MethodName)) := sb_7 (List.mem_of_getElem? (i := 107) rfl) rfl
theorem tw_1548 : TW (Jvm.Cond.instanceMethod ({ cls := "ThousandLeafletsModel", name := "solves", desc := "(IIII)I" } : Jvm.MethodName)) := sb_7 (List.mem_of_getElem? (i := 108) rfl) rfl
theorem tw_1549 : TW (Jvm.Cond.selects "ThousandLeafletsModel" ({ cls := "ThousandLeafletsModel", name := "solves", desc := "(IIII)I" } : Jvm.MethodName) ({ cls := "ThousandLeafletsModel", name := "solves", desc := "(IIII)I" } : Jvm.MethodName)) := sb_7 (List.mem_of_getElem? (i := 109) rfl) rfl
theorem tw_1550 : TW (Jvm.Cond.code ({ cls := "ThousandLeafletsModel", name := "solves", desc := "(IIII)I" } : Jvm.MethodName) prog_14_method_69_code (5 : Nat) (Option.some Jvm.ClassFile.FieldType.int)) := sb_7 (List.mem_of_getElem? (i := 110) rfl) rfl
theorem tw_1551 : TW (Jvm.Cond.methodLink "ThousandLeafletsModel" (346 : Nat) ({ cls := "ThousandLeafletsModel", name := "findSolved", desc := "()V" } : Jvm.MethodName)) := sb_7 (List.mem_of_getElem? (i := 111) rfl) rfl
theorem tw_1553 : TW (Jvm.Cond.instanceMethod ({ cls := "ThousandLeafletsModel", name := "findSolved", desc := "()V" } : Jvm.MethodName)) := sb_7 (List.mem_of_getElem? (i := 113) rfl) rfl
theorem tw_1554 : TW (Jvm.Cond.code ({ cls := "ThousandLeafletsModel", name := "findSolved", desc := "()V" } : Jvm.MethodName) prog_14_method_64_code (6 : Nat) (Option.none : Option Jvm.ClassFile.FieldType)) := sb_7 (List.mem_of_getElem? (i := 114) rfl) rfl
theorem tw_1555 : TW (Jvm.Cond.methodLink "ThousandLeafletsModel" (349 : Nat) ({ cls := "ThousandLeafletsModel", name := "fixedSet", desc := "()I" } : Jvm.MethodName)) := sb_7 (List.mem_of_getElem? (i := 115) rfl) rfl
theorem tw_1557 : TW (Jvm.Cond.instanceMethod ({ cls := "ThousandLeafletsModel", name := "fixedSet", desc := "()I" } : Jvm.MethodName)) := sb_7 (List.mem_of_getElem? (i := 117) rfl) rfl
theorem tw_1558 : TW (Jvm.Cond.code ({ cls := "ThousandLeafletsModel", name := "fixedSet", desc := "()I" } : Jvm.MethodName) prog_14_method_66_code (3 : Nat) (Option.some Jvm.ClassFile.FieldType.int)) := sb_7 (List.mem_of_getElem? (i := 118) rfl) rfl
theorem tw_1559 : TW (Jvm.Cond.methodLink "ThousandLeafletsModel" (330 : Nat) ({ cls := "ThousandLeafletsModel", name := "isFixed", desc := "(I)Z" } : Jvm.MethodName)) := sb_7 (List.mem_of_getElem? (i := 119) rfl) rfl
theorem tw_1561 : TW (Jvm.Cond.instanceMethod ({ cls := "ThousandLeafletsModel", name := "isFixed", desc := "(I)Z" } : Jvm.MethodName)) := sb_7 (List.mem_of_getElem? (i := 121) rfl) rfl
theorem tw_1562 : TW (Jvm.Cond.code ({ cls := "ThousandLeafletsModel", name := "isFixed", desc := "(I)Z" } : Jvm.MethodName) prog_14_method_65_code (2 : Nat) (Option.some Jvm.ClassFile.FieldType.boolean)) := sb_7 (List.mem_of_getElem? (i := 122) rfl) rfl
theorem tw_1563 : TW (Jvm.Cond.methodLink "ThousandLeafletsLaw" (93 : Nat) ({ cls := "ThousandLeafletsModel", name := "read", desc := "(IIII)I" } : Jvm.MethodName)) := sb_7 (List.mem_of_getElem? (i := 123) rfl) rfl
theorem tw_1564 : TW (Jvm.Cond.instanceMethod ({ cls := "ThousandLeafletsModel", name := "read", desc := "(IIII)I" } : Jvm.MethodName)) := sb_7 (List.mem_of_getElem? (i := 124) rfl) rfl
theorem tw_1565 : TW (Jvm.Cond.selects "ThousandLeafletsModel" ({ cls := "ThousandLeafletsModel", name := "read", desc := "(IIII)I" } : Jvm.MethodName) ({ cls := "ThousandLeafletsModel", name := "read", desc := "(IIII)I" } : Jvm.MethodName)) := sb_7 (List.mem_of_getElem? (i := 125) rfl) rfl
theorem tw_1566 : TW (Jvm.Cond.code ({ cls := "ThousandLeafletsModel", name := "read", desc := "(IIII)I" } : Jvm.MethodName) prog_14_method_72_code (5 : Nat) (Option.some Jvm.ClassFile.FieldType.int)) := sb_7 (List.mem_of_getElem? (i := 126) rfl) rfl
theorem tw_1567 : TW (Jvm.Cond.methodLink "ThousandLeafletsModel" (352 : Nat) ({ cls := "ThousandLeafletsModel", name := "isPage", desc := "(II)Z" } : Jvm.MethodName)) := sb_7 (List.mem_of_getElem? (i := 127) rfl) rfl
theorem tw_1569 : TW (Jvm.Cond.instanceMethod ({ cls := "ThousandLeafletsModel", name := "isPage", desc := "(II)Z" } : Jvm.MethodName)) := sb_7 (List.mem_of_getElem? (i := 129) rfl) rfl
theorem tw_1570 : TW (Jvm.Cond.code ({ cls := "ThousandLeafletsModel", name := "isPage", desc := "(II)Z" } : Jvm.MethodName) prog_14_method_71_code (3 : Nat) (Option.some Jvm.ClassFile.FieldType.boolean)) := sb_7 (List.mem_of_getElem? (i := 130) rfl) rfl
theorem tw_1571 : TW (Jvm.Cond.methodLink "ThousandLeafletsModel" (355 : Nat) ({ cls := "ThousandLeafletsModel", name := "readBy", desc := "(IIIII)I" } : Jvm.MethodName)) := sb_7 (List.mem_of_getElem? (i := 131) rfl) rfl
theorem tw_1573 : TW (Jvm.Cond.instanceMethod ({ cls := "ThousandLeafletsModel", name := "readBy", desc := "(IIIII)I" } : Jvm.MethodName)) := sb_7 (List.mem_of_getElem? (i := 133) rfl) rfl
theorem tw_1574 : TW (Jvm.Cond.code ({ cls := "ThousandLeafletsModel", name := "readBy", desc := "(IIIII)I" } : Jvm.MethodName) prog_14_method_70_code (9 : Nat) (Option.some Jvm.ClassFile.FieldType.int)) := sb_7 (List.mem_of_getElem? (i := 134) rfl) rfl
theorem tw_1575 : TW (Jvm.Cond.methodLink "ThousandLeafletsLaw" (97 : Nat) ({ cls := "ThousandLeafletsModel", name := "soon", desc := "(IIII)I" } : Jvm.MethodName)) := sb_7 (List.mem_of_getElem? (i := 135) rfl) rfl
theorem tw_1576 : TW (Jvm.Cond.instanceMethod ({ cls := "ThousandLeafletsModel", name := "soon", desc := "(IIII)I" } : Jvm.MethodName)) := sb_7 (List.mem_of_getElem? (i := 136) rfl) rfl
theorem tw_1577 : TW (Jvm.Cond.selects "ThousandLeafletsModel" ({ cls := "ThousandLeafletsModel", name := "soon", desc := "(IIII)I" } : Jvm.MethodName) ({ cls := "ThousandLeafletsModel", name := "soon", desc := "(IIII)I" } : Jvm.MethodName)) := sb_7 (List.mem_of_getElem? (i := 137) rfl) rfl
theorem tw_1578 : TW (Jvm.Cond.code ({ cls := "ThousandLeafletsModel", name := "soon", desc := "(IIII)I" } : Jvm.MethodName) prog_14_method_73_code (6 : Nat) (Option.some Jvm.ClassFile.FieldType.int)) := sb_7 (List.mem_of_getElem? (i := 138) rfl) rfl
theorem tw_1579 : TW (Jvm.Cond.methodLink "ThousandLeafletsLaw" (73 : Nat) ({ cls := "ThousandLeafletsModel", name := "paper", desc := "(III)I" } : Jvm.MethodName)) := sb_7 (List.mem_of_getElem? (i := 139) rfl) rfl
theorem tw_1580 : TW (Jvm.Cond.instanceMethod ({ cls := "ThousandLeafletsModel", name := "paper", desc := "(III)I" } : Jvm.MethodName)) := sb_7 (List.mem_of_getElem? (i := 140) rfl) rfl
theorem tw_1581 : TW (Jvm.Cond.selects "ThousandLeafletsModel" ({ cls := "ThousandLeafletsModel", name := "paper", desc := "(III)I" } : Jvm.MethodName) ({ cls := "ThousandLeafletsModel", name := "paper", desc := "(III)I" } : Jvm.MethodName)) := sb_7 (List.mem_of_getElem? (i := 141) rfl) rfl
theorem tw_1582 : TW (Jvm.Cond.code ({ cls := "ThousandLeafletsModel", name := "paper", desc := "(III)I" } : Jvm.MethodName) prog_14_method_75_code (5 : Nat) (Option.some Jvm.ClassFile.FieldType.int)) := sb_7 (List.mem_of_getElem? (i := 142) rfl) rfl
theorem tw_1583 : TW (Jvm.Cond.methodLink "ThousandLeafletsModel" (358 : Nat) ({ cls := "ThousandLeafletsModel", name := "unknownOf", desc := "(II)I" } : Jvm.MethodName)) := sb_7 (List.mem_of_getElem? (i := 143) rfl) rfl
theorem tw_1585 : TW (Jvm.Cond.instanceMethod ({ cls := "ThousandLeafletsModel", name := "unknownOf", desc := "(II)I" } : Jvm.MethodName)) := sb_7 (List.mem_of_getElem? (i := 145) rfl) rfl
theorem tw_1586 : TW (Jvm.Cond.code ({ cls := "ThousandLeafletsModel", name := "unknownOf", desc := "(II)I" } : Jvm.MethodName) prog_14_method_74_code (8 : Nat) (Option.some Jvm.ClassFile.FieldType.int)) := sb_7 (List.mem_of_getElem? (i := 146) rfl) rfl
theorem tw_1587 : TW (Jvm.Cond.methodLink "ThousandLeafletsLaw" (101 : Nat) ({ cls := "ThousandLeafletsModel", name := "slipped", desc := "(IIII)I" } : Jvm.MethodName)) := sb_7 (List.mem_of_getElem? (i := 147) rfl) rfl
theorem tw_1588 : TW (Jvm.Cond.instanceMethod ({ cls := "ThousandLeafletsModel", name := "slipped", desc := "(IIII)I" } : Jvm.MethodName)) := sb_7 (List.mem_of_getElem? (i := 148) rfl) rfl
theorem tw_1589 : TW (Jvm.Cond.selects "ThousandLeafletsModel" ({ cls := "ThousandLeafletsModel", name := "slipped", desc := "(IIII)I" } : Jvm.MethodName) ({ cls := "ThousandLeafletsModel", name := "slipped", desc := "(IIII)I" } : Jvm.MethodName)) := sb_7 (List.mem_of_getElem? (i := 149) rfl) rfl
theorem tw_1590 : TW (Jvm.Cond.code ({ cls := "ThousandLeafletsModel", name := "slipped", desc := "(IIII)I" } : Jvm.MethodName) prog_14_method_77_code (5 : Nat) (Option.some Jvm.ClassFile.FieldType.int)) := sb_7 (List.mem_of_getElem? (i := 150) rfl) rfl
theorem tw_1591 : TW (Jvm.Cond.methodLink "ThousandLeafletsModel" (364 : Nat) ({ cls := "ThousandLeafletsModel", name := "findSlipped", desc := "(III)Z" } : Jvm.MethodName)) := sb_7 (List.mem_of_getElem? (i := 151) rfl) rfl
theorem tw_1593 : TW (Jvm.Cond.instanceMethod ({ cls := "ThousandLeafletsModel", name := "findSlipped", desc := "(III)Z" } : Jvm.MethodName)) := sb_7 (List.mem_of_getElem? (i := 153) rfl) rfl
theorem tw_1594 : TW (Jvm.Cond.code ({ cls := "ThousandLeafletsModel", name := "findSlipped", desc := "(III)Z" } : Jvm.MethodName) prog_14_method_76_code (6 : Nat) (Option.some Jvm.ClassFile.FieldType.boolean)) := sb_7 (List.mem_of_getElem? (i := 154) rfl) rfl
theorem tw_1595 : TW (Jvm.Cond.methodLink "ThousandLeafletsLaw" (105 : Nat) ({ cls := "ThousandLeafletsModel", name := "right", desc := "(IIII)I" } : Jvm.MethodName)) := sb_7 (List.mem_of_getElem? (i := 155) rfl) rfl
theorem tw_1596 : TW (Jvm.Cond.instanceMethod ({ cls := "ThousandLeafletsModel", name := "right", desc := "(IIII)I" } : Jvm.MethodName)) := sb_7 (List.mem_of_getElem? (i := 156) rfl) rfl
theorem tw_1597 : TW (Jvm.Cond.selects "ThousandLeafletsModel" ({ cls := "ThousandLeafletsModel", name := "right", desc := "(IIII)I" } : Jvm.MethodName) ({ cls := "ThousandLeafletsModel", name := "right", desc := "(IIII)I" } : Jvm.MethodName)) := sb_7 (List.mem_of_getElem? (i := 157) rfl) rfl
theorem tw_1598 : TW (Jvm.Cond.code ({ cls := "ThousandLeafletsModel", name := "right", desc := "(IIII)I" } : Jvm.MethodName) prog_14_method_78_code (7 : Nat) (Option.some Jvm.ClassFile.FieldType.int)) := sb_7 (List.mem_of_getElem? (i := 158) rfl) rfl
theorem tw_1599 : TW (Jvm.Cond.methodLink "ThousandLeafletsLaw" (109 : Nat) ({ cls := "ThousandLeafletsModel", name := "doubles", desc := "(III)I" } : Jvm.MethodName)) := sb_7 (List.mem_of_getElem? (i := 159) rfl) rfl
theorem tw_1600 : TW (Jvm.Cond.instanceMethod ({ cls := "ThousandLeafletsModel", name := "doubles", desc := "(III)I" } : Jvm.MethodName)) := sb_7 (List.mem_of_getElem? (i := 160) rfl) rfl
theorem tw_1601 : TW (Jvm.Cond.selects "ThousandLeafletsModel" ({ cls := "ThousandLeafletsModel", name := "doubles", desc := "(III)I" } : Jvm.MethodName) ({ cls := "ThousandLeafletsModel", name := "doubles", desc := "(III)I" } : Jvm.MethodName)) := sb_7 (List.mem_of_getElem? (i := 161) rfl) rfl
theorem tw_1602 : TW (Jvm.Cond.code ({ cls := "ThousandLeafletsModel", name := "doubles", desc := "(III)I" } : Jvm.MethodName) prog_14_method_79_code (8 : Nat) (Option.some Jvm.ClassFile.FieldType.int)) := sb_7 (List.mem_of_getElem? (i := 162) rfl) rfl
theorem tw_1603 : TW (Jvm.Cond.methodLink "ThousandLeafletsLaw" (113 : Nat) ({ cls := "ThousandLeafletsModel", name := "guard", desc := "(IIII)I" } : Jvm.MethodName)) := sb_7 (List.mem_of_getElem? (i := 163) rfl) rfl
theorem tw_1604 : TW (Jvm.Cond.instanceMethod ({ cls := "ThousandLeafletsModel", name := "guard", desc := "(IIII)I" } : Jvm.MethodName)) := sb_7 (List.mem_of_getElem? (i := 164) rfl) rfl
theorem tw_1605 : TW (Jvm.Cond.selects "ThousandLeafletsModel" ({ cls := "ThousandLeafletsModel", name := "guard", desc := "(IIII)I" } : Jvm.MethodName) ({ cls := "ThousandLeafletsModel", name := "guard", desc := "(IIII)I" } : Jvm.MethodName)) := sb_7 (List.mem_of_getElem? (i := 165) rfl) rfl
theorem tw_1606 : TW (Jvm.Cond.code ({ cls := "ThousandLeafletsModel", name := "guard", desc := "(IIII)I" } : Jvm.MethodName) prog_14_method_81_code (9 : Nat) (Option.some Jvm.ClassFile.FieldType.int)) := sb_7 (List.mem_of_getElem? (i := 166) rfl) rfl
theorem tw_1607 : TW (Jvm.Cond.methodLink "ThousandLeafletsModel" (367 : Nat) ({ cls := "ThousandLeafletsModel", name := "isFixedWithout", desc := "(IIII)Z" } : Jvm.MethodName)) := sb_7 (List.mem_of_getElem? (i := 167) rfl) rfl
theorem tw_1609 : TW (Jvm.Cond.instanceMethod ({ cls := "ThousandLeafletsModel", name := "isFixedWithout", desc := "(IIII)Z" } : Jvm.MethodName)) := sb_7 (List.mem_of_getElem? (i := 169) rfl) rfl
theorem tw_1610 : TW (Jvm.Cond.code ({ cls := "ThousandLeafletsModel", name := "isFixedWithout", desc := "(IIII)Z" } : Jvm.MethodName) prog_14_method_80_code (9 : Nat) (Option.some Jvm.ClassFile.FieldType.boolean)) := sb_7 (List.mem_of_getElem? (i := 170) rfl) rfl
theorem tw_1611 : TW (Jvm.Cond.methodLink "ThousandLeafletsLaw" (117 : Nat) ({ cls := "ThousandLeafletsModel", name := "tocome", desc := "(III)I" } : Jvm.MethodName)) := sb_7 (List.mem_of_getElem? (i := 171) rfl) rfl
theorem tw_1612 : TW (Jvm.Cond.instanceMethod ({ cls := "ThousandLeafletsModel", name := "tocome", desc := "(III)I" } : Jvm.MethodName)) := sb_7 (List.mem_of_getElem? (i := 172) rfl) rfl
theorem tw_1613 : TW (Jvm.Cond.selects "ThousandLeafletsModel" ({ cls := "ThousandLeafletsModel", name := "tocome", desc := "(III)I" } : Jvm.MethodName) ({ cls := "ThousandLeafletsModel", name := "tocome", desc := "(III)I" } : Jvm.MethodName)) := sb_7 (List.mem_of_getElem? (i := 173) rfl) rfl
theorem tw_1614 : TW (Jvm.Cond.code ({ cls := "ThousandLeafletsModel", name := "tocome", desc := "(III)I" } : Jvm.MethodName) prog_14_method_84_code (6 : Nat) (Option.some Jvm.ClassFile.FieldType.int)) := sb_7 (List.mem_of_getElem? (i := 174) rfl) rfl
theorem tw_1615 : TW (Jvm.Cond.methodLink "ThousandLeafletsModel" (374 : Nat) ({ cls := "ThousandLeafletsModel", name := "isAllWith", desc := "(III)Z" } : Jvm.MethodName)) := sb_7 (List.mem_of_getElem? (i := 175) rfl) rfl
theorem tw_1617 : TW (Jvm.Cond.instanceMethod ({ cls := "ThousandLeafletsModel", name := "isAllWith", desc := "(III)Z" } : Jvm.MethodName)) := sb_7 (List.mem_of_getElem? (i := 177) rfl) rfl
theorem tw_1618 : TW (Jvm.Cond.code ({ cls := "ThousandLeafletsModel", name := "isAllWith", desc := "(III)Z" } : Jvm.MethodName) prog_14_method_82_code (7 : Nat) (Option.some Jvm.ClassFile.FieldType.boolean)) := sb_7 (List.mem_of_getElem? (i := 178) rfl) rfl
theorem tw_1619 : TW (Jvm.Cond.methodLink "ThousandLeafletsModel" (371 : Nat) ({ cls := "ThousandLeafletsModel", name := "givesAll", desc := "(II)Z" } : Jvm.MethodName)) := sb_7 (List.mem_of_getElem? (i := 179) rfl) rfl
theorem tw_1621 : TW (Jvm.Cond.instanceMethod ({ cls := "ThousandLeafletsModel", name := "givesAll", desc := "(II)Z" } : Jvm.MethodName)) := sb_7 (List.mem_of_getElem? (i := 181) rfl) rfl
theorem tw_1622 : TW (Jvm.Cond.code ({ cls := "ThousandLeafletsModel", name := "givesAll", desc := "(II)Z" } : Jvm.MethodName) prog_14_method_83_code (3 : Nat) (Option.some Jvm.ClassFile.FieldType.boolean)) := sb_7 (List.mem_of_getElem? (i := 182) rfl) rfl
theorem tw_1623 : TW (Jvm.Cond.methodLink "ThousandLeafletsLaw" (121 : Nat) ({ cls := "ThousandLeafletsModel", name := "chances", desc := "(IIII)I" } : Jvm.MethodName)) := sb_7 (List.mem_of_getElem? (i := 183) rfl) rfl
theorem tw_1624 : TW (Jvm.Cond.instanceMethod ({ cls := "ThousandLeafletsModel", name := "chances", desc := "(IIII)I" } : Jvm.MethodName)) := sb_7 (List.mem_of_getElem? (i := 184) rfl) rfl
theorem tw_1625 : TW (Jvm.Cond.selects "ThousandLeafletsModel" ({ cls := "ThousandLeafletsModel", name := "chances", desc := "(IIII)I" } : Jvm.MethodName) ({ cls := "ThousandLeafletsModel", name := "chances", desc := "(IIII)I" } : Jvm.MethodName)) := sb_7 (List.mem_of_getElem? (i := 185) rfl) rfl
theorem tw_1626 : TW (Jvm.Cond.code ({ cls := "ThousandLeafletsModel", name := "chances", desc := "(IIII)I" } : Jvm.MethodName) prog_14_method_88_code (5 : Nat) (Option.some Jvm.ClassFile.FieldType.int)) := sb_7 (List.mem_of_getElem? (i := 186) rfl) rfl
theorem tw_1627 : TW (Jvm.Cond.methodLink "ThousandLeafletsModel" (377 : Nat) ({ cls := "ThousandLeafletsModel", name := "areChances", desc := "(III)Z" } : Jvm.MethodName)) := sb_7 (List.mem_of_getElem? (i := 187) rfl) rfl
theorem tw_1629 : TW (Jvm.Cond.instanceMethod ({ cls := "ThousandLeafletsModel", name := "areChances", desc := "(III)Z" } : Jvm.MethodName)) := sb_7 (List.mem_of_getElem? (i := 189) rfl) rfl
theorem tw_1630 : TW (Jvm.Cond.code ({ cls := "ThousandLeafletsModel", name := "areChances", desc := "(III)Z" } : Jvm.MethodName) prog_14_method_87_code (4 : Nat) (Option.some Jvm.ClassFile.FieldType.boolean)) := sb_7 (List.mem_of_getElem? (i := 190) rfl) rfl
theorem tw_1631 : TW (Jvm.Cond.methodLink "ThousandLeafletsModel" (380 : Nat) ({ cls := "ThousandLeafletsModel", name := "keepsSets", desc := "(II)V" } : Jvm.MethodName)) := sb_7 (List.mem_of_getElem? (i := 191) rfl) rfl
theorem tw_1633 : TW (Jvm.Cond.instanceMethod ({ cls := "ThousandLeafletsModel", name := "keepsSets", desc := "(II)V" } : Jvm.MethodName)) := sb_7 (List.mem_of_getElem? (i := 193) rfl) rfl
theorem tw_1634 : TW (Jvm.Cond.code ({ cls := "ThousandLeafletsModel", name := "keepsSets", desc := "(II)V" } : Jvm.MethodName) prog_14_method_86_code (4 : Nat) (Option.none : Option Jvm.ClassFile.FieldType)) := sb_7 (List.mem_of_getElem? (i := 194) rfl) rfl
theorem tw_1635 : TW (Jvm.Cond.methodLink "ThousandLeafletsModel" (383 : Nat) ({ cls := "ThousandLeafletsModel", name := "chancesOf", desc := "(IIII)I" } : Jvm.MethodName)) := sb_7 (List.mem_of_getElem? (i := 195) rfl) rfl
theorem tw_1637 : TW (Jvm.Cond.instanceMethod ({ cls := "ThousandLeafletsModel", name := "chancesOf", desc := "(IIII)I" } : Jvm.MethodName)) := sb_7 (List.mem_of_getElem? (i := 197) rfl) rfl
theorem tw_1638 : TW (Jvm.Cond.code ({ cls := "ThousandLeafletsModel", name := "chancesOf", desc := "(IIII)I" } : Jvm.MethodName) prog_14_method_85_code (8 : Nat) (Option.some Jvm.ClassFile.FieldType.int)) := sb_7 (List.mem_of_getElem? (i := 198) rfl) rfl
theorem tw_1639 : TW (Jvm.Cond.methodLink "ThousandLeafletsLaw" (126 : Nat) ({ cls := "ThousandLeafletsModel", name := "enough", desc := "(IIIZ)I" } : Jvm.MethodName)) := sb_7 (List.mem_of_getElem? (i := 199) rfl) rfl
theorem tw_1640 : TW (Jvm.Cond.instanceMethod ({ cls := "ThousandLeafletsModel", name := "enough", desc := "(IIIZ)I" } : Jvm.MethodName)) := sb_7 (List.mem_of_getElem? (i := 200) rfl) rfl
theorem tw_1641 : TW (Jvm.Cond.selects "ThousandLeafletsModel" ({ cls := "ThousandLeafletsModel", name := "enough", desc := "(IIIZ)I" } : Jvm.MethodName) ({ cls := "ThousandLeafletsModel", name := "enough", desc := "(IIIZ)I" } : Jvm.MethodName)) := sb_7 (List.mem_of_getElem? (i := 201) rfl) rfl
theorem tw_1642 : TW (Jvm.Cond.code ({ cls := "ThousandLeafletsModel", name := "enough", desc := "(IIIZ)I" } : Jvm.MethodName) prog_14_method_90_code (7 : Nat) (Option.some Jvm.ClassFile.FieldType.int)) := sb_7 (List.mem_of_getElem? (i := 202) rfl) rfl
theorem tw_1643 : TW (Jvm.Cond.methodLink "ThousandLeafletsModel" (387 : Nat) ({ cls := "ThousandLeafletsModel", name := "choices", desc := "(II)I" } : Jvm.MethodName)) := sb_7 (List.mem_of_getElem? (i := 203) rfl) rfl
theorem tw_1644 : TW (Jvm.Cond.static ({ cls := "ThousandLeafletsModel", name := "choices", desc := "(II)I" } : Jvm.MethodName)) := sb_7 (List.mem_of_getElem? (i := 204) rfl) rfl
theorem tw_1645 : TW (Jvm.Cond.code ({ cls := "ThousandLeafletsModel", name := "choices", desc := "(II)I" } : Jvm.MethodName) prog_14_method_89_code (4 : Nat) (Option.some Jvm.ClassFile.FieldType.int)) := sb_7 (List.mem_of_getElem? (i := 205) rfl) rfl
theorem tw_1646 : TW (Jvm.Cond.methodLink "ThousandLeafletsLaw" (131 : Nat) ({ cls := "ThousandLeafletsModel", name := "average", desc := "(IIII)J" } : Jvm.MethodName)) := sb_7 (List.mem_of_getElem? (i := 206) rfl) rfl
theorem tw_1647 : TW (Jvm.Cond.instanceMethod ({ cls := "ThousandLeafletsModel", name := "average", desc := "(IIII)J" } : Jvm.MethodName)) := sb_7 (List.mem_of_getElem? (i := 207) rfl) rfl
theorem tw_1648 : TW (Jvm.Cond.selects "ThousandLeafletsModel" ({ cls := "ThousandLeafletsModel", name := "average", desc := "(IIII)J" } : Jvm.MethodName) ({ cls := "ThousandLeafletsModel", name := "average", desc := "(IIII)J" } : Jvm.MethodName)) := sb_7 (List.mem_of_getElem? (i := 208) rfl) rfl
theorem tw_1649 : TW (Jvm.Cond.code ({ cls := "ThousandLeafletsModel", name := "average", desc := "(IIII)J" } : Jvm.MethodName) prog_14_method_92_code (16 : Nat) (Option.some Jvm.ClassFile.FieldType.long)) := sb_7 (List.mem_of_getElem? (i := 209) rfl) rfl
theorem tw_1650 : TW (Jvm.Cond.constantLong "ThousandLeafletsModel" (390 : Nat) (-1 : Int64)) := sb_7 (List.mem_of_getElem? (i := 210) rfl) rfl
theorem tw_1651 : TW (Jvm.Cond.methodLink "ThousandLeafletsModel" (392 : Nat) ({ cls := "ThousandLeafletsModel", name := "common", desc := "(JJ)J" } : Jvm.MethodName)) := sb_7 (List.mem_of_getElem? (i := 211) rfl) rfl
theorem tw_1652 : TW (Jvm.Cond.static ({ cls := "ThousandLeafletsModel", name := "common", desc := "(JJ)J" } : Jvm.MethodName)) := sb_7 (List.mem_of_getElem? (i := 212) rfl) rfl
theorem tw_1653 : TW (Jvm.Cond.code ({ cls := "ThousandLeafletsModel", name := "common", desc := "(JJ)J" } : Jvm.MethodName) prog_14_method_91_code (10 : Nat) (Option.some Jvm.ClassFile.FieldType.long)) := sb_7 (List.mem_of_getElem? (i := 213) rfl) rfl
theorem tw_1654 : TW (Jvm.Cond.methodLink "ThousandLeafletsLaw" (135 : Nat) ({ cls := "ThousandLeafletsModel", name := "degree", desc := "(IIII)I" } : Jvm.MethodName)) := sb_7 (List.mem_of_getElem? (i := 214) rfl) rfl
theorem tw_1655 : TW (Jvm.Cond.instanceMethod ({ cls := "ThousandLeafletsModel", name := "degree", desc := "(IIII)I" } : Jvm.MethodName)) := sb_7 (List.mem_of_getElem? (i := 215) rfl) rfl
theorem tw_1656 : TW (Jvm.Cond.selects "ThousandLeafletsModel" ({ cls := "ThousandLeafletsModel", name := "degree", desc := "(IIII)I" } : Jvm.MethodName) ({ cls := "ThousandLeafletsModel", name := "degree", desc := "(IIII)I" } : Jvm.MethodName)) := sb_7 (List.mem_of_getElem? (i := 216) rfl) rfl
theorem tw_1657 : TW (Jvm.Cond.code ({ cls := "ThousandLeafletsModel", name := "degree", desc := "(IIII)I" } : Jvm.MethodName) prog_14_method_93_code (9 : Nat) (Option.some Jvm.ClassFile.FieldType.int)) := sb_7 (List.mem_of_getElem? (i := 217) rfl) rfl
theorem tw_1658 : TW (Jvm.Cond.methodLink "ThousandLeafletsLaw" (139 : Nat) ({ cls := "ThousandLeafletsModel", name := "apart", desc := "(II)I" } : Jvm.MethodName)) := sb_7 (List.mem_of_getElem? (i := 218) rfl) rfl
theorem tw_1659 : TW (Jvm.Cond.instanceMethod ({ cls := "ThousandLeafletsModel", name := "apart", desc := "(II)I" } : Jvm.MethodName)) := sb_7 (List.mem_of_getElem? (i := 219) rfl) rfl
theorem tw_1660 : TW (Jvm.Cond.selects "ThousandLeafletsModel" ({ cls := "ThousandLeafletsModel", name := "apart", desc := "(II)I" } : Jvm.MethodName) ({ cls := "ThousandLeafletsModel", name := "apart", desc := "(II)I" } : Jvm.MethodName)) := sb_7 (List.mem_of_getElem? (i := 220) rfl) rfl
theorem tw_1661 : TW (Jvm.Cond.code ({ cls := "ThousandLeafletsModel", name := "apart", desc := "(II)I" } : Jvm.MethodName) prog_14_method_95_code (7 : Nat) (Option.some Jvm.ClassFile.FieldType.int)) := sb_7 (List.mem_of_getElem? (i := 221) rfl) rfl
theorem tw_1662 : TW (Jvm.Cond.methodLink "ThousandLeafletsModel" (396 : Nat) ({ cls := "ThousandLeafletsModel", name := "agreesBy", desc := "(III)Z" } : Jvm.MethodName)) := sb_7 (List.mem_of_getElem? (i := 222) rfl) rfl
theorem tw_1664 : TW (Jvm.Cond.instanceMethod ({ cls := "ThousandLeafletsModel", name := "agreesBy", desc := "(III)Z" } : Jvm.MethodName)) := sb_7 (List.mem_of_getElem? (i := 224) rfl) rfl
theorem tw_1665 : TW (Jvm.Cond.code ({ cls := "ThousandLeafletsModel", name := "agreesBy", desc := "(III)Z" } : Jvm.MethodName) prog_14_method_94_code (8 : Nat) (Option.some Jvm.ClassFile.FieldType.boolean)) := sb_7 (List.mem_of_getElem? (i := 225) rfl) rfl
theorem tw_1666 : TW (Jvm.Cond.methodLink "ThousandLeafletsLaw" (143 : Nat) ({ cls := "ThousandLeafletsModel", name := "quarter", desc := "(III)Z" } : Jvm.MethodName)) := sb_7 (List.mem_of_getElem? (i := 226) rfl) rfl
theorem tw_1667 : TW (Jvm.Cond.instanceMethod ({ cls := "ThousandLeafletsModel", name := "quarter", desc := "(III)Z" } : Jvm.MethodName)) := sb_7 (List.mem_of_getElem? (i := 227) rfl) rfl
theorem tw_1668 : TW (Jvm.Cond.selects "ThousandLeafletsModel" ({ cls := "ThousandLeafletsModel", name := "quarter", desc := "(III)Z" } : Jvm.MethodName) ({ cls := "ThousandLeafletsModel", name := "quarter", desc := "(III)Z" } : Jvm.MethodName)) := sb_7 (List.mem_of_getElem? (i := 228) rfl) rfl
theorem tw_1669 : TW (Jvm.Cond.code ({ cls := "ThousandLeafletsModel", name := "quarter", desc := "(III)Z" } : Jvm.MethodName) prog_14_method_96_code (4 : Nat) (Option.some Jvm.ClassFile.FieldType.boolean)) := sb_7 (List.mem_of_getElem? (i := 229) rfl) rfl
theorem tw_1670 : TW (Jvm.Cond.methodLink "ThousandLeafletsLaw" (147 : Nat) ({ cls := "ThousandLeafletsModel", name := "scatter", desc := "(III)I" } : Jvm.MethodName)) := sb_7 (List.mem_of_getElem? (i := 230) rfl) rfl
theorem tw_1671 : TW (Jvm.Cond.instanceMethod ({ cls := "ThousandLeafletsModel", name := "scatter", desc := "(III)I" } : Jvm.MethodName)) := sb_7 (List.mem_of_getElem? (i := 231) rfl) rfl
theorem tw_1672 : TW (Jvm.Cond.selects "ThousandLeafletsModel" ({ cls := "ThousandLeafletsModel", name := "scatter", desc := "(III)I" } : Jvm.MethodName) ({ cls := "ThousandLeafletsModel", name := "scatter", desc := "(III)I" } : Jvm.MethodName)) := sb_7 (List.mem_of_getElem? (i := 232) rfl) rfl
theorem tw_1673 : TW (Jvm.Cond.code ({ cls := "ThousandLeafletsModel", name := "scatter", desc := "(III)I" } : Jvm.MethodName) prog_14_method_100_code (9 : Nat) (Option.some Jvm.ClassFile.FieldType.int)) := sb_7 (List.mem_of_getElem? (i := 233) rfl) rfl
theorem tw_1674 : TW (Jvm.Cond.methodLink "ThousandLeafletsModel" (402 : Nat) ({ cls := "ThousandLeafletsModel", name := "falls", desc := "(III)Z" } : Jvm.MethodName)) := sb_7 (List.mem_of_getElem? (i := 234) rfl) rfl
theorem tw_1676 : TW (Jvm.Cond.instanceMethod ({ cls := "ThousandLeafletsModel", name := "falls", desc := "(III)Z" } : Jvm.MethodName)) := sb_7 (List.mem_of_getElem? (i := 236) rfl) rfl
theorem tw_1677 : TW (Jvm.Cond.code ({ cls := "ThousandLeafletsModel", name := "falls", desc := "(III)Z" } : Jvm.MethodName) prog_14_method_97_code (4 : Nat) (Option.some Jvm.ClassFile.FieldType.boolean)) := sb_7 (List.mem_of_getElem? (i := 237) rfl) rfl
theorem tw_1678 : TW (Jvm.Cond.methodLink "ThousandLeafletsModel" (405 : Nat) ({ cls := "ThousandLeafletsModel", name := "hasAlike", desc := "(II)Z" } : Jvm.MethodName)) := sb_7 (List.mem_of_getElem? (i := 238) rfl) rfl
theorem tw_1680 : TW (Jvm.Cond.instanceMethod ({ cls := "ThousandLeafletsModel", name := "hasAlike", desc := "(II)Z" } : Jvm.MethodName)) := sb_8 (List.mem_of_getElem? (i := 0) rfl) rfl
theorem tw_1681 : TW (Jvm.Cond.code ({ cls := "ThousandLeafletsModel", name := "hasAlike", desc := "(II)Z" } : Jvm.MethodName) prog_14_method_99_code (5 : Nat) (Option.some Jvm.ClassFile.FieldType.boolean)) := sb_8 (List.mem_of_getElem? (i := 1) rfl) rfl
theorem tw_1682 : TW (Jvm.Cond.methodLink "ThousandLeafletsModel" (399 : Nat) ({ cls := "ThousandLeafletsModel", name := "isAlike", desc := "(II)Z" } : Jvm.MethodName)) := sb_8 (List.mem_of_getElem? (i := 2) rfl) rfl
theorem tw_1684 : TW (Jvm.Cond.instanceMethod ({ cls := "ThousandLeafletsModel", name := "isAlike", desc := "(II)Z" } : Jvm.MethodName)) := sb_8 (List.mem_of_getElem? (i := 4) rfl) rfl
theorem tw_1685 : TW (Jvm.Cond.code ({ cls := "ThousandLeafletsModel", name := "isAlike", desc := "(II)Z" } : Jvm.MethodName) prog_14_method_98_code (3 : Nat) (Option.some Jvm.ClassFile.FieldType.boolean)) := sb_8 (List.mem_of_getElem? (i := 5) rfl) rfl
theorem tw_1686 : TW (Jvm.Cond.methodLink "ThousandLeafletsLaw" (151 : Nat) ({ cls := "ThousandLeafletsModel", name := "needs", desc := "(II)I" } : Jvm.MethodName)) := sb_8 (List.mem_of_getElem? (i := 6) rfl) rfl
theorem tw_1687 : TW (Jvm.Cond.instanceMethod ({ cls := "ThousandLeafletsModel", name := "needs", desc := "(II)I" } : Jvm.MethodName)) := sb_8 (List.mem_of_getElem? (i := 7) rfl) rfl
theorem tw_1688 : TW (Jvm.Cond.selects "ThousandLeafletsModel" ({ cls := "ThousandLeafletsModel", name := "needs", desc := "(II)I" } : Jvm.MethodName) ({ cls := "ThousandLeafletsModel", name := "needs", desc := "(II)I" } : Jvm.MethodName)) := sb_8 (List.mem_of_getElem? (i := 8) rfl) rfl
theorem tw_1689 : TW (Jvm.Cond.code ({ cls := "ThousandLeafletsModel", name := "needs", desc := "(II)I" } : Jvm.MethodName) prog_14_method_102_code (4 : Nat) (Option.some Jvm.ClassFile.FieldType.int)) := sb_8 (List.mem_of_getElem? (i := 9) rfl) rfl
theorem tw_1690 : TW (Jvm.Cond.methodLink "ThousandLeafletsModel" (408 : Nat) ({ cls := "ThousandLeafletsModel", name := "needsOf", desc := "(II)I" } : Jvm.MethodName)) := sb_8 (List.mem_of_getElem? (i := 10) rfl) rfl
theorem tw_1692 : TW (Jvm.Cond.instanceMethod ({ cls := "ThousandLeafletsModel", name := "needsOf", desc := "(II)I" } : Jvm.MethodName)) := sb_8 (List.mem_of_getElem? (i := 12) rfl) rfl
theorem tw_1693 : TW (Jvm.Cond.code ({ cls := "ThousandLeafletsModel", name := "needsOf", desc := "(II)I" } : Jvm.MethodName) prog_14_method_101_code (4 : Nat) (Option.some Jvm.ClassFile.FieldType.int)) := sb_8 (List.mem_of_getElem? (i := 13) rfl) rfl
theorem tw_1694 : TW (Jvm.Cond.methodLink "ThousandLeafletsLaw" (155 : Nat) ({ cls := "ThousandLeafletsModel", name := "town", desc := "(II)I" } : Jvm.MethodName)) := sb_8 (List.mem_of_getElem? (i := 14) rfl) rfl
theorem tw_1695 : TW (Jvm.Cond.instanceMethod ({ cls := "ThousandLeafletsModel", name := "town", desc := "(II)I" } : Jvm.MethodName)) := sb_8 (List.mem_of_getElem? (i := 15) rfl) rfl
theorem tw_1696 : TW (Jvm.Cond.selects "ThousandLeafletsModel" ({ cls := "ThousandLeafletsModel", name := "town", desc := "(II)I" } : Jvm.MethodName) ({ cls := "ThousandLeafletsModel", name := "town", desc := "(II)I" } : Jvm.MethodName)) := sb_8 (List.mem_of_getElem? (i := 16) rfl) rfl
theorem tw_1697 : TW (Jvm.Cond.code ({ cls := "ThousandLeafletsModel", name := "town", desc := "(II)I" } : Jvm.MethodName) prog_14_method_104_code (6 : Nat) (Option.some Jvm.ClassFile.FieldType.int)) := sb_8 (List.mem_of_getElem? (i := 17) rfl) rfl
theorem tw_1698 : TW (Jvm.Cond.methodLink "ThousandLeafletsModel" (411 : Nat) ({ cls := "ThousandLeafletsModel", name := "allHouses", desc := "()I" } : Jvm.MethodName)) := sb_8 (List.mem_of_getElem? (i := 18) rfl) rfl
theorem tw_1700 : TW (Jvm.Cond.instanceMethod ({ cls := "ThousandLeafletsModel", name := "allHouses", desc := "()I" } : Jvm.MethodName)) := sb_8 (List.mem_of_getElem? (i := 20) rfl) rfl
theorem tw_1701 : TW (Jvm.Cond.code ({ cls := "ThousandLeafletsModel", name := "allHouses", desc := "()I" } : Jvm.MethodName) prog_14_method_103_code (3 : Nat) (Option.some Jvm.ClassFile.FieldType.int)) := sb_8 (List.mem_of_getElem? (i := 21) rfl) rfl
theorem tw_1702 : TW (Jvm.Cond.methodLink "ThousandLeafletsLaw" (159 : Nat) ({ cls := "ThousandLeafletsModel", name := "swap", desc := "(III)I" } : Jvm.MethodName)) := sb_8 (List.mem_of_getElem? (i := 22) rfl) rfl
theorem tw_1703 : TW (Jvm.Cond.instanceMethod ({ cls := "ThousandLeafletsModel", name := "swap", desc := "(III)I" } : Jvm.MethodName)) := sb_8 (List.mem_of_getElem? (i := 23) rfl) rfl
theorem tw_1704 : TW (Jvm.Cond.selects "ThousandLeafletsModel" ({ cls := "ThousandLeafletsModel", name := "swap", desc := "(III)I" } : Jvm.MethodName) ({ cls := "ThousandLeafletsModel", name := "swap", desc := "(III)I" } : Jvm.MethodName)) := sb_8 (List.mem_of_getElem? (i := 24) rfl) rfl
theorem tw_1705 : TW (Jvm.Cond.code ({ cls := "ThousandLeafletsModel", name := "swap", desc := "(III)I" } : Jvm.MethodName) prog_14_method_105_code (8 : Nat) (Option.some Jvm.ClassFile.FieldType.int)) := sb_8 (List.mem_of_getElem? (i := 25) rfl) rfl
theorem tw_1706 : TW (Jvm.Cond.methodLink "ThousandLeafletsLaw" (168 : Nat) ({ cls := "ThousandLeafletsModel", name := "count", desc := "(I)I" } : Jvm.MethodName)) := sb_8 (List.mem_of_getElem? (i := 26) rfl) rfl
theorem tw_1707 : TW (Jvm.Cond.instanceMethod ({ cls := "ThousandLeafletsModel", name := "count", desc := "(I)I" } : Jvm.MethodName)) := sb_8 (List.mem_of_getElem? (i := 27) rfl) rfl
theorem tw_1708 : TW (Jvm.Cond.selects "ThousandLeafletsModel" ({ cls := "ThousandLeafletsModel", name := "count", desc := "(I)I" } : Jvm.MethodName) ({ cls := "ThousandLeafletsModel", name := "count", desc := "(I)I" } : Jvm.MethodName)) := sb_8 (List.mem_of_getElem? (i := 28) rfl) rfl
theorem tw_1709 : TW (Jvm.Cond.code ({ cls := "ThousandLeafletsModel", name := "count", desc := "(I)I" } : Jvm.MethodName) prog_14_method_106_code (2 : Nat) (Option.some Jvm.ClassFile.FieldType.int)) := sb_8 (List.mem_of_getElem? (i := 29) rfl) rfl
theorem tw_1710 : TW (Jvm.Cond.constantLong "ThousandLeafletsLaw" (29 : Nat) (4294967295 : Int64)) := sb_8 (List.mem_of_getElem? (i := 30) rfl) rfl
theorem ul_X0 : ∀ k, k < 4 → TW (u_lay RX0 TX0 k)
  | 0, _ => tw_187
  | 1, _ => tw_189
  | 2, _ => tw_191
  | 3, _ => tw_193
  | k + 4, h => absurd h (by omega)
theorem us_X0 : ∀ w ∈ u_ws RX0 TX0 4, TW w := TWs ul_X0
theorem df_X0 : ∀ j, j < 4 → defaultValue (tyX0 j) = vp_V (fl0 (ft 0)) j := by decide +kernel
theorem ul_X1 : ∀ k, k < 7 → TW (u_lay RX1 TX1 k)
  | 0, _ => tw_304
  | 1, _ => tw_306
  | 2, _ => tw_308
  | 3, _ => tw_310
  | 4, _ => tw_312
  | 5, _ => tw_314
  | 6, _ => tw_316
  | k + 7, h => absurd h (by omega)
theorem us_X1 : ∀ w ∈ u_ws RX1 TX1 7, TW w := TWs ul_X1
theorem df_X1 : ∀ j, j < 7 → defaultValue (tyX1 j) = vp_V (fl0 (ft 1)) j := by decide +kernel
theorem ul_X2 : ∀ k, k < 7 → TW (u_lay RX2 TX2 k)
  | 0, _ => tw_239
  | 1, _ => tw_241
  | 2, _ => tw_243
  | 3, _ => tw_245
  | 4, _ => tw_247
  | 5, _ => tw_249
  | 6, _ => tw_251
  | k + 7, h => absurd h (by omega)
theorem us_X2 : ∀ w ∈ u_ws RX2 TX2 7, TW w := TWs ul_X2
theorem df_X2 : ∀ j, j < 7 → defaultValue (tyX2 j) = vp_V (fl0 (ft 2)) j := by decide +kernel
theorem ul_X3 : ∀ k, k < 6 → TW (u_lay RX3 TX3 k)
  | 0, _ => tw_105
  | 1, _ => tw_107
  | 2, _ => tw_109
  | 3, _ => tw_111
  | 4, _ => tw_113
  | 5, _ => tw_115
  | k + 6, h => absurd h (by omega)
theorem us_X3 : ∀ w ∈ u_ws RX3 TX3 6, TW w := TWs ul_X3
theorem df_X3 : ∀ j, j < 6 → defaultValue (tyX3 j) = vp_V (fl0 (ft 3)) j := by decide +kernel
theorem ul_X4 : ∀ k, k < 2 → TW (u_lay RX4 TX4 k)
  | 0, _ => tw_122
  | 1, _ => tw_124
  | k + 2, h => absurd h (by omega)
theorem us_X4 : ∀ w ∈ u_ws RX4 TX4 2, TW w := TWs ul_X4
theorem df_X4 : ∀ j, j < 2 → defaultValue (tyX4 j) = vp_V (fl0 (ft 4)) j := by decide +kernel
theorem ul_X5 : ∀ k, k < 6 → TW (u_lay RX5 TX5 k)
  | 0, _ => tw_156
  | 1, _ => tw_158
  | 2, _ => tw_160
  | 3, _ => tw_162
  | 4, _ => tw_164
  | 5, _ => tw_166
  | k + 6, h => absurd h (by omega)
theorem us_X5 : ∀ w ∈ u_ws RX5 TX5 6, TW w := TWs ul_X5
theorem df_X5 : ∀ j, j < 6 → defaultValue (tyX5 j) = vp_V (fl0 (ft 5)) j := by decide +kernel
theorem ul_X6 : ∀ k, k < 2 → TW (u_lay RX6 TX6 k)
  | 0, _ => tw_329
  | 1, _ => tw_331
  | k + 2, h => absurd h (by omega)
theorem us_X6 : ∀ w ∈ u_ws RX6 TX6 2, TW w := TWs ul_X6
theorem df_X6 : ∀ j, j < 2 → defaultValue (tyX6 j) = vp_V (fl0 (ft 6)) j := by decide +kernel
theorem ul_X7 : ∀ k, k < 7 → TW (u_lay RX7 TX7 k)
  | 0, _ => tw_672
  | 1, _ => tw_674
  | 2, _ => tw_676
  | 3, _ => tw_678
  | 4, _ => tw_680
  | 5, _ => tw_682
  | 6, _ => tw_684
  | k + 7, h => absurd h (by omega)
theorem us_X7 : ∀ w ∈ u_ws RX7 TX7 7, TW w := TWs ul_X7
theorem df_X7 : ∀ j, j < 7 → defaultValue (tyX7 j) = vp_V (fl0 (ft 7)) j := by decide +kernel
theorem ul_X8 : ∀ k, k < 8 → TW (u_lay RX8 TX8 k)
  | 0, _ => tw_205
  | 1, _ => tw_207
  | 2, _ => tw_209
  | 3, _ => tw_211
  | 4, _ => tw_213
  | 5, _ => tw_215
  | 6, _ => tw_217
  | 7, _ => tw_219
  | k + 8, h => absurd h (by omega)
theorem us_X8 : ∀ w ∈ u_ws RX8 TX8 8, TW w := TWs ul_X8
theorem df_X8 : ∀ j, j < 8 → defaultValue (tyX8 j) = vp_V (fl0 (ft 8)) j := by decide +kernel
theorem ul_X9 : ∀ k, k < 6 → TW (u_lay RX9 TX9 k)
  | 0, _ => tw_60
  | 1, _ => tw_62
  | 2, _ => tw_64
  | 3, _ => tw_66
  | 4, _ => tw_68
  | 5, _ => tw_70
  | k + 6, h => absurd h (by omega)
theorem us_X9 : ∀ w ∈ u_ws RX9 TX9 6, TW w := TWs ul_X9
theorem df_X9 : ∀ j, j < 6 → defaultValue (tyX9 j) = vp_V (fl0 (ft 9)) j := by decide +kernel
theorem ul_X10 : ∀ k, k < 6 → TW (u_lay RX10 TX10 k)
  | 0, _ => tw_270
  | 1, _ => tw_272
  | 2, _ => tw_274
  | 3, _ => tw_276
  | 4, _ => tw_278
  | 5, _ => tw_280
  | k + 6, h => absurd h (by omega)
theorem us_X10 : ∀ w ∈ u_ws RX10 TX10 6, TW w := TWs ul_X10
theorem df_X10 : ∀ j, j < 6 → defaultValue (tyX10 j) = vp_V (fl0 (ft 10)) j := by decide +kernel
theorem ul_X11 : ∀ k, k < 14 → TW (u_lay RX11 TX11 k)
  | 0, _ => tw_350
  | 1, _ => tw_352
  | 2, _ => tw_354
  | 3, _ => tw_356
  | 4, _ => tw_358
  | 5, _ => tw_360
  | 6, _ => tw_362
  | 7, _ => tw_364
  | 8, _ => tw_366
  | 9, _ => tw_368
  | 10, _ => tw_370
  | 11, _ => tw_372
  | 12, _ => tw_374
  | 13, _ => tw_376
  | k + 14, h => absurd h (by omega)
theorem us_X11 : ∀ w ∈ u_ws RX11 TX11 14, TW w := TWs ul_X11
theorem df_X11 : ∀ j, j < 14 → defaultValue (tyX11 j) = vp_V (fl0 (ft 11)) j := by decide +kernel
theorem ul_X12 : ∀ k, k < 48 → TW (u_lay RX12 TX12 k)
  | 0, _ => tw_1212
  | 1, _ => tw_1214
  | 2, _ => tw_1216
  | 3, _ => tw_1218
  | 4, _ => tw_1220
  | 5, _ => tw_1222
  | 6, _ => tw_1224
  | 7, _ => tw_1226
  | 8, _ => tw_1228
  | 9, _ => tw_1230
  | 10, _ => tw_1232
  | 11, _ => tw_1234
  | 12, _ => tw_1236
  | 13, _ => tw_1238
  | 14, _ => tw_1240
  | 15, _ => tw_1242
  | 16, _ => tw_1244
  | 17, _ => tw_1246
  | 18, _ => tw_1248
  | 19, _ => tw_1250
  | 20, _ => tw_1252
  | 21, _ => tw_1254
  | 22, _ => tw_1256
  | 23, _ => tw_1258
  | 24, _ => tw_1260
  | 25, _ => tw_1262
  | 26, _ => tw_1264
  | 27, _ => tw_1266
  | 28, _ => tw_1268
  | 29, _ => tw_1270
  | 30, _ => tw_1272
  | 31, _ => tw_1274
  | 32, _ => tw_1276
  | 33, _ => tw_1278
  | 34, _ => tw_1280
  | 35, _ => tw_1282
  | 36, _ => tw_1284
  | 37, _ => tw_1286
  | 38, _ => tw_1288
  | 39, _ => tw_1290
  | 40, _ => tw_1292
  | 41, _ => tw_1294
  | 42, _ => tw_1296
  | 43, _ => tw_1298
  | 44, _ => tw_1300
  | 45, _ => tw_1302
  | 46, _ => tw_1304
  | 47, _ => tw_1306
  | k + 48, h => absurd h (by omega)
theorem us_X12 : ∀ w ∈ u_ws RX12 TX12 48, TW w := TWs ul_X12
theorem df_X12 : ∀ j, j < 48 → defaultValue (tyX12 j) = vp_V (fl0 (ft 12)) j := by decide +kernel
theorem cl_L_8 : TW (.classLink RL 8 RX11) := tw_26
theorem ni_L_8 : NI RL 8 11 14 := ⟨RX11, TX11, tyX11, rfl, us_X11, tyX11_ok, tw_26, tw_27, tw_1, by decide, df_X11⟩
theorem cl_X11_9 : TW (.classLink RX11 9 RX1) := tw_34
theorem ni_X11_9 : NI RX11 9 1 7 := ⟨RX1, TX1, tyX1, rfl, us_X1, tyX1_ok, tw_34, tw_283, tw_10, by decide, df_X1⟩
theorem ao_X1 : TW (.arrayOver (.object RX1)) := tw_35
theorem cl_X11_15 : TW (.classLink RX11 15 RX6) := tw_36
theorem ni_X11_15 : NI RX11 15 6 2 := ⟨RX6, TX6, tyX6, rfl, us_X6, tyX6_ok, tw_36, tw_319, tw_11, by decide, df_X6⟩
theorem ao_X6 : TW (.arrayOver (.object RX6)) := tw_37
theorem cl_X11_38 : TW (.classLink RX11 38 RX4) := tw_38
theorem ni_X11_38 : NI RX11 38 4 2 := ⟨RX4, TX4, tyX4, rfl, us_X4, tyX4_ok, tw_38, tw_39, tw_2, by decide, df_X4⟩
theorem cl_X4_9 : TW (.classLink RX4 9 RX9) := tw_44
theorem ni_X4_9 : NI RX4 9 9 6 := ⟨RX9, TX9, tyX9, rfl, us_X9, tyX9_ok, tw_44, tw_45, tw_3, by decide, df_X9⟩
theorem fi_X9_9 : FI RX9 9 9 0 1 true := ⟨RX9, TX9, 6, tyX9, rfl, us_X9, tyX9_ok, nmX9, by decide, tw_50, rfl, by decide, rfl, rfl, rfl, Or.inr ⟨_, rfl⟩⟩
theorem fi_X9_15 : FI RX9 15 9 1 0 false := ⟨RX9, TX9, 6, tyX9, rfl, us_X9, tyX9_ok, nmX9, by decide, tw_51, rfl, by decide, rfl, rfl, rfl, rfl⟩
theorem fi_X11_121 : FI RX11 121 9 1 0 false := ⟨RX9, TX9, 6, tyX9, rfl, us_X9, tyX9_ok, nmX9, by decide, tw_52, rfl, by decide, rfl, rfl, rfl, rfl⟩
theorem fi_X4_34 : FI RX4 34 9 2 0 false := ⟨RX9, TX9, 6, tyX9, rfl, us_X9, tyX9_ok, nmX9, by decide, tw_53, rfl, by decide, rfl, rfl, rfl, rfl⟩
theorem fi_X9_25 : FI RX9 25 9 2 0 false := ⟨RX9, TX9, 6, tyX9, rfl, us_X9, tyX9_ok, nmX9, by decide, tw_54, rfl, by decide, rfl, rfl, rfl, rfl⟩
theorem fi_X9_22 : FI RX9 22 9 3 0 false := ⟨RX9, TX9, 6, tyX9, rfl, us_X9, tyX9_ok, nmX9, by decide, tw_55, rfl, by decide, rfl, rfl, rfl, rfl⟩
theorem fi_X4_96 : FI RX4 96 9 3 0 false := ⟨RX9, TX9, 6, tyX9, rfl, us_X9, tyX9_ok, nmX9, by decide, tw_56, rfl, by decide, rfl, rfl, rfl, rfl⟩
theorem fi_X9_19 : FI RX9 19 9 4 0 false := ⟨RX9, TX9, 6, tyX9, rfl, us_X9, tyX9_ok, nmX9, by decide, tw_57, rfl, by decide, rfl, rfl, rfl, rfl⟩
theorem fi_X4_82 : FI RX4 82 9 5 0 false := ⟨RX9, TX9, 6, tyX9, rfl, us_X9, tyX9_ok, nmX9, by decide, tw_58, rfl, by decide, rfl, rfl, rfl, rfl⟩
theorem fi_X9_36 : FI RX9 36 9 5 0 false := ⟨RX9, TX9, 6, tyX9, rfl, us_X9, tyX9_ok, nmX9, by decide, tw_59, rfl, by decide, rfl, rfl, rfl, rfl⟩
theorem ac_boolean : TW (.arrayClass .boolean) := tw_73
theorem ac_int : TW (.arrayClass .int) := tw_74
theorem cl_X4_18 : TW (.classLink RX4 18 RX3) := tw_75
theorem ni_X4_18 : NI RX4 18 3 6 := ⟨RX3, TX3, tyX3, rfl, us_X3, tyX3_ok, tw_75, tw_76, tw_4, by decide, df_X3⟩
theorem fi_X3_9 : FI RX3 9 3 0 1 true := ⟨RX3, TX3, 6, tyX3, rfl, us_X3, tyX3_ok, nmX3, by decide, tw_85, rfl, by decide, rfl, rfl, rfl, Or.inr ⟨_, rfl⟩⟩
theorem fi_X4_85 : FI RX4 85 3 0 1 true := ⟨RX3, TX3, 6, tyX3, rfl, us_X3, tyX3_ok, nmX3, by decide, tw_86, rfl, by decide, rfl, rfl, rfl, Or.inr ⟨_, rfl⟩⟩
theorem fi_X3_15 : FI RX3 15 3 1 1 true := ⟨RX3, TX3, 6, tyX3, rfl, us_X3, tyX3_ok, nmX3, by decide, tw_87, rfl, by decide, rfl, rfl, rfl, Or.inr ⟨_, rfl⟩⟩
theorem fi_X5_40 : FI RX5 40 3 1 1 true := ⟨RX3, TX3, 6, tyX3, rfl, us_X3, tyX3_ok, nmX3, by decide, tw_88, rfl, by decide, rfl, rfl, rfl, Or.inr ⟨_, rfl⟩⟩
theorem fi_X4_94 : FI RX4 94 3 1 1 true := ⟨RX3, TX3, 6, tyX3, rfl, us_X3, tyX3_ok, nmX3, by decide, tw_89, rfl, by decide, rfl, rfl, rfl, Or.inr ⟨_, rfl⟩⟩
theorem fi_X1_53 : FI RX1 53 3 1 1 true := ⟨RX3, TX3, 6, tyX3, rfl, us_X3, tyX3_ok, nmX3, by decide, tw_90, rfl, by decide, rfl, rfl, rfl, Or.inr ⟨_, rfl⟩⟩
theorem fi_X5_35 : FI RX5 35 3 2 0 false := ⟨RX3, TX3, 6, tyX3, rfl, us_X3, tyX3_ok, nmX3, by decide, tw_91, rfl, by decide, rfl, rfl, rfl, rfl⟩
theorem fi_X3_21 : FI RX3 21 3 2 0 false := ⟨RX3, TX3, 6, tyX3, rfl, us_X3, tyX3_ok, nmX3, by decide, tw_92, rfl, by decide, rfl, rfl, rfl, rfl⟩
theorem fi_X4_65 : FI RX4 65 3 2 0 false := ⟨RX3, TX3, 6, tyX3, rfl, us_X3, tyX3_ok, nmX3, by decide, tw_93, rfl, by decide, rfl, rfl, rfl, rfl⟩
theorem fi_X1_46 : FI RX1 46 3 2 0 false := ⟨RX3, TX3, 6, tyX3, rfl, us_X3, tyX3_ok, nmX3, by decide, tw_94, rfl, by decide, rfl, rfl, rfl, rfl⟩
theorem fi_X3_25 : FI RX3 25 3 3 0 false := ⟨RX3, TX3, 6, tyX3, rfl, us_X3, tyX3_ok, nmX3, by decide, tw_95, rfl, by decide, rfl, rfl, rfl, rfl⟩
theorem fi_X4_54 : FI RX4 54 3 3 0 false := ⟨RX3, TX3, 6, tyX3, rfl, us_X3, tyX3_ok, nmX3, by decide, tw_96, rfl, by decide, rfl, rfl, rfl, rfl⟩
theorem fi_X1_92 : FI RX1 92 3 3 0 false := ⟨RX3, TX3, 6, tyX3, rfl, us_X3, tyX3_ok, nmX3, by decide, tw_97, rfl, by decide, rfl, rfl, rfl, rfl⟩
theorem fi_X3_28 : FI RX3 28 3 4 0 false := ⟨RX3, TX3, 6, tyX3, rfl, us_X3, tyX3_ok, nmX3, by decide, tw_98, rfl, by decide, rfl, rfl, rfl, rfl⟩
theorem fi_X4_91 : FI RX4 91 3 4 0 false := ⟨RX3, TX3, 6, tyX3, rfl, us_X3, tyX3_ok, nmX3, by decide, tw_99, rfl, by decide, rfl, rfl, rfl, rfl⟩
theorem fi_X1_95 : FI RX1 95 3 4 0 false := ⟨RX3, TX3, 6, tyX3, rfl, us_X3, tyX3_ok, nmX3, by decide, tw_100, rfl, by decide, rfl, rfl, rfl, rfl⟩
theorem fi_X3_31 : FI RX3 31 3 5 0 false := ⟨RX3, TX3, 6, tyX3, rfl, us_X3, tyX3_ok, nmX3, by decide, tw_101, rfl, by decide, rfl, rfl, rfl, rfl⟩
theorem fi_X4_73 : FI RX4 73 3 5 0 false := ⟨RX3, TX3, 6, tyX3, rfl, us_X3, tyX3_ok, nmX3, by decide, tw_102, rfl, by decide, rfl, rfl, rfl, rfl⟩
theorem fi_X1_60 : FI RX1 60 3 5 0 false := ⟨RX3, TX3, 6, tyX3, rfl, us_X3, tyX3_ok, nmX3, by decide, tw_103, rfl, by decide, rfl, rfl, rfl, rfl⟩
theorem fi_X11_357 : FI RX11 357 3 5 0 false := ⟨RX3, TX3, 6, tyX3, rfl, us_X3, tyX3_ok, nmX3, by decide, tw_104, rfl, by decide, rfl, rfl, rfl, rfl⟩
theorem fi_X4_12 : FI RX4 12 4 0 1 true := ⟨RX4, TX4, 2, tyX4, rfl, us_X4, tyX4_ok, nmX4, by decide, tw_118, rfl, by decide, rfl, rfl, rfl, Or.inl ⟨_, rfl⟩⟩
theorem fi_X11_111 : FI RX11 111 4 0 1 true := ⟨RX4, TX4, 2, tyX4, rfl, us_X4, tyX4_ok, nmX4, by decide, tw_119, rfl, by decide, rfl, rfl, rfl, Or.inl ⟨_, rfl⟩⟩
theorem fi_X4_21 : FI RX4 21 4 1 1 true := ⟨RX4, TX4, 2, tyX4, rfl, us_X4, tyX4_ok, nmX4, by decide, tw_120, rfl, by decide, rfl, rfl, rfl, Or.inl ⟨_, rfl⟩⟩
theorem fi_X11_128 : FI RX11 128 4 1 1 true := ⟨RX4, TX4, 2, tyX4, rfl, us_X4, tyX4_ok, nmX4, by decide, tw_121, rfl, by decide, rfl, rfl, rfl, Or.inl ⟨_, rfl⟩⟩
theorem cl_X11_45 : TW (.classLink RX11 45 RX5) := tw_127
theorem ni_X11_45 : NI RX11 45 5 6 := ⟨RX5, TX5, tyX5, rfl, us_X5, tyX5_ok, tw_127, tw_138, tw_6, by decide, df_X5⟩
theorem ao_X5 : TW (.arrayOver (.object RX5)) := tw_128
theorem cl_X11_51 : TW (.classLink RX11 51 RX0) := tw_129
theorem ni_X11_51 : NI RX11 51 0 4 := ⟨RX0, TX0, tyX0, rfl, us_X0, tyX0_ok, tw_129, tw_171, tw_7, by decide, df_X0⟩
theorem ao_X0 : TW (.arrayOver (.object RX0)) := tw_130
theorem cl_X11_57 : TW (.classLink RX11 57 RX8) := tw_131
theorem ni_X11_57 : NI RX11 57 8 8 := ⟨RX8, TX8, tyX8, rfl, us_X8, tyX8_ok, tw_131, tw_132, tw_5, by decide, df_X8⟩
theorem cl_X8_18 : TW (.classLink RX8 18 RX5) := tw_137
theorem ni_X8_18 : NI RX8 18 5 6 := ⟨RX5, TX5, tyX5, rfl, us_X5, tyX5_ok, tw_137, tw_138, tw_6, by decide, df_X5⟩
theorem fi_X5_9 : FI RX5 9 5 0 1 true := ⟨RX5, TX5, 6, tyX5, rfl, us_X5, tyX5_ok, nmX5, by decide, tw_143, rfl, by decide, rfl, rfl, rfl, Or.inr ⟨_, rfl⟩⟩
theorem fi_X0_31 : FI RX0 31 5 0 1 true := ⟨RX5, TX5, 6, tyX5, rfl, us_X5, tyX5_ok, nmX5, by decide, tw_144, rfl, by decide, rfl, rfl, rfl, Or.inr ⟨_, rfl⟩⟩
theorem fi_X5_15 : FI RX5 15 5 1 1 true := ⟨RX5, TX5, 6, tyX5, rfl, us_X5, tyX5_ok, nmX5, by decide, tw_145, rfl, by decide, rfl, rfl, rfl, Or.inr ⟨_, rfl⟩⟩
theorem fi_X11_269 : FI RX11 269 5 1 1 true := ⟨RX5, TX5, 6, tyX5, rfl, us_X5, tyX5_ok, nmX5, by decide, tw_146, rfl, by decide, rfl, rfl, rfl, Or.inr ⟨_, rfl⟩⟩
theorem fi_X5_18 : FI RX5 18 5 2 1 true := ⟨RX5, TX5, 6, tyX5, rfl, us_X5, tyX5_ok, nmX5, by decide, tw_147, rfl, by decide, rfl, rfl, rfl, Or.inr ⟨_, rfl⟩⟩
theorem fi_X11_382 : FI RX11 382 5 2 1 true := ⟨RX5, TX5, 6, tyX5, rfl, us_X5, tyX5_ok, nmX5, by decide, tw_148, rfl, by decide, rfl, rfl, rfl, Or.inr ⟨_, rfl⟩⟩
theorem fi_X5_21 : FI RX5 21 5 3 1 true := ⟨RX5, TX5, 6, tyX5, rfl, us_X5, tyX5_ok, nmX5, by decide, tw_149, rfl, by decide, rfl, rfl, rfl, Or.inr ⟨_, rfl⟩⟩
theorem fi_X5_25 : FI RX5 25 5 4 0 false := ⟨RX5, TX5, 6, tyX5, rfl, us_X5, tyX5_ok, nmX5, by decide, tw_150, rfl, by decide, rfl, rfl, rfl, rfl⟩
theorem fi_X0_26 : FI RX0 26 5 4 0 false := ⟨RX5, TX5, 6, tyX5, rfl, us_X5, tyX5_ok, nmX5, by decide, tw_151, rfl, by decide, rfl, rfl, rfl, rfl⟩
theorem fi_X8_84 : FI RX8 84 5 4 0 false := ⟨RX5, TX5, 6, tyX5, rfl, us_X5, tyX5_ok, nmX5, by decide, tw_152, rfl, by decide, rfl, rfl, rfl, rfl⟩
theorem fi_X11_266 : FI RX11 266 5 4 0 false := ⟨RX5, TX5, 6, tyX5, rfl, us_X5, tyX5_ok, nmX5, by decide, tw_153, rfl, by decide, rfl, rfl, rfl, rfl⟩
theorem fi_X5_50 : FI RX5 50 5 5 0 false := ⟨RX5, TX5, 6, tyX5, rfl, us_X5, tyX5_ok, nmX5, by decide, tw_154, rfl, by decide, rfl, rfl, rfl, rfl⟩
theorem fi_X11_263 : FI RX11 263 5 5 0 false := ⟨RX5, TX5, 6, tyX5, rfl, us_X5, tyX5_ok, nmX5, by decide, tw_155, rfl, by decide, rfl, rfl, rfl, rfl⟩
theorem ac_long : TW (.arrayClass .long) := tw_169
theorem cl_X8_25 : TW (.classLink RX8 25 RX0) := tw_170
theorem ni_X8_25 : NI RX8 25 0 4 := ⟨RX0, TX0, tyX0, rfl, us_X0, tyX0_ok, tw_170, tw_171, tw_7, by decide, df_X0⟩
theorem fi_X0_9 : FI RX0 9 0 0 1 true := ⟨RX0, TX0, 4, tyX0, rfl, us_X0, tyX0_ok, nmX0, by decide, tw_176, rfl, by decide, rfl, rfl, rfl, Or.inr ⟨_, rfl⟩⟩
theorem fi_X0_15 : FI RX0 15 0 1 1 true := ⟨RX0, TX0, 4, tyX0, rfl, us_X0, tyX0_ok, nmX0, by decide, tw_177, rfl, by decide, rfl, rfl, rfl, Or.inr ⟨_, rfl⟩⟩
theorem fi_X0_18 : FI RX0 18 0 2 0 false := ⟨RX0, TX0, 4, tyX0, rfl, us_X0, tyX0_ok, nmX0, by decide, tw_178, rfl, by decide, rfl, rfl, rfl, rfl⟩
theorem fi_X2_62 : FI RX2 62 0 2 0 false := ⟨RX0, TX0, 4, tyX0, rfl, us_X0, tyX0_ok, nmX0, by decide, tw_179, rfl, by decide, rfl, rfl, rfl, rfl⟩
theorem fi_X8_77 : FI RX8 77 0 2 0 false := ⟨RX0, TX0, 4, tyX0, rfl, us_X0, tyX0_ok, nmX0, by decide, tw_180, rfl, by decide, rfl, rfl, rfl, rfl⟩
theorem fi_X10_68 : FI RX10 68 0 2 0 false := ⟨RX0, TX0, 4, tyX0, rfl, us_X0, tyX0_ok, nmX0, by decide, tw_181, rfl, by decide, rfl, rfl, rfl, rfl⟩
theorem fi_X11_246 : FI RX11 246 0 2 0 false := ⟨RX0, TX0, 4, tyX0, rfl, us_X0, tyX0_ok, nmX0, by decide, tw_182, rfl, by decide, rfl, rfl, rfl, rfl⟩
theorem fi_X0_22 : FI RX0 22 0 3 3 false := ⟨RX0, TX0, 4, tyX0, rfl, us_X0, tyX0_ok, nmX0, by decide, tw_183, rfl, by decide, rfl, rfl, rfl, rfl⟩
theorem fi_X2_32 : FI RX2 32 0 3 3 false := ⟨RX0, TX0, 4, tyX0, rfl, us_X0, tyX0_ok, nmX0, by decide, tw_184, rfl, by decide, rfl, rfl, rfl, rfl⟩
theorem fi_X10_56 : FI RX10 56 0 3 3 false := ⟨RX0, TX0, 4, tyX0, rfl, us_X0, tyX0_ok, nmX0, by decide, tw_185, rfl, by decide, rfl, rfl, rfl, rfl⟩
theorem fi_X11_243 : FI RX11 243 0 3 3 false := ⟨RX0, TX0, 4, tyX0, rfl, us_X0, tyX0_ok, nmX0, by decide, tw_186, rfl, by decide, rfl, rfl, rfl, rfl⟩
theorem fi_X8_9 : FI RX8 9 8 0 1 true := ⟨RX8, TX8, 8, tyX8, rfl, us_X8, tyX8_ok, nmX8, by decide, tw_196, rfl, by decide, rfl, rfl, rfl, Or.inr ⟨_, rfl⟩⟩
theorem fi_X11_296 : FI RX11 296 8 0 1 true := ⟨RX8, TX8, 8, tyX8, rfl, us_X8, tyX8_ok, nmX8, by decide, tw_197, rfl, by decide, rfl, rfl, rfl, Or.inr ⟨_, rfl⟩⟩
theorem fi_X8_15 : FI RX8 15 8 1 1 true := ⟨RX8, TX8, 8, tyX8, rfl, us_X8, tyX8_ok, nmX8, by decide, tw_198, rfl, by decide, rfl, rfl, rfl, Or.inr ⟨_, rfl⟩⟩
theorem fi_X8_21 : FI RX8 21 8 2 1 true := ⟨RX8, TX8, 8, tyX8, rfl, us_X8, tyX8_ok, nmX8, by decide, tw_199, rfl, by decide, rfl, rfl, rfl, Or.inl ⟨_, rfl⟩⟩
theorem fi_X8_28 : FI RX8 28 8 3 1 true := ⟨RX8, TX8, 8, tyX8, rfl, us_X8, tyX8_ok, nmX8, by decide, tw_200, rfl, by decide, rfl, rfl, rfl, Or.inl ⟨_, rfl⟩⟩
theorem fi_X8_38 : FI RX8 38 8 4 0 false := ⟨RX8, TX8, 8, tyX8, rfl, us_X8, tyX8_ok, nmX8, by decide, tw_201, rfl, by decide, rfl, rfl, rfl, rfl⟩
theorem fi_X8_42 : FI RX8 42 8 5 0 false := ⟨RX8, TX8, 8, tyX8, rfl, us_X8, tyX8_ok, nmX8, by decide, tw_202, rfl, by decide, rfl, rfl, rfl, rfl⟩
theorem fi_X8_51 : FI RX8 51 8 6 0 false := ⟨RX8, TX8, 8, tyX8, rfl, us_X8, tyX8_ok, nmX8, by decide, tw_203, rfl, by decide, rfl, rfl, rfl, rfl⟩
theorem fi_X8_56 : FI RX8 56 8 7 0 false := ⟨RX8, TX8, 8, tyX8, rfl, us_X8, tyX8_ok, nmX8, by decide, tw_204, rfl, by decide, rfl, rfl, rfl, rfl⟩
theorem cl_X11_64 : TW (.classLink RX11 64 RX2) := tw_222
theorem ni_X11_64 : NI RX11 64 2 7 := ⟨RX2, TX2, tyX2, rfl, us_X2, tyX2_ok, tw_222, tw_223, tw_8, by decide, df_X2⟩
theorem cl_X2_18 : TW (.classLink RX2 18 RX0) := tw_228
theorem ni_X2_18 : NI RX2 18 0 4 := ⟨RX0, TX0, tyX0, rfl, us_X0, tyX0_ok, tw_228, tw_171, tw_7, by decide, df_X0⟩
theorem fi_X2_9 : FI RX2 9 2 0 1 true := ⟨RX2, TX2, 7, tyX2, rfl, us_X2, tyX2_ok, nmX2, by decide, tw_230, rfl, by decide, rfl, rfl, rfl, Or.inr ⟨_, rfl⟩⟩
theorem fi_X2_15 : FI RX2 15 2 1 1 true := ⟨RX2, TX2, 7, tyX2, rfl, us_X2, tyX2_ok, nmX2, by decide, tw_231, rfl, by decide, rfl, rfl, rfl, Or.inr ⟨_, rfl⟩⟩
theorem fi_X2_21 : FI RX2 21 2 2 1 true := ⟨RX2, TX2, 7, tyX2, rfl, us_X2, tyX2_ok, nmX2, by decide, tw_232, rfl, by decide, rfl, rfl, rfl, Or.inl ⟨_, rfl⟩⟩
theorem fi_X2_25 : FI RX2 25 2 3 1 true := ⟨RX2, TX2, 7, tyX2, rfl, us_X2, tyX2_ok, nmX2, by decide, tw_233, rfl, by decide, rfl, rfl, rfl, Or.inl ⟨_, rfl⟩⟩
theorem fi_X2_42 : FI RX2 42 2 4 0 false := ⟨RX2, TX2, 7, tyX2, rfl, us_X2, tyX2_ok, nmX2, by decide, tw_234, rfl, by decide, rfl, rfl, rfl, rfl⟩
theorem fi_X2_45 : FI RX2 45 2 5 0 false := ⟨RX2, TX2, 7, tyX2, rfl, us_X2, tyX2_ok, nmX2, by decide, tw_235, rfl, by decide, rfl, rfl, rfl, rfl⟩
theorem fi_X11_283 : FI RX11 283 2 5 0 false := ⟨RX2, TX2, 7, tyX2, rfl, us_X2, tyX2_ok, nmX2, by decide, tw_236, rfl, by decide, rfl, rfl, rfl, rfl⟩
theorem fi_X2_48 : FI RX2 48 2 6 0 false := ⟨RX2, TX2, 7, tyX2, rfl, us_X2, tyX2_ok, nmX2, by decide, tw_237, rfl, by decide, rfl, rfl, rfl, rfl⟩
theorem fi_X11_286 : FI RX11 286 2 6 0 false := ⟨RX2, TX2, 7, tyX2, rfl, us_X2, tyX2_ok, nmX2, by decide, tw_238, rfl, by decide, rfl, rfl, rfl, rfl⟩
theorem cl_X11_71 : TW (.classLink RX11 71 RX10) := tw_254
theorem ni_X11_71 : NI RX11 71 10 6 := ⟨RX10, TX10, tyX10, rfl, us_X10, tyX10_ok, tw_254, tw_255, tw_9, by decide, df_X10⟩
theorem cl_X10_9 : TW (.classLink RX10 9 RX7) := tw_260
theorem ni_X10_9 : NI RX10 9 7 7 := ⟨RX7, TX7, tyX7, rfl, us_X7, tyX7_ok, tw_260, tw_653, tw_19, by decide, df_X7⟩
theorem ao_X7 : TW (.arrayOver (.object RX7)) := tw_261
theorem cl_X10_21 : TW (.classLink RX10 21 RX0) := tw_262
theorem ni_X10_21 : NI RX10 21 0 4 := ⟨RX0, TX0, tyX0, rfl, us_X0, tyX0_ok, tw_262, tw_171, tw_7, by decide, df_X0⟩
theorem fi_X10_11 : FI RX10 11 10 0 1 true := ⟨RX10, TX10, 6, tyX10, rfl, us_X10, tyX10_ok, nmX10, by decide, tw_264, rfl, by decide, rfl, rfl, rfl, Or.inr ⟨_, rfl⟩⟩
theorem fi_X10_17 : FI RX10 17 10 1 1 true := ⟨RX10, TX10, 6, tyX10, rfl, us_X10, tyX10_ok, nmX10, by decide, tw_265, rfl, by decide, rfl, rfl, rfl, Or.inr ⟨_, rfl⟩⟩
theorem fi_X10_23 : FI RX10 23 10 2 1 true := ⟨RX10, TX10, 6, tyX10, rfl, us_X10, tyX10_ok, nmX10, by decide, tw_266, rfl, by decide, rfl, rfl, rfl, Or.inr ⟨_, rfl⟩⟩
theorem fi_X10_35 : FI RX10 35 10 3 0 false := ⟨RX10, TX10, 6, tyX10, rfl, us_X10, tyX10_ok, nmX10, by decide, tw_267, rfl, by decide, rfl, rfl, rfl, rfl⟩
theorem fi_X10_28 : FI RX10 28 10 4 0 false := ⟨RX10, TX10, 6, tyX10, rfl, us_X10, tyX10_ok, nmX10, by decide, tw_268, rfl, by decide, rfl, rfl, rfl, rfl⟩
theorem fi_X10_32 : FI RX10 32 10 5 0 false := ⟨RX10, TX10, 6, tyX10, rfl, us_X10, tyX10_ok, nmX10, by decide, tw_269, rfl, by decide, rfl, rfl, rfl, rfl⟩
theorem cl_X1_15 : TW (.classLink RX1 15 RX3) := tw_288
theorem ni_X1_15 : NI RX1 15 3 6 := ⟨RX3, TX3, tyX3, rfl, us_X3, tyX3_ok, tw_288, tw_76, tw_4, by decide, df_X3⟩
theorem fi_X1_25 : FI RX1 25 1 0 0 true := ⟨RX1, TX1, 7, tyX1, rfl, us_X1, tyX1_ok, nmX1, by decide, tw_290, rfl, by decide, rfl, rfl, rfl, rfl⟩
theorem fi_X11_394 : FI RX11 394 1 0 0 true := ⟨RX1, TX1, 7, tyX1, rfl, us_X1, tyX1_ok, nmX1, by decide, tw_291, rfl, by decide, rfl, rfl, rfl, rfl⟩
theorem fi_X1_9 : FI RX1 9 1 1 1 true := ⟨RX1, TX1, 7, tyX1, rfl, us_X1, tyX1_ok, nmX1, by decide, tw_292, rfl, by decide, rfl, rfl, rfl, Or.inr ⟨_, rfl⟩⟩
theorem fi_X11_108 : FI RX11 108 1 1 1 true := ⟨RX1, TX1, 7, tyX1, rfl, us_X1, tyX1_ok, nmX1, by decide, tw_293, rfl, by decide, rfl, rfl, rfl, Or.inr ⟨_, rfl⟩⟩
theorem fi_X1_18 : FI RX1 18 1 2 1 true := ⟨RX1, TX1, 7, tyX1, rfl, us_X1, tyX1_ok, nmX1, by decide, tw_294, rfl, by decide, rfl, rfl, rfl, Or.inl ⟨_, rfl⟩⟩
theorem fi_X5_29 : FI RX5 29 1 2 1 true := ⟨RX1, TX1, 7, tyX1, rfl, us_X1, tyX1_ok, nmX1, by decide, tw_295, rfl, by decide, rfl, rfl, rfl, Or.inl ⟨_, rfl⟩⟩
theorem fi_X11_354 : FI RX11 354 1 2 1 true := ⟨RX1, TX1, 7, tyX1, rfl, us_X1, tyX1_ok, nmX1, by decide, tw_296, rfl, by decide, rfl, rfl, rfl, Or.inl ⟨_, rfl⟩⟩
theorem fi_X1_22 : FI RX1 22 1 3 1 true := ⟨RX1, TX1, 7, tyX1, rfl, us_X1, tyX1_ok, nmX1, by decide, tw_297, rfl, by decide, rfl, rfl, rfl, Or.inr ⟨_, rfl⟩⟩
theorem fi_X1_29 : FI RX1 29 1 4 3 false := ⟨RX1, TX1, 7, tyX1, rfl, us_X1, tyX1_ok, nmX1, by decide, tw_298, rfl, by decide, rfl, rfl, rfl, rfl⟩
theorem fi_X11_176 : FI RX11 176 1 4 3 false := ⟨RX1, TX1, 7, tyX1, rfl, us_X1, tyX1_ok, nmX1, by decide, tw_299, rfl, by decide, rfl, rfl, rfl, rfl⟩
theorem fi_X1_33 : FI RX1 33 1 5 0 false := ⟨RX1, TX1, 7, tyX1, rfl, us_X1, tyX1_ok, nmX1, by decide, tw_300, rfl, by decide, rfl, rfl, rfl, rfl⟩
theorem fi_X5_43 : FI RX5 43 1 5 0 false := ⟨RX1, TX1, 7, tyX1, rfl, us_X1, tyX1_ok, nmX1, by decide, tw_301, rfl, by decide, rfl, rfl, rfl, rfl⟩
theorem fi_X11_100 : FI RX11 100 1 5 0 false := ⟨RX1, TX1, 7, tyX1, rfl, us_X1, tyX1_ok, nmX1, by decide, tw_302, rfl, by decide, rfl, rfl, rfl, rfl⟩
theorem fi_X1_68 : FI RX1 68 1 6 0 false := ⟨RX1, TX1, 7, tyX1, rfl, us_X1, tyX1_ok, nmX1, by decide, tw_303, rfl, by decide, rfl, rfl, rfl, rfl⟩
theorem cl_X6_9 : TW (.classLink RX6 9 RX7) := tw_324
theorem ni_X6_9 : NI RX6 9 7 7 := ⟨RX7, TX7, tyX7, rfl, us_X7, tyX7_ok, tw_324, tw_653, tw_19, by decide, df_X7⟩
theorem fi_X6_11 : FI RX6 11 6 0 1 true := ⟨RX6, TX6, 2, tyX6, rfl, us_X6, tyX6_ok, nmX6, by decide, tw_325, rfl, by decide, rfl, rfl, rfl, Or.inr ⟨_, rfl⟩⟩
theorem fi_X6_17 : FI RX6 17 6 1 0 false := ⟨RX6, TX6, 2, tyX6, rfl, us_X6, tyX6_ok, nmX6, by decide, tw_326, rfl, by decide, rfl, rfl, rfl, rfl⟩
theorem fi_X10_38 : FI RX10 38 6 1 0 false := ⟨RX6, TX6, 2, tyX6, rfl, us_X6, tyX6_ok, nmX6, by decide, tw_327, rfl, by decide, rfl, rfl, rfl, rfl⟩
theorem fi_X11_336 : FI RX11 336 6 1 0 false := ⟨RX6, TX6, 2, tyX6, rfl, us_X6, tyX6_ok, nmX6, by decide, tw_328, rfl, by decide, rfl, rfl, rfl, rfl⟩
theorem fi_X11_11 : FI RX11 11 11 0 1 true := ⟨RX11, TX11, 14, tyX11, rfl, us_X11, tyX11_ok, nmX11, by decide, tw_336, rfl, by decide, rfl, rfl, rfl, Or.inr ⟨_, rfl⟩⟩
theorem fi_X11_17 : FI RX11 17 11 1 1 true := ⟨RX11, TX11, 14, tyX11, rfl, us_X11, tyX11_ok, nmX11, by decide, tw_337, rfl, by decide, rfl, rfl, rfl, Or.inr ⟨_, rfl⟩⟩
theorem fi_X11_21 : FI RX11 21 11 2 1 true := ⟨RX11, TX11, 14, tyX11, rfl, us_X11, tyX11_ok, nmX11, by decide, tw_338, rfl, by decide, rfl, rfl, rfl, Or.inr ⟨_, rfl⟩⟩
theorem fi_X11_24 : FI RX11 24 11 3 1 true := ⟨RX11, TX11, 14, tyX11, rfl, us_X11, tyX11_ok, nmX11, by decide, tw_339, rfl, by decide, rfl, rfl, rfl, Or.inr ⟨_, rfl⟩⟩
theorem fi_X11_28 : FI RX11 28 11 4 1 true := ⟨RX11, TX11, 14, tyX11, rfl, us_X11, tyX11_ok, nmX11, by decide, tw_340, rfl, by decide, rfl, rfl, rfl, Or.inr ⟨_, rfl⟩⟩
theorem fi_X11_32 : FI RX11 32 11 5 1 true := ⟨RX11, TX11, 14, tyX11, rfl, us_X11, tyX11_ok, nmX11, by decide, tw_341, rfl, by decide, rfl, rfl, rfl, Or.inr ⟨_, rfl⟩⟩
theorem fi_X11_35 : FI RX11 35 11 6 1 true := ⟨RX11, TX11, 14, tyX11, rfl, us_X11, tyX11_ok, nmX11, by decide, tw_342, rfl, by decide, rfl, rfl, rfl, Or.inr ⟨_, rfl⟩⟩
theorem fi_X11_41 : FI RX11 41 11 7 1 true := ⟨RX11, TX11, 14, tyX11, rfl, us_X11, tyX11_ok, nmX11, by decide, tw_343, rfl, by decide, rfl, rfl, rfl, Or.inl ⟨_, rfl⟩⟩
theorem fi_X11_47 : FI RX11 47 11 8 1 true := ⟨RX11, TX11, 14, tyX11, rfl, us_X11, tyX11_ok, nmX11, by decide, tw_344, rfl, by decide, rfl, rfl, rfl, Or.inr ⟨_, rfl⟩⟩
theorem fi_X11_53 : FI RX11 53 11 9 1 true := ⟨RX11, TX11, 14, tyX11, rfl, us_X11, tyX11_ok, nmX11, by decide, tw_345, rfl, by decide, rfl, rfl, rfl, Or.inr ⟨_, rfl⟩⟩
theorem fi_X11_60 : FI RX11 60 11 10 1 true := ⟨RX11, TX11, 14, tyX11, rfl, us_X11, tyX11_ok, nmX11, by decide, tw_346, rfl, by decide, rfl, rfl, rfl, Or.inl ⟨_, rfl⟩⟩
theorem fi_X11_67 : FI RX11 67 11 11 1 true := ⟨RX11, TX11, 14, tyX11, rfl, us_X11, tyX11_ok, nmX11, by decide, tw_347, rfl, by decide, rfl, rfl, rfl, Or.inl ⟨_, rfl⟩⟩
theorem fi_X11_74 : FI RX11 74 11 12 1 true := ⟨RX11, TX11, 14, tyX11, rfl, us_X11, tyX11_ok, nmX11, by decide, tw_348, rfl, by decide, rfl, rfl, rfl, Or.inl ⟨_, rfl⟩⟩
theorem fi_X11_348 : FI RX11 348 11 13 0 false := ⟨RX11, TX11, 14, tyX11, rfl, us_X11, tyX11_ok, nmX11, by decide, tw_349, rfl, by decide, rfl, rfl, rfl, rfl⟩
theorem kc_X11_104 : TW (.constant RX11 104 (65535)) := tw_414
theorem kc_X1_67 : TW (.constant RX1 67 (104729)) := tw_575
theorem kc_X1_87 : TW (.constant RX1 87 (1103515245)) := tw_588
theorem kc_X1_88 : TW (.constant RX1 88 (2147483647)) := tw_589
theorem kc_J6_265 : TW (.constant RJ6 265 (1431655765)) := tw_621
theorem kc_J6_266 : TW (.constant RJ6 266 (858993459)) := tw_622
theorem kc_J6_267 : TW (.constant RJ6 267 (252645135)) := tw_623
theorem kc_X1_104 : TW (.constant RX1 104 (65280)) := tw_646
theorem cl_X1_112 : TW (.classLink RX1 112 RX7) := tw_652
theorem ni_X1_112 : NI RX1 112 7 7 := ⟨RX7, TX7, tyX7, rfl, us_X7, tyX7_ok, tw_652, tw_653, tw_19, by decide, df_X7⟩
theorem fi_X7_9 : FI RX7 9 7 0 0 true := ⟨RX7, TX7, 7, tyX7, rfl, us_X7, tyX7_ok, nmX7, by decide, tw_658, rfl, by decide, rfl, rfl, rfl, rfl⟩
theorem fi_X6_21 : FI RX6 21 7 0 0 true := ⟨RX7, TX7, 7, tyX7, rfl, us_X7, tyX7_ok, nmX7, by decide, tw_659, rfl, by decide, rfl, rfl, rfl, rfl⟩
theorem fi_X10_45 : FI RX10 45 7 0 0 true := ⟨RX7, TX7, 7, tyX7, rfl, us_X7, tyX7_ok, nmX7, by decide, tw_660, rfl, by decide, rfl, rfl, rfl, rfl⟩
theorem fi_X11_191 : FI RX11 191 7 0 0 true := ⟨RX7, TX7, 7, tyX7, rfl, us_X7, tyX7_ok, nmX7, by decide, tw_661, rfl, by decide, rfl, rfl, rfl, rfl⟩
theorem fi_X7_15 : FI RX7 15 7 1 0 true := ⟨RX7, TX7, 7, tyX7, rfl, us_X7, tyX7_ok, nmX7, by decide, tw_662, rfl, by decide, rfl, rfl, rfl, rfl⟩
theorem fi_X11_194 : FI RX11 194 7 1 0 true := ⟨RX7, TX7, 7, tyX7, rfl, us_X7, tyX7_ok, nmX7, by decide, tw_663, rfl, by decide, rfl, rfl, rfl, rfl⟩
theorem fi_X7_18 : FI RX7 18 7 2 0 true := ⟨RX7, TX7, 7, tyX7, rfl, us_X7, tyX7_ok, nmX7, by decide, tw_664, rfl, by decide, rfl, rfl, rfl, rfl⟩
theorem fi_X11_197 : FI RX11 197 7 2 0 true := ⟨RX7, TX7, 7, tyX7, rfl, us_X7, tyX7_ok, nmX7, by decide, tw_665, rfl, by decide, rfl, rfl, rfl, rfl⟩
theorem fi_X7_21 : FI RX7 21 7 3 0 true := ⟨RX7, TX7, 7, tyX7, rfl, us_X7, tyX7_ok, nmX7, by decide, tw_666, rfl, by decide, rfl, rfl, rfl, rfl⟩
theorem fi_X11_200 : FI RX11 200 7 3 0 true := ⟨RX7, TX7, 7, tyX7, rfl, us_X7, tyX7_ok, nmX7, by decide, tw_667, rfl, by decide, rfl, rfl, rfl, rfl⟩
theorem fi_X7_24 : FI RX7 24 7 4 0 true := ⟨RX7, TX7, 7, tyX7, rfl, us_X7, tyX7_ok, nmX7, by decide, tw_668, rfl, by decide, rfl, rfl, rfl, rfl⟩
theorem fi_X11_203 : FI RX11 203 7 4 0 true := ⟨RX7, TX7, 7, tyX7, rfl, us_X7, tyX7_ok, nmX7, by decide, tw_669, rfl, by decide, rfl, rfl, rfl, rfl⟩
theorem fi_X7_27 : FI RX7 27 7 5 0 true := ⟨RX7, TX7, 7, tyX7, rfl, us_X7, tyX7_ok, nmX7, by decide, tw_670, rfl, by decide, rfl, rfl, rfl, rfl⟩
theorem fi_X7_30 : FI RX7 30 7 6 0 true := ⟨RX7, TX7, 7, tyX7, rfl, us_X7, tyX7_ok, nmX7, by decide, tw_671, rfl, by decide, rfl, rfl, rfl, rfl⟩
theorem cl_X11_180 : TW (.classLink RX11 180 RX7) := tw_712
theorem ni_X11_180 : NI RX11 180 7 7 := ⟨RX7, TX7, tyX7, rfl, us_X7, tyX7_ok, tw_712, tw_653, tw_19, by decide, df_X7⟩
theorem kc_X5_53 : TW (.constant RX5 53 (1048575)) := tw_774
theorem kc_X0_40 : TW (.constant RX0 40 (1048575)) := tw_811
theorem kl_J13_314 : TW (.constantLong RJ13 314 (6148914691236517205)) := tw_885
theorem kl_J13_316 : TW (.constantLong RJ13 316 (3689348814741910323)) := tw_886
theorem kl_J13_318 : TW (.constantLong RJ13 318 (1085102592571150095)) := tw_887
theorem kl_X11_302 : TW (.constantLong RX11 302 (-1)) := tw_962
theorem kc_X11_364 : TW (.constant RX11 364 (1048575)) := tw_1140
theorem cl_L_16 : TW (.classLink RL 16 RX12) := tw_1155
theorem ni_L_16 : NI RL 16 12 48 := ⟨RX12, TX12, tyX12, rfl, us_X12, tyX12_ok, tw_1155, tw_1153, tw_12, by decide, df_X12⟩
theorem kl_X12_34 : TW (.constantLong RX12 34 (765438)) := tw_1160
theorem kl_X12_36 : TW (.constantLong RX12 36 (11726208)) := tw_1161
theorem kl_X12_38 : TW (.constantLong RX12 38 (26801)) := tw_1162
theorem kl_X12_40 : TW (.constantLong RX12 40 (969301)) := tw_1163
theorem fi_X12_1 : FI RX12 1 12 0 0 false := ⟨RX12, TX12, 48, tyX12, rfl, us_X12, tyX12_ok, nmX12, by decide, tw_1164, rfl, by decide, rfl, rfl, rfl, rfl⟩
theorem fi_X12_14 : FI RX12 14 12 1 1 true := ⟨RX12, TX12, 48, tyX12, rfl, us_X12, tyX12_ok, nmX12, by decide, tw_1165, rfl, by decide, rfl, rfl, rfl, Or.inr ⟨_, rfl⟩⟩
theorem fi_X12_11 : FI RX12 11 12 2 0 false := ⟨RX12, TX12, 48, tyX12, rfl, us_X12, tyX12_ok, nmX12, by decide, tw_1166, rfl, by decide, rfl, rfl, rfl, rfl⟩
theorem fi_X12_140 : FI RX12 140 12 3 0 false := ⟨RX12, TX12, 48, tyX12, rfl, us_X12, tyX12_ok, nmX12, by decide, tw_1167, rfl, by decide, rfl, rfl, rfl, rfl⟩
theorem fi_X12_24 : FI RX12 24 12 4 1 true := ⟨RX12, TX12, 48, tyX12, rfl, us_X12, tyX12_ok, nmX12, by decide, tw_1168, rfl, by decide, rfl, rfl, rfl, Or.inr ⟨_, rfl⟩⟩
theorem fi_X12_27 : FI RX12 27 12 5 1 true := ⟨RX12, TX12, 48, tyX12, rfl, us_X12, tyX12_ok, nmX12, by decide, tw_1169, rfl, by decide, rfl, rfl, rfl, Or.inr ⟨_, rfl⟩⟩
theorem fi_X12_30 : FI RX12 30 12 6 1 true := ⟨RX12, TX12, 48, tyX12, rfl, us_X12, tyX12_ok, nmX12, by decide, tw_1170, rfl, by decide, rfl, rfl, rfl, Or.inr ⟨_, rfl⟩⟩
theorem fi_X12_159 : FI RX12 159 12 7 0 false := ⟨RX12, TX12, 48, tyX12, rfl, us_X12, tyX12_ok, nmX12, by decide, tw_1171, rfl, by decide, rfl, rfl, rfl, rfl⟩
theorem fi_X12_162 : FI RX12 162 12 8 0 false := ⟨RX12, TX12, 48, tyX12, rfl, us_X12, tyX12_ok, nmX12, by decide, tw_1172, rfl, by decide, rfl, rfl, rfl, rfl⟩
theorem fi_X12_42 : FI RX12 42 12 9 1 true := ⟨RX12, TX12, 48, tyX12, rfl, us_X12, tyX12_ok, nmX12, by decide, tw_1173, rfl, by decide, rfl, rfl, rfl, Or.inr ⟨_, rfl⟩⟩
theorem fi_X12_45 : FI RX12 45 12 10 1 true := ⟨RX12, TX12, 48, tyX12, rfl, us_X12, tyX12_ok, nmX12, by decide, tw_1174, rfl, by decide, rfl, rfl, rfl, Or.inr ⟨_, rfl⟩⟩
theorem fi_X12_48 : FI RX12 48 12 11 1 true := ⟨RX12, TX12, 48, tyX12, rfl, us_X12, tyX12_ok, nmX12, by decide, tw_1175, rfl, by decide, rfl, rfl, rfl, Or.inr ⟨_, rfl⟩⟩
theorem fi_X12_51 : FI RX12 51 12 12 1 true := ⟨RX12, TX12, 48, tyX12, rfl, us_X12, tyX12_ok, nmX12, by decide, tw_1176, rfl, by decide, rfl, rfl, rfl, Or.inr ⟨_, rfl⟩⟩
theorem fi_X12_54 : FI RX12 54 12 13 1 true := ⟨RX12, TX12, 48, tyX12, rfl, us_X12, tyX12_ok, nmX12, by decide, tw_1177, rfl, by decide, rfl, rfl, rfl, Or.inr ⟨_, rfl⟩⟩
theorem fi_X12_57 : FI RX12 57 12 14 1 true := ⟨RX12, TX12, 48, tyX12, rfl, us_X12, tyX12_ok, nmX12, by decide, tw_1178, rfl, by decide, rfl, rfl, rfl, Or.inr ⟨_, rfl⟩⟩
theorem fi_X12_60 : FI RX12 60 12 15 1 true := ⟨RX12, TX12, 48, tyX12, rfl, us_X12, tyX12_ok, nmX12, by decide, tw_1179, rfl, by decide, rfl, rfl, rfl, Or.inr ⟨_, rfl⟩⟩
theorem fi_X12_63 : FI RX12 63 12 16 1 true := ⟨RX12, TX12, 48, tyX12, rfl, us_X12, tyX12_ok, nmX12, by decide, tw_1180, rfl, by decide, rfl, rfl, rfl, Or.inr ⟨_, rfl⟩⟩
theorem fi_X12_66 : FI RX12 66 12 17 1 true := ⟨RX12, TX12, 48, tyX12, rfl, us_X12, tyX12_ok, nmX12, by decide, tw_1181, rfl, by decide, rfl, rfl, rfl, Or.inr ⟨_, rfl⟩⟩
theorem fi_X12_202 : FI RX12 202 12 18 0 false := ⟨RX12, TX12, 48, tyX12, rfl, us_X12, tyX12_ok, nmX12, by decide, tw_1182, rfl, by decide, rfl, rfl, rfl, rfl⟩
theorem fi_X12_226 : FI RX12 226 12 19 2 false := ⟨RX12, TX12, 48, tyX12, rfl, us_X12, tyX12_ok, nmX12, by decide, tw_1183, rfl, by decide, rfl, rfl, rfl, rfl⟩
theorem fi_X12_69 : FI RX12 69 12 20 1 true := ⟨RX12, TX12, 48, tyX12, rfl, us_X12, tyX12_ok, nmX12, by decide, tw_1184, rfl, by decide, rfl, rfl, rfl, Or.inr ⟨_, rfl⟩⟩
theorem fi_X12_72 : FI RX12 72 12 21 1 true := ⟨RX12, TX12, 48, tyX12, rfl, us_X12, tyX12_ok, nmX12, by decide, tw_1185, rfl, by decide, rfl, rfl, rfl, Or.inr ⟨_, rfl⟩⟩
theorem fi_X12_75 : FI RX12 75 12 22 1 true := ⟨RX12, TX12, 48, tyX12, rfl, us_X12, tyX12_ok, nmX12, by decide, tw_1186, rfl, by decide, rfl, rfl, rfl, Or.inr ⟨_, rfl⟩⟩
theorem fi_X12_78 : FI RX12 78 12 23 1 true := ⟨RX12, TX12, 48, tyX12, rfl, us_X12, tyX12_ok, nmX12, by decide, tw_1187, rfl, by decide, rfl, rfl, rfl, Or.inr ⟨_, rfl⟩⟩
theorem fi_X12_81 : FI RX12 81 12 24 1 true := ⟨RX12, TX12, 48, tyX12, rfl, us_X12, tyX12_ok, nmX12, by decide, tw_1188, rfl, by decide, rfl, rfl, rfl, Or.inr ⟨_, rfl⟩⟩
theorem fi_X12_84 : FI RX12 84 12 25 1 true := ⟨RX12, TX12, 48, tyX12, rfl, us_X12, tyX12_ok, nmX12, by decide, tw_1189, rfl, by decide, rfl, rfl, rfl, Or.inr ⟨_, rfl⟩⟩
theorem fi_X12_87 : FI RX12 87 12 26 1 true := ⟨RX12, TX12, 48, tyX12, rfl, us_X12, tyX12_ok, nmX12, by decide, tw_1190, rfl, by decide, rfl, rfl, rfl, Or.inr ⟨_, rfl⟩⟩
theorem fi_X12_288 : FI RX12 288 12 27 0 false := ⟨RX12, TX12, 48, tyX12, rfl, us_X12, tyX12_ok, nmX12, by decide, tw_1191, rfl, by decide, rfl, rfl, rfl, rfl⟩
theorem fi_X12_305 : FI RX12 305 12 28 0 false := ⟨RX12, TX12, 48, tyX12, rfl, us_X12, tyX12_ok, nmX12, by decide, tw_1192, rfl, by decide, rfl, rfl, rfl, rfl⟩
theorem fi_X12_91 : FI RX12 91 12 29 1 true := ⟨RX12, TX12, 48, tyX12, rfl, us_X12, tyX12_ok, nmX12, by decide, tw_1193, rfl, by decide, rfl, rfl, rfl, Or.inr ⟨_, rfl⟩⟩
theorem fi_X12_94 : FI RX12 94 12 30 1 true := ⟨RX12, TX12, 48, tyX12, rfl, us_X12, tyX12_ok, nmX12, by decide, tw_1194, rfl, by decide, rfl, rfl, rfl, Or.inr ⟨_, rfl⟩⟩
theorem fi_X12_97 : FI RX12 97 12 31 1 true := ⟨RX12, TX12, 48, tyX12, rfl, us_X12, tyX12_ok, nmX12, by decide, tw_1195, rfl, by decide, rfl, rfl, rfl, Or.inr ⟨_, rfl⟩⟩
theorem fi_X12_100 : FI RX12 100 12 32 1 true := ⟨RX12, TX12, 48, tyX12, rfl, us_X12, tyX12_ok, nmX12, by decide, tw_1196, rfl, by decide, rfl, rfl, rfl, Or.inr ⟨_, rfl⟩⟩
theorem fi_X12_318 : FI RX12 318 12 33 0 false := ⟨RX12, TX12, 48, tyX12, rfl, us_X12, tyX12_ok, nmX12, by decide, tw_1197, rfl, by decide, rfl, rfl, rfl, rfl⟩
theorem fi_X12_103 : FI RX12 103 12 34 1 true := ⟨RX12, TX12, 48, tyX12, rfl, us_X12, tyX12_ok, nmX12, by decide, tw_1198, rfl, by decide, rfl, rfl, rfl, Or.inr ⟨_, rfl⟩⟩
theorem fi_X12_324 : FI RX12 324 12 35 0 false := ⟨RX12, TX12, 48, tyX12, rfl, us_X12, tyX12_ok, nmX12, by decide, tw_1199, rfl, by decide, rfl, rfl, rfl, rfl⟩
theorem fi_X12_326 : FI RX12 326 12 36 3 false := ⟨RX12, TX12, 48, tyX12, rfl, us_X12, tyX12_ok, nmX12, by decide, tw_1200, rfl, by decide, rfl, rfl, rfl, rfl⟩
theorem fi_X12_106 : FI RX12 106 12 37 1 true := ⟨RX12, TX12, 48, tyX12, rfl, us_X12, tyX12_ok, nmX12, by decide, tw_1201, rfl, by decide, rfl, rfl, rfl, Or.inr ⟨_, rfl⟩⟩
theorem fi_X12_109 : FI RX12 109 12 38 1 true := ⟨RX12, TX12, 48, tyX12, rfl, us_X12, tyX12_ok, nmX12, by decide, tw_1202, rfl, by decide, rfl, rfl, rfl, Or.inr ⟨_, rfl⟩⟩
theorem fi_X12_361 : FI RX12 361 12 39 0 false := ⟨RX12, TX12, 48, tyX12, rfl, us_X12, tyX12_ok, nmX12, by decide, tw_1203, rfl, by decide, rfl, rfl, rfl, rfl⟩
theorem fi_X12_112 : FI RX12 112 12 40 1 true := ⟨RX12, TX12, 48, tyX12, rfl, us_X12, tyX12_ok, nmX12, by decide, tw_1204, rfl, by decide, rfl, rfl, rfl, Or.inr ⟨_, rfl⟩⟩
theorem fi_X12_115 : FI RX12 115 12 41 1 true := ⟨RX12, TX12, 48, tyX12, rfl, us_X12, tyX12_ok, nmX12, by decide, tw_1205, rfl, by decide, rfl, rfl, rfl, Or.inr ⟨_, rfl⟩⟩
theorem fi_X12_118 : FI RX12 118 12 42 1 true := ⟨RX12, TX12, 48, tyX12, rfl, us_X12, tyX12_ok, nmX12, by decide, tw_1206, rfl, by decide, rfl, rfl, rfl, Or.inr ⟨_, rfl⟩⟩
theorem fi_X12_121 : FI RX12 121 12 43 1 true := ⟨RX12, TX12, 48, tyX12, rfl, us_X12, tyX12_ok, nmX12, by decide, tw_1207, rfl, by decide, rfl, rfl, rfl, Or.inr ⟨_, rfl⟩⟩
theorem fi_X12_124 : FI RX12 124 12 44 1 true := ⟨RX12, TX12, 48, tyX12, rfl, us_X12, tyX12_ok, nmX12, by decide, tw_1208, rfl, by decide, rfl, rfl, rfl, Or.inr ⟨_, rfl⟩⟩
theorem fi_X12_127 : FI RX12 127 12 45 1 true := ⟨RX12, TX12, 48, tyX12, rfl, us_X12, tyX12_ok, nmX12, by decide, tw_1209, rfl, by decide, rfl, rfl, rfl, Or.inr ⟨_, rfl⟩⟩
theorem fi_X12_130 : FI RX12 130 12 46 1 true := ⟨RX12, TX12, 48, tyX12, rfl, us_X12, tyX12_ok, nmX12, by decide, tw_1210, rfl, by decide, rfl, rfl, rfl, Or.inr ⟨_, rfl⟩⟩
theorem fi_X12_133 : FI RX12 133 12 47 1 true := ⟨RX12, TX12, 48, tyX12, rfl, us_X12, tyX12_ok, nmX12, by decide, tw_1211, rfl, by decide, rfl, rfl, rfl, Or.inr ⟨_, rfl⟩⟩
theorem kc_X12_195 : TW (.constant RX12 195 (65535)) := tw_1340
theorem kl_X12_143 : TW (.constantLong RX12 143 (37)) := tw_1356
theorem kl_X12_152 : TW (.constantLong RX12 152 (10)) := tw_1363
theorem kl_X12_154 : TW (.constantLong RX12 154 (48)) := tw_1364
theorem kl_X12_221 : TW (.constantLong RX12 221 (20)) := tw_1388
theorem kl_X12_248 : TW (.constantLong RX12 248 (7919)) := tw_1416
theorem kl_X12_250 : TW (.constantLong RX12 250 (104729)) := tw_1417
theorem kl_X12_234 : TW (.constantLong RX12 234 (2147483648)) := tw_1418
theorem kl_X12_230 : TW (.constantLong RX12 230 (1103515245)) := tw_1435
theorem kl_X12_232 : TW (.constantLong RX12 232 (12345)) := tw_1436
theorem kl_X12_236 : TW (.constantLong RX12 236 (65536)) := tw_1437
theorem kc_X12_277 : TW (.constant RX12 277 (65280)) := tw_1471
theorem kl_X12_390 : TW (.constantLong RX12 390 (-1)) := tw_1650
theorem kl_L_29 : TW (.constantLong RL 29 (4294967295)) := tw_1710
theorem pm_X11_init : (parseMethodDescriptor yX11_init.desc).map (fun d => d.parameters.length) = some 0 := by decide +kernel
theorem nh_X11 : RX11 ≠ "java/lang/invoke/MethodHandle" ∧ RX11 ≠ "java/lang/invoke/VarHandle" := ⟨by decide +kernel, by decide +kernel⟩
theorem mi_L_15 : MI RL 15 yX11_init cX11_init 2 0 := ⟨⟨tw_28, tw_1, tw_30, nh_X11.1, nh_X11.2, pm_X11_init⟩, tw_29, rfl⟩
theorem oi_X11_3 : TW (.methodLink RX11 3 objectInit) := tw_31
theorem pm_X4_init : (parseMethodDescriptor yX4_init.desc).map (fun d => d.parameters.length) = some 0 := by decide +kernel
theorem nh_X4 : RX4 ≠ "java/lang/invoke/MethodHandle" ∧ RX4 ≠ "java/lang/invoke/VarHandle" := ⟨by decide +kernel, by decide +kernel⟩
theorem mn_X11_40 : MN RX11 40 yX4_init cX4_init 1 0 "ThousandLeaflets" := ⟨⟨tw_40, tw_2, tw_42, nh_X4.1, nh_X4.2, pm_X4_init⟩, tw_41, rfl⟩
theorem oi_X4_3 : TW (.methodLink RX4 3 objectInit) := tw_43
theorem pm_X9_init : (parseMethodDescriptor yX9_init.desc).map (fun d => d.parameters.length) = some 0 := by decide +kernel
theorem nh_X9 : RX9 ≠ "java/lang/invoke/MethodHandle" ∧ RX9 ≠ "java/lang/invoke/VarHandle" := ⟨by decide +kernel, by decide +kernel⟩
theorem mn_X4_11 : MN RX4 11 yX9_init cX9_init 1 0 "ThousandLeaflets" := ⟨⟨tw_46, tw_3, tw_48, nh_X9.1, nh_X9.2, pm_X9_init⟩, tw_47, rfl⟩
theorem oi_X9_3 : TW (.methodLink RX9 3 objectInit) := tw_49
theorem pm_X3_init : (parseMethodDescriptor yX3_init.desc).map (fun d => d.parameters.length) = some 0 := by decide +kernel
theorem nh_X3 : RX3 ≠ "java/lang/invoke/MethodHandle" ∧ RX3 ≠ "java/lang/invoke/VarHandle" := ⟨by decide +kernel, by decide +kernel⟩
theorem mi_X4_20 : MI RX4 20 yX3_init cX3_init 1 0 := ⟨⟨tw_77, tw_4, tw_79, nh_X3.1, nh_X3.2, pm_X3_init⟩, tw_78, rfl⟩
theorem oi_X3_3 : TW (.methodLink RX3 3 objectInit) := tw_80
theorem pm_X3_clear : (parseMethodDescriptor yX3_clear.desc).map (fun d => d.parameters.length) = some 0 := by decide +kernel
theorem mv_X3_18 : MV RX3 18 yX3_clear cX3_clear 2 none 0 3 := ⟨⟨tw_81, tw_4, tw_84, nh_X3.1, nh_X3.2, pm_X3_clear⟩, tw_82, tw_83, _, _, rfl, by decide⟩
theorem pm_X8_init : (parseMethodDescriptor yX8_init.desc).map (fun d => d.parameters.length) = some 0 := by decide +kernel
theorem nh_X8 : RX8 ≠ "java/lang/invoke/MethodHandle" ∧ RX8 ≠ "java/lang/invoke/VarHandle" := ⟨by decide +kernel, by decide +kernel⟩
theorem mn_X11_59 : MN RX11 59 yX8_init cX8_init 1 0 "ThousandLeaflets" := ⟨⟨tw_133, tw_5, tw_135, nh_X8.1, nh_X8.2, pm_X8_init⟩, tw_134, rfl⟩
theorem oi_X8_3 : TW (.methodLink RX8 3 objectInit) := tw_136
theorem pm_X5_init : (parseMethodDescriptor yX5_init.desc).map (fun d => d.parameters.length) = some 0 := by decide +kernel
theorem nh_X5 : RX5 ≠ "java/lang/invoke/MethodHandle" ∧ RX5 ≠ "java/lang/invoke/VarHandle" := ⟨by decide +kernel, by decide +kernel⟩
theorem mn_X8_20 : MN RX8 20 yX5_init cX5_init 1 0 "ThousandLeaflets" := ⟨⟨tw_139, tw_6, tw_141, nh_X5.1, nh_X5.2, pm_X5_init⟩, tw_140, rfl⟩
theorem oi_X5_3 : TW (.methodLink RX5 3 objectInit) := tw_142
theorem pm_X0_init : (parseMethodDescriptor yX0_init.desc).map (fun d => d.parameters.length) = some 0 := by decide +kernel
theorem nh_X0 : RX0 ≠ "java/lang/invoke/MethodHandle" ∧ RX0 ≠ "java/lang/invoke/VarHandle" := ⟨by decide +kernel, by decide +kernel⟩
theorem mn_X8_27 : MN RX8 27 yX0_init cX0_init 1 0 "ThousandLeaflets" := ⟨⟨tw_172, tw_7, tw_174, nh_X0.1, nh_X0.2, pm_X0_init⟩, tw_173, rfl⟩
theorem oi_X0_3 : TW (.methodLink RX0 3 objectInit) := tw_175
theorem pm_X2_init : (parseMethodDescriptor yX2_init.desc).map (fun d => d.parameters.length) = some 0 := by decide +kernel
theorem nh_X2 : RX2 ≠ "java/lang/invoke/MethodHandle" ∧ RX2 ≠ "java/lang/invoke/VarHandle" := ⟨by decide +kernel, by decide +kernel⟩
theorem mn_X11_66 : MN RX11 66 yX2_init cX2_init 1 0 "ThousandLeaflets" := ⟨⟨tw_224, tw_8, tw_226, nh_X2.1, nh_X2.2, pm_X2_init⟩, tw_225, rfl⟩
theorem oi_X2_3 : TW (.methodLink RX2 3 objectInit) := tw_227
theorem mn_X2_20 : MN RX2 20 yX0_init cX0_init 1 0 "ThousandLeaflets" := ⟨⟨tw_229, tw_7, tw_174, nh_X0.1, nh_X0.2, pm_X0_init⟩, tw_173, rfl⟩
theorem pm_X10_init : (parseMethodDescriptor yX10_init.desc).map (fun d => d.parameters.length) = some 0 := by decide +kernel
theorem nh_X10 : RX10 ≠ "java/lang/invoke/MethodHandle" ∧ RX10 ≠ "java/lang/invoke/VarHandle" := ⟨by decide +kernel, by decide +kernel⟩
theorem mi_X11_73 : MI RX11 73 yX10_init cX10_init 2 0 := ⟨⟨tw_256, tw_9, tw_258, nh_X10.1, nh_X10.2, pm_X10_init⟩, tw_257, rfl⟩
theorem oi_X10_3 : TW (.methodLink RX10 3 objectInit) := tw_259
theorem mn_X10_27 : MN RX10 27 yX0_init cX0_init 1 0 "ThousandLeaflets" := ⟨⟨tw_263, tw_7, tw_174, nh_X0.1, nh_X0.2, pm_X0_init⟩, tw_173, rfl⟩
theorem pm_X1_init : (parseMethodDescriptor yX1_init.desc).map (fun d => d.parameters.length) = some 1 := by decide +kernel
theorem nh_X1 : RX1 ≠ "java/lang/invoke/MethodHandle" ∧ RX1 ≠ "java/lang/invoke/VarHandle" := ⟨by decide +kernel, by decide +kernel⟩
theorem mi_X11_78 : MI RX11 78 yX1_init cX1_init 2 1 := ⟨⟨tw_284, tw_10, tw_286, nh_X1.1, nh_X1.2, pm_X1_init⟩, tw_285, rfl⟩
theorem oi_X1_3 : TW (.methodLink RX1 3 objectInit) := tw_287
theorem mi_X1_17 : MI RX1 17 yX3_init cX3_init 1 0 := ⟨⟨tw_289, tw_4, tw_79, nh_X3.1, nh_X3.2, pm_X3_init⟩, tw_78, rfl⟩
theorem pm_X6_init : (parseMethodDescriptor yX6_init.desc).map (fun d => d.parameters.length) = some 0 := by decide +kernel
theorem nh_X6 : RX6 ≠ "java/lang/invoke/MethodHandle" ∧ RX6 ≠ "java/lang/invoke/VarHandle" := ⟨by decide +kernel, by decide +kernel⟩
theorem mn_X11_81 : MN RX11 81 yX6_init cX6_init 1 0 "ThousandLeaflets" := ⟨⟨tw_320, tw_11, tw_322, nh_X6.1, nh_X6.2, pm_X6_init⟩, tw_321, rfl⟩
theorem oi_X6_3 : TW (.methodLink RX6 3 objectInit) := tw_323
theorem mn_X11_82 : MN RX11 82 yX5_init cX5_init 1 0 "ThousandLeaflets" := ⟨⟨tw_334, tw_6, tw_141, nh_X5.1, nh_X5.2, pm_X5_init⟩, tw_140, rfl⟩
theorem mn_X11_83 : MN RX11 83 yX0_init cX0_init 1 0 "ThousandLeaflets" := ⟨⟨tw_335, tw_7, tw_174, nh_X0.1, nh_X0.2, pm_X0_init⟩, tw_173, rfl⟩
theorem pm_X11_book : (parseMethodDescriptor yX11_book.desc).map (fun d => d.parameters.length) = some 2 := by decide +kernel
theorem mv_L_19 : MV RL 19 yX11_book cX11_book 4 (some Jvm.ClassFile.FieldType.boolean) 2 11 := ⟨⟨tw_379, tw_1, tw_382, nh_X11.1, nh_X11.2, pm_X11_book⟩, tw_380, tw_381, _, _, rfl, by decide⟩
theorem pm_X11_isBook : (parseMethodDescriptor yX11_isBook.desc).map (fun d => d.parameters.length) = some 1 := by decide +kernel
theorem ms_X11_84 : MS RX11 84 yX11_isBook cX11_isBook 1 (some Jvm.ClassFile.FieldType.boolean) 1 := ⟨⟨tw_383, tw_1, tw_385, nh_X11.1, nh_X11.2, pm_X11_isBook⟩, tw_384⟩
theorem pm_X1_tell : (parseMethodDescriptor yX1_tell.desc).map (fun d => d.parameters.length) = some 1 := by decide +kernel
theorem mv_X11_88 : MV RX11 88 yX1_tell cX1_tell 3 none 1 1 := ⟨⟨tw_386, tw_10, tw_389, nh_X1.1, nh_X1.2, pm_X1_tell⟩, tw_387, tw_388, _, _, rfl, by decide⟩
theorem mv_X1_36 : MV RX1 36 yX3_clear cX3_clear 2 none 0 3 := ⟨⟨tw_390, tw_4, tw_84, nh_X3.1, nh_X3.2, pm_X3_clear⟩, tw_82, tw_83, _, _, rfl, by decide⟩
theorem pm_X1_forgetDrawn : (parseMethodDescriptor yX1_forgetDrawn.desc).map (fun d => d.parameters.length) = some 0 := by decide +kernel
theorem mv_X1_39 : MV RX1 39 yX1_forgetDrawn cX1_forgetDrawn 2 none 0 1 := ⟨⟨tw_391, tw_10, tw_394, nh_X1.1, nh_X1.2, pm_X1_forgetDrawn⟩, tw_393, TW.of (List.mem_append_left _ (List.mem_of_getElem? (i := 0) (by decide +kernel))) rfl, _, _, rfl, by decide⟩
theorem pm_X6_dropTouching : (parseMethodDescriptor yX6_dropTouching.desc).map (fun d => d.parameters.length) = some 1 := by decide +kernel
theorem mv_X11_91 : MV RX11 91 yX6_dropTouching cX6_dropTouching 4 none 1 6 := ⟨⟨tw_395, tw_11, tw_398, nh_X6.1, nh_X6.2, pm_X6_dropTouching⟩, tw_396, tw_397, _, _, rfl, by decide⟩
theorem pm_X6_isTouching : (parseMethodDescriptor yX6_isTouching.desc).map (fun d => d.parameters.length) = some 2 := by decide +kernel
theorem ms_X6_32 : MS RX6 32 yX6_isTouching cX6_isTouching 2 (some Jvm.ClassFile.FieldType.boolean) 2 := ⟨⟨tw_399, tw_11, tw_401, nh_X6.1, nh_X6.2, pm_X6_isTouching⟩, tw_400⟩
theorem pm_X11_forgetMarks : (parseMethodDescriptor yX11_forgetMarks.desc).map (fun d => d.parameters.length) = some 0 := by decide +kernel
theorem mv_X11_94 : MV RX11 94 yX11_forgetMarks cX11_forgetMarks 2 none 0 11 := ⟨⟨tw_402, tw_1, tw_405, nh_X11.1, nh_X11.2, pm_X11_forgetMarks⟩, tw_404, TW.of (List.mem_append_left _ (List.mem_of_getElem? (i := 1) (by decide +kernel))) rfl, _, _, rfl, by decide⟩
theorem pm_X11_page : (parseMethodDescriptor yX11_page.desc).map (fun d => d.parameters.length) = some 3 := by decide +kernel
theorem mv_L_24 : MV RL 24 yX11_page cX11_page 4 (some Jvm.ClassFile.FieldType.boolean) 3 11 := ⟨⟨tw_406, tw_1, tw_409, nh_X11.1, nh_X11.2, pm_X11_page⟩, tw_407, tw_408, _, _, rfl, by decide⟩
theorem pm_X11_isTold : (parseMethodDescriptor yX11_isTold.desc).map (fun d => d.parameters.length) = some 1 := by decide +kernel
theorem mv_X11_97 : MV RX11 97 yX11_isTold cX11_isTold 2 (some Jvm.ClassFile.FieldType.boolean) 1 11 := ⟨⟨tw_410, tw_1, tw_413, nh_X11.1, nh_X11.2, pm_X11_isTold⟩, tw_412, TW.of (List.mem_append_left _ (List.mem_of_getElem? (i := 2) (by decide +kernel))) rfl, _, _, rfl, by decide⟩
theorem pm_X11_isTouched : (parseMethodDescriptor yX11_isTouched.desc).map (fun d => d.parameters.length) = some 1 := by decide +kernel
theorem mv_X11_105 : MV RX11 105 yX11_isTouched cX11_isTouched 3 (some Jvm.ClassFile.FieldType.boolean) 1 11 := ⟨⟨tw_415, tw_1, tw_418, nh_X11.1, nh_X11.2, pm_X11_isTouched⟩, tw_417, TW.of (List.mem_append_left _ (List.mem_of_getElem? (i := 3) (by decide +kernel))) rfl, _, _, rfl, by decide⟩
theorem pm_X6_touches : (parseMethodDescriptor yX6_touches.desc).map (fun d => d.parameters.length) = some 1 := by decide +kernel
theorem mv_X11_351 : MV RX11 351 yX6_touches cX6_touches 3 (some Jvm.ClassFile.FieldType.boolean) 1 6 := ⟨⟨tw_419, tw_11, tw_422, nh_X6.1, nh_X6.2, pm_X6_touches⟩, tw_420, tw_421, _, _, rfl, by decide⟩
theorem pm_X11_feed : (parseMethodDescriptor yX11_feed.desc).map (fun d => d.parameters.length) = some 3 := by decide +kernel
theorem mv_L_31 : MV RL 31 yX11_feed cX11_feed 8 (some Jvm.ClassFile.FieldType.int) 3 11 := ⟨⟨tw_423, tw_1, tw_426, nh_X11.1, nh_X11.2, pm_X11_feed⟩, tw_424, tw_425, _, _, rfl, by decide⟩
theorem pm_X9_takeEight : (parseMethodDescriptor yX9_takeEight.desc).map (fun d => d.parameters.length) = some 1 := by decide +kernel
theorem mv_X11_115 : MV RX11 115 yX9_takeEight cX9_takeEight 5 none 1 9 := ⟨⟨tw_427, tw_3, tw_430, nh_X9.1, nh_X9.2, pm_X9_takeEight⟩, tw_428, tw_429, _, _, rfl, by decide⟩
theorem pm_X11_draw : (parseMethodDescriptor yX11_draw.desc).map (fun d => d.parameters.length) = some 1 := by decide +kernel
theorem mv_L_36 : MV RL 36 yX11_draw cX11_draw 3 (some Jvm.ClassFile.FieldType.int) 1 11 := ⟨⟨tw_431, tw_1, tw_434, nh_X11.1, nh_X11.2, pm_X11_draw⟩, tw_432, tw_433, _, _, rfl, by decide⟩
theorem pm_X4_faultFor : (parseMethodDescriptor yX4_faultFor.desc).map (fun d => d.parameters.length) = some 1 := by decide +kernel
theorem mv_X11_124 : MV RX11 124 yX4_faultFor cX4_faultFor 4 (some Jvm.ClassFile.FieldType.int) 1 4 := ⟨⟨tw_435, tw_2, tw_438, nh_X4.1, nh_X4.2, pm_X4_faultFor⟩, tw_436, tw_437, _, _, rfl, by decide⟩
theorem mv_X4_25 : MV RX4 25 yX3_clear cX3_clear 2 none 0 3 := ⟨⟨tw_439, tw_4, tw_84, nh_X3.1, nh_X3.2, pm_X3_clear⟩, tw_82, tw_83, _, _, rfl, by decide⟩
theorem pm_X9_rewind : (parseMethodDescriptor yX9_rewind.desc).map (fun d => d.parameters.length) = some 0 := by decide +kernel
theorem mv_X4_28 : MV RX4 28 yX9_rewind cX9_rewind 1 none 0 9 := ⟨⟨tw_440, tw_3, tw_443, nh_X9.1, nh_X9.2, pm_X9_rewind⟩, tw_441, tw_442, _, _, rfl, by decide⟩
theorem pm_X9_next : (parseMethodDescriptor yX9_next.desc).map (fun d => d.parameters.length) = some 0 := by decide +kernel
theorem mv_X4_31 : MV RX4 31 yX9_next cX9_next 2 none 0 9 := ⟨⟨tw_444, tw_3, tw_447, nh_X9.1, nh_X9.2, pm_X9_next⟩, tw_445, tw_446, _, _, rfl, by decide⟩
theorem pm_X9_takeRun : (parseMethodDescriptor yX9_takeRun.desc).map (fun d => d.parameters.length) = some 2 := by decide +kernel
theorem mv_X9_28 : MV RX9 28 yX9_takeRun cX9_takeRun 3 none 2 9 := ⟨⟨tw_448, tw_3, tw_451, nh_X9.1, nh_X9.2, pm_X9_takeRun⟩, tw_450, TW.of (List.mem_append_left _ (List.mem_of_getElem? (i := 4) (by decide +kernel))) rfl, _, _, rfl, by decide⟩
theorem pm_X9_numberHere : (parseMethodDescriptor yX9_numberHere.desc).map (fun d => d.parameters.length) = some 0 := by decide +kernel
theorem mv_X9_32 : MV RX9 32 yX9_numberHere cX9_numberHere 3 (some Jvm.ClassFile.FieldType.int) 0 9 := ⟨⟨tw_452, tw_3, tw_455, nh_X9.1, nh_X9.2, pm_X9_numberHere⟩, tw_454, TW.of (List.mem_append_left _ (List.mem_of_getElem? (i := 5) (by decide +kernel))) rfl, _, _, rfl, by decide⟩
theorem pm_X4_statementFault : (parseMethodDescriptor yX4_statementFault.desc).map (fun d => d.parameters.length) = some 1 := by decide +kernel
theorem mv_X4_38 : MV RX4 38 yX4_statementFault cX4_statementFault 2 (some Jvm.ClassFile.FieldType.int) 1 4 := ⟨⟨tw_456, tw_2, tw_459, nh_X4.1, nh_X4.2, pm_X4_statementFault⟩, tw_458, TW.of (List.mem_append_left _ (List.mem_of_getElem? (i := 6) (by decide +kernel))) rfl, _, _, rfl, by decide⟩
theorem pm_X9_isWord : (parseMethodDescriptor yX9_isWord.desc).map (fun d => d.parameters.length) = some 1 := by decide +kernel
theorem mv_X4_44 : MV RX4 44 yX9_isWord cX9_isWord 3 (some Jvm.ClassFile.FieldType.boolean) 1 9 := ⟨⟨tw_461, tw_3, tw_464, nh_X9.1, nh_X9.2, pm_X9_isWord⟩, tw_462, tw_463, _, _, rfl, by decide⟩
theorem pm_J0_length_8abf5 : (parseMethodDescriptor yJ0_length_8abf5.desc).map (fun d => d.parameters.length) = some 0 := by decide +kernel
theorem nh_J0 : RJ0 ≠ "java/lang/invoke/MethodHandle" ∧ RJ0 ≠ "java/lang/invoke/VarHandle" := ⟨by decide +kernel, by decide +kernel⟩
theorem pm_J0_coder_7d493 : (parseMethodDescriptor yJ0_coder_7d493.desc).map (fun d => d.parameters.length) = some 0 := by decide +kernel
theorem pm_J0_charAt_5068e : (parseMethodDescriptor yJ0_charAt_5068e.desc).map (fun d => d.parameters.length) = some 1 := by decide +kernel
theorem pm_J0_isLatin1_aae02 : (parseMethodDescriptor yJ0_isLatin1_aae02.desc).map (fun d => d.parameters.length) = some 0 := by decide +kernel
theorem pm_J1_charAt_3b067 : (parseMethodDescriptor yJ1_charAt_3b067.desc).map (fun d => d.parameters.length) = some 2 := by decide +kernel
theorem nh_J1 : RJ1 ≠ "java/lang/invoke/MethodHandle" ∧ RJ1 ≠ "java/lang/invoke/VarHandle" := ⟨by decide +kernel, by decide +kernel⟩
theorem ms_J0_495 : MS RJ0 495 yJ1_charAt_3b067 cJ1_charAt_3b067 2 (some Jvm.ClassFile.FieldType.char) 2 := ⟨⟨tw_483, tw_14, tw_485, nh_J1.1, nh_J1.2, pm_J1_charAt_3b067⟩, tw_484⟩
theorem pm_J0_checkIndex_df160 : (parseMethodDescriptor yJ0_checkIndex_df160.desc).map (fun d => d.parameters.length) = some 2 := by decide +kernel
theorem ms_J1_9 : MS RJ1 9 yJ0_checkIndex_df160 cJ0_checkIndex_df160 2 none 2 := ⟨⟨tw_486, tw_13, tw_488, nh_J0.1, nh_J0.2, pm_J0_checkIndex_df160⟩, tw_487⟩
theorem pm_J3_checkIndex_8e157 : (parseMethodDescriptor yJ3_checkIndex_8e157.desc).map (fun d => d.parameters.length) = some 3 := by decide +kernel
theorem nh_J3 : RJ3 ≠ "java/lang/invoke/MethodHandle" ∧ RJ3 ≠ "java/lang/invoke/VarHandle" := ⟨by decide +kernel, by decide +kernel⟩
theorem ms_J0_1059 : MS RJ0 1059 yJ3_checkIndex_8e157 cJ3_checkIndex_8e157 3 (some Jvm.ClassFile.FieldType.int) 3 := ⟨⟨tw_491, tw_15, tw_493, nh_J3.1, nh_J3.2, pm_J3_checkIndex_8e157⟩, tw_492⟩
theorem pm_J2_charAt_3b067 : (parseMethodDescriptor yJ2_charAt_3b067.desc).map (fun d => d.parameters.length) = some 2 := by decide +kernel
theorem nh_J2 : RJ2 ≠ "java/lang/invoke/MethodHandle" ∧ RJ2 ≠ "java/lang/invoke/VarHandle" := ⟨by decide +kernel, by decide +kernel⟩
theorem ms_J0_498 : MS RJ0 498 yJ2_charAt_3b067 cJ2_charAt_3b067 2 (some Jvm.ClassFile.FieldType.char) 2 := ⟨⟨tw_494, tw_16, tw_496, nh_J2.1, nh_J2.2, pm_J2_charAt_3b067⟩, tw_495⟩
theorem pm_J2_checkIndex_2214a : (parseMethodDescriptor yJ2_checkIndex_2214a.desc).map (fun d => d.parameters.length) = some 2 := by decide +kernel
theorem ms_J2_67 : MS RJ2 67 yJ2_checkIndex_2214a cJ2_checkIndex_2214a 2 none 2 := ⟨⟨tw_497, tw_16, tw_499, nh_J2.1, nh_J2.2, pm_J2_checkIndex_2214a⟩, tw_498⟩
theorem pm_J2_length_9d52b : (parseMethodDescriptor yJ2_length_9d52b.desc).map (fun d => d.parameters.length) = some 1 := by decide +kernel
theorem ms_J2_48 : MS RJ2 48 yJ2_length_9d52b cJ2_length_9d52b 1 (some Jvm.ClassFile.FieldType.int) 1 := ⟨⟨tw_500, tw_16, tw_502, nh_J2.1, nh_J2.2, pm_J2_length_9d52b⟩, tw_501⟩
theorem ms_J2_414 : MS RJ2 414 yJ0_checkIndex_df160 cJ0_checkIndex_df160 2 none 2 := ⟨⟨tw_503, tw_13, tw_488, nh_J0.1, nh_J0.2, pm_J0_checkIndex_df160⟩, tw_487⟩
theorem pm_J2_getChar_3b067 : (parseMethodDescriptor yJ2_getChar_3b067.desc).map (fun d => d.parameters.length) = some 2 := by decide +kernel
theorem ms_J2_71 : MS RJ2 71 yJ2_getChar_3b067 cJ2_getChar_3b067 2 (some Jvm.ClassFile.FieldType.char) 2 := ⟨⟨tw_504, tw_16, tw_506, nh_J2.1, nh_J2.2, pm_J2_getChar_3b067⟩, tw_505⟩
theorem pm_X4_oddsFault : (parseMethodDescriptor yX4_oddsFault.desc).map (fun d => d.parameters.length) = some 0 := by decide +kernel
theorem mv_X4_48 : MV RX4 48 yX4_oddsFault cX4_oddsFault 3 (some Jvm.ClassFile.FieldType.int) 0 4 := ⟨⟨tw_513, tw_2, tw_516, nh_X4.1, nh_X4.2, pm_X4_oddsFault⟩, tw_515, TW.of (List.mem_append_left _ (List.mem_of_getElem? (i := 7) (by decide +kernel))) rfl, _, _, rfl, by decide⟩
theorem pm_X4_numberFault : (parseMethodDescriptor yX4_numberFault.desc).map (fun d => d.parameters.length) = some 2 := by decide +kernel
theorem mv_X4_78 : MV RX4 78 yX4_numberFault cX4_numberFault 3 (some Jvm.ClassFile.FieldType.int) 2 4 := ⟨⟨tw_517, tw_2, tw_520, nh_X4.1, nh_X4.2, pm_X4_numberFault⟩, tw_519, TW.of (List.mem_append_left _ (List.mem_of_getElem? (i := 8) (by decide +kernel))) rfl, _, _, rfl, by decide⟩
theorem pm_X4_wrong : (parseMethodDescriptor yX4_wrong.desc).map (fun d => d.parameters.length) = some 1 := by decide +kernel
theorem mv_X4_57 : MV RX4 57 yX4_wrong cX4_wrong 2 (some Jvm.ClassFile.FieldType.int) 1 4 := ⟨⟨tw_521, tw_2, tw_524, nh_X4.1, nh_X4.2, pm_X4_wrong⟩, tw_523, TW.of (List.mem_append_left _ (List.mem_of_getElem? (i := 9) (by decide +kernel))) rfl, _, _, rfl, by decide⟩
theorem pm_X4_endFault : (parseMethodDescriptor yX4_endFault.desc).map (fun d => d.parameters.length) = some 0 := by decide +kernel
theorem mv_X4_88 : MV RX4 88 yX4_endFault cX4_endFault 1 (some Jvm.ClassFile.FieldType.int) 0 4 := ⟨⟨tw_525, tw_2, tw_528, nh_X4.1, nh_X4.2, pm_X4_endFault⟩, tw_527, TW.of (List.mem_append_left _ (List.mem_of_getElem? (i := 10) (by decide +kernel))) rfl, _, _, rfl, by decide⟩
theorem pm_X4_firstFault : (parseMethodDescriptor yX4_firstFault.desc).map (fun d => d.parameters.length) = some 0 := by decide +kernel
theorem mv_X4_60 : MV RX4 60 yX4_firstFault cX4_firstFault 2 (some Jvm.ClassFile.FieldType.int) 0 4 := ⟨⟨tw_530, tw_2, tw_533, nh_X4.1, nh_X4.2, pm_X4_firstFault⟩, tw_532, TW.of (List.mem_append_left _ (List.mem_of_getElem? (i := 11) (by decide +kernel))) rfl, _, _, rfl, by decide⟩
theorem pm_X4_sumFault : (parseMethodDescriptor yX4_sumFault.desc).map (fun d => d.parameters.length) = some 1 := by decide +kernel
theorem mv_X4_68 : MV RX4 68 yX4_sumFault cX4_sumFault 4 (some Jvm.ClassFile.FieldType.int) 1 4 := ⟨⟨tw_535, tw_2, tw_538, nh_X4.1, nh_X4.2, pm_X4_sumFault⟩, tw_537, TW.of (List.mem_append_left _ (List.mem_of_getElem? (i := 12) (by decide +kernel))) rfl, _, _, rfl, by decide⟩
theorem pm_X4_sealFault : (parseMethodDescriptor yX4_sealFault.desc).map (fun d => d.parameters.length) = some 0 := by decide +kernel
theorem mv_X4_75 : MV RX4 75 yX4_sealFault cX4_sealFault 2 (some Jvm.ClassFile.FieldType.int) 0 4 := ⟨⟨tw_540, tw_2, tw_543, nh_X4.1, nh_X4.2, pm_X4_sealFault⟩, tw_542, TW.of (List.mem_append_left _ (List.mem_of_getElem? (i := 13) (by decide +kernel))) rfl, _, _, rfl, by decide⟩
theorem pm_X1_changeDraw : (parseMethodDescriptor yX1_changeDraw.desc).map (fun d => d.parameters.length) = some 1 := by decide +kernel
theorem mv_X11_132 : MV RX11 132 yX1_changeDraw cX1_changeDraw 2 none 1 1 := ⟨⟨tw_544, tw_10, tw_547, nh_X1.1, nh_X1.2, pm_X1_changeDraw⟩, tw_545, tw_546, _, _, rfl, by decide⟩
theorem pm_X3_copy : (parseMethodDescriptor yX3_copy.desc).map (fun d => d.parameters.length) = some 1 := by decide +kernel
theorem mv_X1_42 : MV RX1 42 yX3_copy cX3_copy 2 none 1 3 := ⟨⟨tw_548, tw_4, tw_551, nh_X3.1, nh_X3.2, pm_X3_copy⟩, tw_549, tw_550, _, _, rfl, by decide⟩
theorem pm_X11_leaflet : (parseMethodDescriptor yX11_leaflet.desc).map (fun d => d.parameters.length) = some 3 := by decide +kernel
theorem mv_L_41 : MV RL 41 yX11_leaflet cX11_leaflet 6 (some Jvm.ClassFile.FieldType.int) 3 11 := ⟨⟨tw_556, tw_1, tw_559, nh_X11.1, nh_X11.2, pm_X11_leaflet⟩, tw_557, tw_558, _, _, rfl, by decide⟩
theorem pm_X11_isLeaflet : (parseMethodDescriptor yX11_isLeaflet.desc).map (fun d => d.parameters.length) = some 2 := by decide +kernel
theorem mv_X11_136 : MV RX11 136 yX11_isLeaflet cX11_isLeaflet 3 (some Jvm.ClassFile.FieldType.boolean) 2 11 := ⟨⟨tw_560, tw_1, tw_563, nh_X11.1, nh_X11.2, pm_X11_isLeaflet⟩, tw_562, TW.of (List.mem_append_left _ (List.mem_of_getElem? (i := 14) (by decide +kernel))) rfl, _, _, rfl, by decide⟩
theorem pm_X11_isNumber : (parseMethodDescriptor yX11_isNumber.desc).map (fun d => d.parameters.length) = some 1 := by decide +kernel
theorem ms_X11_173 : MS RX11 173 yX11_isNumber cX11_isNumber 1 (some Jvm.ClassFile.FieldType.boolean) 1 := ⟨⟨tw_564, tw_1, tw_566, nh_X11.1, nh_X11.2, pm_X11_isNumber⟩, tw_565⟩
theorem pm_X1_pagesOf : (parseMethodDescriptor yX1_pagesOf.desc).map (fun d => d.parameters.length) = some 1 := by decide +kernel
theorem mv_X11_140 : MV RX11 140 yX1_pagesOf cX1_pagesOf 2 (some Jvm.ClassFile.FieldType.int) 1 1 := ⟨⟨tw_567, tw_10, tw_570, nh_X1.1, nh_X1.2, pm_X1_pagesOf⟩, tw_568, tw_569, _, _, rfl, by decide⟩
theorem pm_X1_drawPages : (parseMethodDescriptor yX1_drawPages.desc).map (fun d => d.parameters.length) = some 2 := by decide +kernel
theorem mv_X1_63 : MV RX1 63 yX1_drawPages cX1_drawPages 9 (some Jvm.ClassFile.FieldType.int) 2 1 := ⟨⟨tw_571, tw_10, tw_574, nh_X1.1, nh_X1.2, pm_X1_drawPages⟩, tw_572, tw_573, _, _, rfl, by decide⟩
theorem pm_X1_all : (parseMethodDescriptor yX1_all.desc).map (fun d => d.parameters.length) = some 0 := by decide +kernel
theorem mv_X1_49 : MV RX1 49 yX1_all cX1_all 1 (some Jvm.ClassFile.FieldType.int) 0 1 := ⟨⟨tw_576, tw_10, tw_579, nh_X1.1, nh_X1.2, pm_X1_all⟩, tw_577, tw_578, _, _, rfl, by decide⟩
theorem pm_X1_castDegree : (parseMethodDescriptor yX1_castDegree.desc).map (fun d => d.parameters.length) = some 1 := by decide +kernel
theorem mv_X1_71 : MV RX1 71 yX1_castDegree cX1_castDegree 2 (some Jvm.ClassFile.FieldType.int) 1 1 := ⟨⟨tw_580, tw_10, tw_583, nh_X1.1, nh_X1.2, pm_X1_castDegree⟩, tw_582, TW.of (List.mem_append_left _ (List.mem_of_getElem? (i := 15) (by decide +kernel))) rfl, _, _, rfl, by decide⟩
theorem pm_X1_cast : (parseMethodDescriptor yX1_cast.desc).map (fun d => d.parameters.length) = some 1 := by decide +kernel
theorem mv_X1_80 : MV RX1 80 yX1_cast cX1_cast 2 (some Jvm.ClassFile.FieldType.int) 1 1 := ⟨⟨tw_584, tw_10, tw_587, nh_X1.1, nh_X1.2, pm_X1_cast⟩, tw_586, TW.of (List.mem_append_left _ (List.mem_of_getElem? (i := 16) (by decide +kernel))) rfl, _, _, rfl, by decide⟩
theorem pm_X1_howMany : (parseMethodDescriptor yX1_howMany.desc).map (fun d => d.parameters.length) = some 1 := by decide +kernel
theorem mv_X1_74 : MV RX1 74 yX1_howMany cX1_howMany 6 (some Jvm.ClassFile.FieldType.int) 1 1 := ⟨⟨tw_590, tw_10, tw_593, nh_X1.1, nh_X1.2, pm_X1_howMany⟩, tw_592, TW.of (List.mem_append_left _ (List.mem_of_getElem? (i := 17) (by decide +kernel))) rfl, _, _, rfl, by decide⟩
theorem pm_X3_oddsOf : (parseMethodDescriptor yX3_oddsOf.desc).map (fun d => d.parameters.length) = some 1 := by decide +kernel
theorem mv_X1_89 : MV RX1 89 yX3_oddsOf cX3_oddsOf 2 (some Jvm.ClassFile.FieldType.int) 1 3 := ⟨⟨tw_594, tw_4, tw_597, nh_X3.1, nh_X3.2, pm_X3_oddsOf⟩, tw_595, tw_596, _, _, rfl, by decide⟩
theorem pm_X1_weightOf : (parseMethodDescriptor yX1_weightOf.desc).map (fun d => d.parameters.length) = some 1 := by decide +kernel
theorem mv_X1_77 : MV RX1 77 yX1_weightOf cX1_weightOf 2 (some Jvm.ClassFile.FieldType.int) 1 1 := ⟨⟨tw_598, tw_10, tw_601, nh_X1.1, nh_X1.2, pm_X1_weightOf⟩, tw_600, TW.of (List.mem_append_left _ (List.mem_of_getElem? (i := 18) (by decide +kernel))) rfl, _, _, rfl, by decide⟩
theorem pm_X1_pickBeside : (parseMethodDescriptor yX1_pickBeside.desc).map (fun d => d.parameters.length) = some 3 := by decide +kernel
theorem mv_X1_83 : MV RX1 83 yX1_pickBeside cX1_pickBeside 6 (some Jvm.ClassFile.FieldType.int) 3 1 := ⟨⟨tw_602, tw_10, tw_605, nh_X1.1, nh_X1.2, pm_X1_pickBeside⟩, tw_604, TW.of (List.mem_append_left _ (List.mem_of_getElem? (i := 19) (by decide +kernel))) rfl, _, _, rfl, by decide⟩
theorem pm_X1_sumOf : (parseMethodDescriptor yX1_sumOf.desc).map (fun d => d.parameters.length) = some 1 := by decide +kernel
theorem mv_X11_143 : MV RX11 143 yX1_sumOf cX1_sumOf 5 (some Jvm.ClassFile.FieldType.int) 1 1 := ⟨⟨tw_606, tw_10, tw_609, nh_X1.1, nh_X1.2, pm_X1_sumOf⟩, tw_607, tw_608, _, _, rfl, by decide⟩
theorem pm_X1_withoutHidden : (parseMethodDescriptor yX1_withoutHidden.desc).map (fun d => d.parameters.length) = some 1 := by decide +kernel
theorem mv_X1_56 : MV RX1 56 yX1_withoutHidden cX1_withoutHidden 4 (some Jvm.ClassFile.FieldType.int) 1 1 := ⟨⟨tw_610, tw_10, tw_613, nh_X1.1, nh_X1.2, pm_X1_withoutHidden⟩, tw_611, tw_612, _, _, rfl, by decide⟩
theorem pm_X1_sealOf : (parseMethodDescriptor yX1_sealOf.desc).map (fun d => d.parameters.length) = some 2 := by decide +kernel
theorem mv_X11_146 : MV RX11 146 yX1_sealOf cX1_sealOf 3 (some Jvm.ClassFile.FieldType.int) 2 1 := ⟨⟨tw_614, tw_10, tw_617, nh_X1.1, nh_X1.2, pm_X1_sealOf⟩, tw_615, tw_616, _, _, rfl, by decide⟩
theorem pm_J6_bitCount_0f7a4 : (parseMethodDescriptor yJ6_bitCount_0f7a4.desc).map (fun d => d.parameters.length) = some 1 := by decide +kernel
theorem nh_J6 : RJ6 ≠ "java/lang/invoke/MethodHandle" ∧ RJ6 ≠ "java/lang/invoke/VarHandle" := ⟨by decide +kernel, by decide +kernel⟩
theorem ms_X11_150 : MS RX11 150 yJ6_bitCount_0f7a4 cJ6_bitCount_0f7a4 1 (some Jvm.ClassFile.FieldType.int) 1 := ⟨⟨tw_618, tw_18, tw_620, nh_J6.1, nh_J6.2, pm_J6_bitCount_0f7a4⟩, tw_619⟩
theorem pm_X11_told : (parseMethodDescriptor yX11_told.desc).map (fun d => d.parameters.length) = some 2 := by decide +kernel
theorem mv_L_45 : MV RL 45 yX11_told cX11_told 3 (some Jvm.ClassFile.FieldType.int) 2 11 := ⟨⟨tw_624, tw_1, tw_627, nh_X11.1, nh_X11.2, pm_X11_told⟩, tw_625, tw_626, _, _, rfl, by decide⟩
theorem pm_X11_isPageOf : (parseMethodDescriptor yX11_isPageOf.desc).map (fun d => d.parameters.length) = some 2 := by decide +kernel
theorem mv_X11_155 : MV RX11 155 yX11_isPageOf cX11_isPageOf 3 (some Jvm.ClassFile.FieldType.boolean) 2 11 := ⟨⟨tw_628, tw_1, tw_631, nh_X11.1, nh_X11.2, pm_X11_isPageOf⟩, tw_630, TW.of (List.mem_append_left _ (List.mem_of_getElem? (i := 20) (by decide +kernel))) rfl, _, _, rfl, by decide⟩
theorem mv_X11_233 : MV RX11 233 yX1_all cX1_all 1 (some Jvm.ClassFile.FieldType.int) 0 1 := ⟨⟨tw_632, tw_10, tw_579, nh_X1.1, nh_X1.2, pm_X1_all⟩, tw_577, tw_578, _, _, rfl, by decide⟩
theorem pm_X11_comes : (parseMethodDescriptor yX11_comes.desc).map (fun d => d.parameters.length) = some 4 := by decide +kernel
theorem mv_L_50 : MV RL 50 yX11_comes cX11_comes 5 (some Jvm.ClassFile.FieldType.int) 4 11 := ⟨⟨tw_633, tw_1, tw_636, nh_X11.1, nh_X11.2, pm_X11_comes⟩, tw_634, tw_635, _, _, rfl, by decide⟩
theorem pm_X11_isQuarter : (parseMethodDescriptor yX11_isQuarter.desc).map (fun d => d.parameters.length) = some 1 := by decide +kernel
theorem ms_X11_158 : MS RX11 158 yX11_isQuarter cX11_isQuarter 1 (some Jvm.ClassFile.FieldType.boolean) 1 := ⟨⟨tw_637, tw_1, tw_639, nh_X11.1, nh_X11.2, pm_X11_isQuarter⟩, tw_638⟩
theorem pm_X1_leafletPaper : (parseMethodDescriptor yX1_leafletPaper.desc).map (fun d => d.parameters.length) = some 2 := by decide +kernel
theorem mv_X11_161 : MV RX11 161 yX1_leafletPaper cX1_leafletPaper 6 (some (Jvm.ClassFile.FieldType.object "ThousandLeaflets$Paper")) 2 1 := ⟨⟨tw_640, tw_10, tw_643, nh_X1.1, nh_X1.2, pm_X1_leafletPaper⟩, tw_641, tw_642, _, _, rfl, by decide⟩
theorem mv_X1_98 : MV RX1 98 yX1_pagesOf cX1_pagesOf 2 (some Jvm.ClassFile.FieldType.int) 1 1 := ⟨⟨tw_644, tw_10, tw_570, nh_X1.1, nh_X1.2, pm_X1_pagesOf⟩, tw_568, tw_569, _, _, rfl, by decide⟩
theorem mv_X1_101 : MV RX1 101 yX1_sumOf cX1_sumOf 5 (some Jvm.ClassFile.FieldType.int) 1 1 := ⟨⟨tw_645, tw_10, tw_609, nh_X1.1, nh_X1.2, pm_X1_sumOf⟩, tw_607, tw_608, _, _, rfl, by decide⟩
theorem mv_X1_105 : MV RX1 105 yX1_sealOf cX1_sealOf 3 (some Jvm.ClassFile.FieldType.int) 2 1 := ⟨⟨tw_647, tw_10, tw_617, nh_X1.1, nh_X1.2, pm_X1_sealOf⟩, tw_615, tw_616, _, _, rfl, by decide⟩
theorem pm_X1_paperOf : (parseMethodDescriptor yX1_paperOf.desc).map (fun d => d.parameters.length) = some 5 := by decide +kernel
theorem mv_X1_108 : MV RX1 108 yX1_paperOf cX1_paperOf 6 (some (Jvm.ClassFile.FieldType.object "ThousandLeaflets$Paper")) 5 1 := ⟨⟨tw_648, tw_10, tw_651, nh_X1.1, nh_X1.2, pm_X1_paperOf⟩, tw_649, tw_650, _, _, rfl, by decide⟩
theorem pm_X7_init : (parseMethodDescriptor yX7_init.desc).map (fun d => d.parameters.length) = some 7 := by decide +kernel
theorem nh_X7 : RX7 ≠ "java/lang/invoke/MethodHandle" ∧ RX7 ≠ "java/lang/invoke/VarHandle" := ⟨by decide +kernel, by decide +kernel⟩
theorem mi_X1_114 : MI RX1 114 yX7_init cX7_init 8 7 := ⟨⟨tw_654, tw_19, tw_656, nh_X7.1, nh_X7.2, pm_X7_init⟩, tw_655, rfl⟩
theorem oi_X7_3 : TW (.methodLink RX7 3 objectInit) := tw_657
theorem pm_X6_put : (parseMethodDescriptor yX6_put.desc).map (fun d => d.parameters.length) = some 1 := by decide +kernel
theorem mv_X11_165 : MV RX11 165 yX6_put cX6_put 2 (some Jvm.ClassFile.FieldType.int) 1 6 := ⟨⟨tw_687, tw_11, tw_690, nh_X6.1, nh_X6.2, pm_X6_put⟩, tw_688, tw_689, _, _, rfl, by decide⟩
theorem pm_X6_unnamed : (parseMethodDescriptor yX6_unnamed.desc).map (fun d => d.parameters.length) = some 0 := by decide +kernel
theorem mv_X6_24 : MV RX6 24 yX6_unnamed cX6_unnamed 4 (some Jvm.ClassFile.FieldType.int) 0 6 := ⟨⟨tw_691, tw_11, tw_694, nh_X6.1, nh_X6.2, pm_X6_unnamed⟩, tw_693, TW.of (List.mem_append_left _ (List.mem_of_getElem? (i := 21) (by decide +kernel))) rfl, _, _, rfl, by decide⟩
theorem pm_X11_slip : (parseMethodDescriptor yX11_slip.desc).map (fun d => d.parameters.length) = some 4 := by decide +kernel
theorem mv_L_55 : MV RL 55 yX11_slip cX11_slip 7 (some Jvm.ClassFile.FieldType.int) 4 11 := ⟨⟨tw_695, tw_1, tw_698, nh_X11.1, nh_X11.2, pm_X11_slip⟩, tw_696, tw_697, _, _, rfl, by decide⟩
theorem pm_X11_send : (parseMethodDescriptor yX11_send.desc).map (fun d => d.parameters.length) = some 5 := by decide +kernel
theorem mv_X11_169 : MV RX11 169 yX11_send cX11_send 6 (some Jvm.ClassFile.FieldType.int) 5 11 := ⟨⟨tw_699, tw_1, tw_702, nh_X11.1, nh_X11.2, pm_X11_send⟩, tw_701, TW.of (List.mem_append_left _ (List.mem_of_getElem? (i := 22) (by decide +kernel))) rfl, _, _, rfl, by decide⟩
theorem mv_X11_360 : MV RX11 360 yX1_paperOf cX1_paperOf 6 (some (Jvm.ClassFile.FieldType.object "ThousandLeaflets$Paper")) 5 1 := ⟨⟨tw_703, tw_10, tw_651, nh_X1.1, nh_X1.2, pm_X1_paperOf⟩, tw_649, tw_650, _, _, rfl, by decide⟩
theorem pm_X11_forged : (parseMethodDescriptor yX11_forged.desc).map (fun d => d.parameters.length) = some 5 := by decide +kernel
theorem mv_L_59 : MV RL 59 yX11_forged cX11_forged 6 (some Jvm.ClassFile.FieldType.int) 5 11 := ⟨⟨tw_704, tw_1, tw_707, nh_X11.1, nh_X11.2, pm_X11_forged⟩, tw_705, tw_706, _, _, rfl, by decide⟩
theorem pm_X11_nameless : (parseMethodDescriptor yX11_nameless.desc).map (fun d => d.parameters.length) = some 3 := by decide +kernel
theorem mv_L_64 : MV RL 64 yX11_nameless cX11_nameless 6 (some Jvm.ClassFile.FieldType.int) 3 11 := ⟨⟨tw_708, tw_1, tw_711, nh_X11.1, nh_X11.2, pm_X11_nameless⟩, tw_709, tw_710, _, _, rfl, by decide⟩
theorem mi_X11_182 : MI RX11 182 yX7_init cX7_init 8 7 := ⟨⟨tw_713, tw_19, tw_656, nh_X7.1, nh_X7.2, pm_X7_init⟩, tw_655, rfl⟩
theorem pm_X11_away : (parseMethodDescriptor yX11_away.desc).map (fun d => d.parameters.length) = some 2 := by decide +kernel
theorem mv_L_78 : MV RL 78 yX11_away cX11_away 3 (some Jvm.ClassFile.FieldType.boolean) 2 11 := ⟨⟨tw_714, tw_1, tw_717, nh_X11.1, nh_X11.2, pm_X11_away⟩, tw_715, tw_716, _, _, rfl, by decide⟩
theorem pm_X11_paperAt : (parseMethodDescriptor yX11_paperAt.desc).map (fun d => d.parameters.length) = some 2 := by decide +kernel
theorem mv_X11_185 : MV RX11 185 yX11_paperAt cX11_paperAt 3 (some (Jvm.ClassFile.FieldType.object "ThousandLeaflets$Paper")) 2 11 := ⟨⟨tw_718, tw_1, tw_721, nh_X11.1, nh_X11.2, pm_X11_paperAt⟩, tw_720, TW.of (List.mem_append_left _ (List.mem_of_getElem? (i := 23) (by decide +kernel))) rfl, _, _, rfl, by decide⟩
theorem pm_X6_at : (parseMethodDescriptor yX6_at.desc).map (fun d => d.parameters.length) = some 1 := by decide +kernel
theorem mv_X11_337 : MV RX11 337 yX6_at cX6_at 2 (some (Jvm.ClassFile.FieldType.object "ThousandLeaflets$Paper")) 1 6 := ⟨⟨tw_722, tw_11, tw_725, nh_X6.1, nh_X6.2, pm_X6_at⟩, tw_723, tw_724, _, _, rfl, by decide⟩
theorem pm_X6_drop : (parseMethodDescriptor yX6_drop.desc).map (fun d => d.parameters.length) = some 1 := by decide +kernel
theorem mv_X11_210 : MV RX11 210 yX6_drop cX6_drop 3 none 1 6 := ⟨⟨tw_726, tw_11, tw_729, nh_X6.1, nh_X6.2, pm_X6_drop⟩, tw_727, tw_728, _, _, rfl, by decide⟩
theorem pm_X11_peels : (parseMethodDescriptor yX11_peels.desc).map (fun d => d.parameters.length) = some 4 := by decide +kernel
theorem mv_L_82 : MV RL 82 yX11_peels cX11_peels 7 (some Jvm.ClassFile.FieldType.int) 4 11 := ⟨⟨tw_730, tw_1, tw_733, nh_X11.1, nh_X11.2, pm_X11_peels⟩, tw_731, tw_732, _, _, rfl, by decide⟩
theorem pm_X11_isOctet : (parseMethodDescriptor yX11_isOctet.desc).map (fun d => d.parameters.length) = some 1 := by decide +kernel
theorem ms_X11_213 : MS RX11 213 yX11_isOctet cX11_isOctet 1 (some Jvm.ClassFile.FieldType.boolean) 1 := ⟨⟨tw_734, tw_1, tw_736, nh_X11.1, nh_X11.2, pm_X11_isOctet⟩, tw_735⟩
theorem pm_X11_gather : (parseMethodDescriptor yX11_gather.desc).map (fun d => d.parameters.length) = some 3 := by decide +kernel
theorem mv_X11_216 : MV RX11 216 yX11_gather cX11_gather 8 (some (Jvm.ClassFile.FieldType.object "ThousandLeaflets$Equations")) 3 11 := ⟨⟨tw_737, tw_1, tw_740, nh_X11.1, nh_X11.2, pm_X11_gather⟩, tw_739, TW.of (List.mem_append_left _ (List.mem_of_getElem? (i := 24) (by decide +kernel))) rfl, _, _, rfl, by decide⟩
theorem pm_X5_startWith : (parseMethodDescriptor yX5_startWith.desc).map (fun d => d.parameters.length) = some 1 := by decide +kernel
theorem mv_X11_371 : MV RX11 371 yX5_startWith cX5_startWith 3 none 1 5 := ⟨⟨tw_741, tw_6, tw_744, nh_X5.1, nh_X5.2, pm_X5_startWith⟩, tw_742, tw_743, _, _, rfl, by decide⟩
theorem pm_X5_add : (parseMethodDescriptor yX5_add.desc).map (fun d => d.parameters.length) = some 2 := by decide +kernel
theorem mv_X5_46 : MV RX5 46 yX5_add cX5_add 3 none 2 5 := ⟨⟨tw_745, tw_6, tw_748, nh_X5.1, nh_X5.2, pm_X5_add⟩, tw_746, tw_747, _, _, rfl, by decide⟩
theorem pm_X7_hasOctet : (parseMethodDescriptor yX7_hasOctet.desc).map (fun d => d.parameters.length) = some 1 := by decide +kernel
theorem mv_X11_365 : MV RX11 365 yX7_hasOctet cX7_hasOctet 2 (some Jvm.ClassFile.FieldType.boolean) 1 7 := ⟨⟨tw_749, tw_19, tw_752, nh_X7.1, nh_X7.2, pm_X7_hasOctet⟩, tw_750, tw_751, _, _, rfl, by decide⟩
theorem pm_X7_equation : (parseMethodDescriptor yX7_equation.desc).map (fun d => d.parameters.length) = some 2 := by decide +kernel
theorem mv_X11_375 : MV RX11 375 yX7_equation cX7_equation 3 (some Jvm.ClassFile.FieldType.int) 2 7 := ⟨⟨tw_753, tw_19, tw_756, nh_X7.1, nh_X7.2, pm_X7_equation⟩, tw_754, tw_755, _, _, rfl, by decide⟩
theorem pm_X7_pagesBy : (parseMethodDescriptor yX7_pagesBy.desc).map (fun d => d.parameters.length) = some 1 := by decide +kernel
theorem mv_X7_33 : MV RX7 33 yX7_pagesBy cX7_pagesBy 2 (some Jvm.ClassFile.FieldType.int) 1 7 := ⟨⟨tw_757, tw_19, tw_760, nh_X7.1, nh_X7.2, pm_X7_pagesBy⟩, tw_758, tw_759, _, _, rfl, by decide⟩
theorem mv_X11_378 : MV RX11 378 yX5_add cX5_add 3 none 2 5 := ⟨⟨tw_761, tw_6, tw_748, nh_X5.1, nh_X5.2, pm_X5_add⟩, tw_746, tw_747, _, _, rfl, by decide⟩
theorem pm_X5_peel : (parseMethodDescriptor yX5_peel.desc).map (fun d => d.parameters.length) = some 0 := by decide +kernel
theorem mv_X11_220 : MV RX11 220 yX5_peel cX5_peel 6 (some Jvm.ClassFile.FieldType.int) 0 5 := ⟨⟨tw_762, tw_6, tw_765, nh_X5.1, nh_X5.2, pm_X5_peel⟩, tw_763, tw_764, _, _, rfl, by decide⟩
theorem pm_X5_firstWithOneUnknown : (parseMethodDescriptor yX5_firstWithOneUnknown.desc).map (fun d => d.parameters.length) = some 1 := by decide +kernel
theorem mv_X5_58 : MV RX5 58 yX5_firstWithOneUnknown cX5_firstWithOneUnknown 4 (some Jvm.ClassFile.FieldType.int) 1 5 := ⟨⟨tw_766, tw_6, tw_769, nh_X5.1, nh_X5.2, pm_X5_firstWithOneUnknown⟩, tw_768, TW.of (List.mem_append_left _ (List.mem_of_getElem? (i := 25) (by decide +kernel))) rfl, _, _, rfl, by decide⟩
theorem pm_X5_unknownOf : (parseMethodDescriptor yX5_unknownOf.desc).map (fun d => d.parameters.length) = some 2 := by decide +kernel
theorem mv_X5_54 : MV RX5 54 yX5_unknownOf cX5_unknownOf 3 (some Jvm.ClassFile.FieldType.int) 2 5 := ⟨⟨tw_770, tw_6, tw_773, nh_X5.1, nh_X5.2, pm_X5_unknownOf⟩, tw_772, TW.of (List.mem_append_left _ (List.mem_of_getElem? (i := 26) (by decide +kernel))) rfl, _, _, rfl, by decide⟩
theorem pm_X11_lowestPlace : (parseMethodDescriptor yX11_lowestPlace.desc).map (fun d => d.parameters.length) = some 1 := by decide +kernel
theorem mz_X5_62 : MSN RX5 62 yX11_lowestPlace cX11_lowestPlace 1 (some Jvm.ClassFile.FieldType.int) 1 "ThousandLeaflets" := ⟨⟨tw_775, tw_1, tw_777, nh_X11.1, nh_X11.2, pm_X11_lowestPlace⟩, tw_776⟩
theorem pm_X5_restOf : (parseMethodDescriptor yX5_restOf.desc).map (fun d => d.parameters.length) = some 2 := by decide +kernel
theorem mv_X5_65 : MV RX5 65 yX5_restOf cX5_restOf 6 (some Jvm.ClassFile.FieldType.int) 2 5 := ⟨⟨tw_778, tw_6, tw_781, nh_X5.1, nh_X5.2, pm_X5_restOf⟩, tw_780, TW.of (List.mem_append_left _ (List.mem_of_getElem? (i := 27) (by decide +kernel))) rfl, _, _, rfl, by decide⟩
theorem pm_X5_quarrels : (parseMethodDescriptor yX5_quarrels.desc).map (fun d => d.parameters.length) = some 1 := by decide +kernel
theorem mv_X11_224 : MV RX11 224 yX5_quarrels cX5_quarrels 4 (some Jvm.ClassFile.FieldType.int) 1 5 := ⟨⟨tw_782, tw_6, tw_785, nh_X5.1, nh_X5.2, pm_X5_quarrels⟩, tw_783, tw_784, _, _, rfl, by decide⟩
theorem pm_X5_work : (parseMethodDescriptor yX5_work.desc).map (fun d => d.parameters.length) = some 1 := by decide +kernel
theorem mv_X11_227 : MV RX11 227 yX5_work cX5_work 4 (some Jvm.ClassFile.FieldType.int) 1 5 := ⟨⟨tw_786, tw_6, tw_789, nh_X5.1, nh_X5.2, pm_X5_work⟩, tw_787, tw_788, _, _, rfl, by decide⟩
theorem ms_X5_68 : MS RX5 68 yJ6_bitCount_0f7a4 cJ6_bitCount_0f7a4 1 (some Jvm.ClassFile.FieldType.int) 1 := ⟨⟨tw_790, tw_18, tw_620, nh_J6.1, nh_J6.2, pm_J6_bitCount_0f7a4⟩, tw_619⟩
theorem pm_X5_left : (parseMethodDescriptor yX5_left.desc).map (fun d => d.parameters.length) = some 1 := by decide +kernel
theorem mv_X11_230 : MV RX11 230 yX5_left cX5_left 5 (some Jvm.ClassFile.FieldType.int) 1 5 := ⟨⟨tw_791, tw_6, tw_794, nh_X5.1, nh_X5.2, pm_X5_left⟩, tw_792, tw_793, _, _, rfl, by decide⟩
theorem pm_X11_solves : (parseMethodDescriptor yX11_solves.desc).map (fun d => d.parameters.length) = some 4 := by decide +kernel
theorem mv_L_86 : MV RL 86 yX11_solves cX11_solves 7 (some Jvm.ClassFile.FieldType.int) 4 11 := ⟨⟨tw_795, tw_1, tw_798, nh_X11.1, nh_X11.2, pm_X11_solves⟩, tw_796, tw_797, _, _, rfl, by decide⟩
theorem pm_X0_take : (parseMethodDescriptor yX0_take.desc).map (fun d => d.parameters.length) = some 2 := by decide +kernel
theorem mv_X11_236 : MV RX11 236 yX0_take cX0_take 4 none 2 0 := ⟨⟨tw_799, tw_7, tw_802, nh_X0.1, nh_X0.2, pm_X0_take⟩, tw_800, tw_801, _, _, rfl, by decide⟩
theorem pm_X0_add : (parseMethodDescriptor yX0_add.desc).map (fun d => d.parameters.length) = some 1 := by decide +kernel
theorem mv_X0_32 : MV RX0 32 yX0_add cX0_add 4 none 1 0 := ⟨⟨tw_803, tw_7, tw_806, nh_X0.1, nh_X0.2, pm_X0_add⟩, tw_804, tw_805, _, _, rfl, by decide⟩
theorem pm_X0_reduce : (parseMethodDescriptor yX0_reduce.desc).map (fun d => d.parameters.length) = some 1 := by decide +kernel
theorem mv_X0_36 : MV RX0 36 yX0_reduce cX0_reduce 4 (some Jvm.ClassFile.FieldType.int) 1 0 := ⟨⟨tw_807, tw_7, tw_810, nh_X0.1, nh_X0.2, pm_X0_reduce⟩, tw_809, TW.of (List.mem_append_left _ (List.mem_of_getElem? (i := 28) (by decide +kernel))) rfl, _, _, rfl, by decide⟩
theorem pm_X0_fixedPages : (parseMethodDescriptor yX0_fixedPages.desc).map (fun d => d.parameters.length) = some 1 := by decide +kernel
theorem mv_X11_240 : MV RX11 240 yX0_fixedPages cX0_fixedPages 4 (some Jvm.ClassFile.FieldType.int) 1 0 := ⟨⟨tw_812, tw_7, tw_815, nh_X0.1, nh_X0.2, pm_X0_fixedPages⟩, tw_813, tw_814, _, _, rfl, by decide⟩
theorem pm_X0_octetOf : (parseMethodDescriptor yX0_octetOf.desc).map (fun d => d.parameters.length) = some 1 := by decide +kernel
theorem mv_X0_41 : MV RX0 41 yX0_octetOf cX0_octetOf 3 (some Jvm.ClassFile.FieldType.int) 1 0 := ⟨⟨tw_816, tw_7, tw_819, nh_X0.1, nh_X0.2, pm_X0_octetOf⟩, tw_817, tw_818, _, _, rfl, by decide⟩
theorem pm_X11_read : (parseMethodDescriptor yX11_read.desc).map (fun d => d.parameters.length) = some 4 := by decide +kernel
theorem mv_L_90 : MV RL 90 yX11_read cX11_read 7 (some Jvm.ClassFile.FieldType.int) 4 11 := ⟨⟨tw_820, tw_1, tw_823, nh_X11.1, nh_X11.2, pm_X11_read⟩, tw_821, tw_822, _, _, rfl, by decide⟩
theorem pm_X11_isHow : (parseMethodDescriptor yX11_isHow.desc).map (fun d => d.parameters.length) = some 1 := by decide +kernel
theorem ms_X11_249 : MS RX11 249 yX11_isHow cX11_isHow 1 (some Jvm.ClassFile.FieldType.boolean) 1 := ⟨⟨tw_824, tw_1, tw_826, nh_X11.1, nh_X11.2, pm_X11_isHow⟩, tw_825⟩
theorem pm_X11_readOctet : (parseMethodDescriptor yX11_readOctet.desc).map (fun d => d.parameters.length) = some 5 := by decide +kernel
theorem mv_X11_252 : MV RX11 252 yX11_readOctet cX11_readOctet 8 (some Jvm.ClassFile.FieldType.int) 5 11 := ⟨⟨tw_827, tw_1, tw_830, nh_X11.1, nh_X11.2, pm_X11_readOctet⟩, tw_829, TW.of (List.mem_append_left _ (List.mem_of_getElem? (i := 29) (by decide +kernel))) rfl, _, _, rfl, by decide⟩
theorem mv_X11_272 : MV RX11 272 yX0_octetOf cX0_octetOf 3 (some Jvm.ClassFile.FieldType.int) 1 0 := ⟨⟨tw_831, tw_7, tw_819, nh_X0.1, nh_X0.2, pm_X0_octetOf⟩, tw_817, tw_818, _, _, rfl, by decide⟩
theorem pm_X11_soon : (parseMethodDescriptor yX11_soon.desc).map (fun d => d.parameters.length) = some 4 := by decide +kernel
theorem mv_L_94 : MV RL 94 yX11_soon cX11_soon 5 (some Jvm.ClassFile.FieldType.int) 4 11 := ⟨⟨tw_832, tw_1, tw_835, nh_X11.1, nh_X11.2, pm_X11_soon⟩, tw_833, tw_834, _, _, rfl, by decide⟩
theorem pm_X11_soonPeeled : (parseMethodDescriptor yX11_soonPeeled.desc).map (fun d => d.parameters.length) = some 3 := by decide +kernel
theorem mv_X11_256 : MV RX11 256 yX11_soonPeeled cX11_soonPeeled 9 (some Jvm.ClassFile.FieldType.int) 3 11 := ⟨⟨tw_836, tw_1, tw_839, nh_X11.1, nh_X11.2, pm_X11_soonPeeled⟩, tw_838, TW.of (List.mem_append_left _ (List.mem_of_getElem? (i := 30) (by decide +kernel))) rfl, _, _, rfl, by decide⟩
theorem pm_X11_spreadWith : (parseMethodDescriptor yX11_spreadWith.desc).map (fun d => d.parameters.length) = some 4 := by decide +kernel
theorem mv_X11_385 : MV RX11 385 yX11_spreadWith cX11_spreadWith 5 (some Jvm.ClassFile.FieldType.int) 4 11 := ⟨⟨tw_840, tw_1, tw_843, nh_X11.1, nh_X11.2, pm_X11_spreadWith⟩, tw_842, TW.of (List.mem_append_left _ (List.mem_of_getElem? (i := 31) (by decide +kernel))) rfl, _, _, rfl, by decide⟩
theorem pm_X5_spread : (parseMethodDescriptor yX5_spread.desc).map (fun d => d.parameters.length) = some 1 := by decide +kernel
theorem mv_X11_389 : MV RX11 389 yX5_spread cX5_spread 7 (some Jvm.ClassFile.FieldType.int) 1 5 := ⟨⟨tw_844, tw_6, tw_847, nh_X5.1, nh_X5.2, pm_X5_spread⟩, tw_845, tw_846, _, _, rfl, by decide⟩
theorem pm_X11_soonSolved : (parseMethodDescriptor yX11_soonSolved.desc).map (fun d => d.parameters.length) = some 3 := by decide +kernel
theorem mv_X11_260 : MV RX11 260 yX11_soonSolved cX11_soonSolved 8 (some Jvm.ClassFile.FieldType.int) 3 11 := ⟨⟨tw_848, tw_1, tw_851, nh_X11.1, nh_X11.2, pm_X11_soonSolved⟩, tw_850, TW.of (List.mem_append_left _ (List.mem_of_getElem? (i := 32) (by decide +kernel))) rfl, _, _, rfl, by decide⟩
theorem mv_X11_392 : MV RX11 392 yX0_add cX0_add 4 none 1 0 := ⟨⟨tw_852, tw_7, tw_806, nh_X0.1, nh_X0.2, pm_X0_add⟩, tw_804, tw_805, _, _, rfl, by decide⟩
theorem pm_X11_slipped : (parseMethodDescriptor yX11_slipped.desc).map (fun d => d.parameters.length) = some 4 := by decide +kernel
theorem mv_L_98 : MV RL 98 yX11_slipped cX11_slipped 10 (some Jvm.ClassFile.FieldType.int) 4 11 := ⟨⟨tw_853, tw_1, tw_856, nh_X11.1, nh_X11.2, pm_X11_slipped⟩, tw_854, tw_855, _, _, rfl, by decide⟩
theorem pm_X11_right : (parseMethodDescriptor yX11_right.desc).map (fun d => d.parameters.length) = some 4 := by decide +kernel
theorem mv_L_102 : MV RL 102 yX11_right cX11_right 10 (some Jvm.ClassFile.FieldType.int) 4 11 := ⟨⟨tw_857, tw_1, tw_860, nh_X11.1, nh_X11.2, pm_X11_right⟩, tw_858, tw_859, _, _, rfl, by decide⟩
theorem pm_X11_doubles : (parseMethodDescriptor yX11_doubles.desc).map (fun d => d.parameters.length) = some 3 := by decide +kernel
theorem mv_L_106 : MV RL 106 yX11_doubles cX11_doubles 9 (some Jvm.ClassFile.FieldType.int) 3 11 := ⟨⟨tw_861, tw_1, tw_864, nh_X11.1, nh_X11.2, pm_X11_doubles⟩, tw_862, tw_863, _, _, rfl, by decide⟩
theorem pm_X11_guard : (parseMethodDescriptor yX11_guard.desc).map (fun d => d.parameters.length) = some 4 := by decide +kernel
theorem mv_L_110 : MV RL 110 yX11_guard cX11_guard 8 (some Jvm.ClassFile.FieldType.int) 4 11 := ⟨⟨tw_865, tw_1, tw_868, nh_X11.1, nh_X11.2, pm_X11_guard⟩, tw_866, tw_867, _, _, rfl, by decide⟩
theorem pm_X5_fewestGuarding : (parseMethodDescriptor yX5_fewestGuarding.desc).map (fun d => d.parameters.length) = some 2 := by decide +kernel
theorem mv_X11_275 : MV RX11 275 yX5_fewestGuarding cX5_fewestGuarding 9 (some Jvm.ClassFile.FieldType.int) 2 5 := ⟨⟨tw_869, tw_6, tw_872, nh_X5.1, nh_X5.2, pm_X5_fewestGuarding⟩, tw_870, tw_871, _, _, rfl, by decide⟩
theorem pm_X5_touchPapers : (parseMethodDescriptor yX5_touchPapers.desc).map (fun d => d.parameters.length) = some 1 := by decide +kernel
theorem mv_X5_73 : MV RX5 73 yX5_touchPapers cX5_touchPapers 5 none 1 5 := ⟨⟨tw_873, tw_6, tw_876, nh_X5.1, nh_X5.2, pm_X5_touchPapers⟩, tw_875, TW.of (List.mem_append_left _ (List.mem_of_getElem? (i := 33) (by decide +kernel))) rfl, _, _, rfl, by decide⟩
theorem mv_X5_77 : MV RX5 77 yX1_withoutHidden cX1_withoutHidden 4 (some Jvm.ClassFile.FieldType.int) 1 1 := ⟨⟨tw_877, tw_10, tw_613, nh_X1.1, nh_X1.2, pm_X1_withoutHidden⟩, tw_611, tw_612, _, _, rfl, by decide⟩
theorem pm_X5_fewestTouched : (parseMethodDescriptor yX5_fewestTouched.desc).map (fun d => d.parameters.length) = some 2 := by decide +kernel
theorem mv_X5_80 : MV RX5 80 yX5_fewestTouched cX5_fewestTouched 8 (some Jvm.ClassFile.FieldType.int) 2 5 := ⟨⟨tw_878, tw_6, tw_881, nh_X5.1, nh_X5.2, pm_X5_fewestTouched⟩, tw_880, TW.of (List.mem_append_left _ (List.mem_of_getElem? (i := 34) (by decide +kernel))) rfl, _, _, rfl, by decide⟩
theorem pm_J13_bitCount_95d88 : (parseMethodDescriptor yJ13_bitCount_95d88.desc).map (fun d => d.parameters.length) = some 1 := by decide +kernel
theorem nh_J13 : RJ13 ≠ "java/lang/invoke/MethodHandle" ∧ RJ13 ≠ "java/lang/invoke/VarHandle" := ⟨by decide +kernel, by decide +kernel⟩
theorem ms_X5_84 : MS RX5 84 yJ13_bitCount_95d88 cJ13_bitCount_95d88 2 (some Jvm.ClassFile.FieldType.int) 1 := ⟨⟨tw_882, tw_24, tw_884, nh_J13.1, nh_J13.2, pm_J13_bitCount_95d88⟩, tw_883⟩
theorem pm_J9_min_7cf53 : (parseMethodDescriptor yJ9_min_7cf53.desc).map (fun d => d.parameters.length) = some 2 := by decide +kernel
theorem nh_J9 : RJ9 ≠ "java/lang/invoke/MethodHandle" ∧ RJ9 ≠ "java/lang/invoke/VarHandle" := ⟨by decide +kernel, by decide +kernel⟩
theorem ms_X5_89 : MS RX5 89 yJ9_min_7cf53 cJ9_min_7cf53 2 (some Jvm.ClassFile.FieldType.int) 2 := ⟨⟨tw_888, tw_25, tw_890, nh_J9.1, nh_J9.2, pm_J9_min_7cf53⟩, tw_889⟩
theorem pm_X11_tocome : (parseMethodDescriptor yX11_tocome.desc).map (fun d => d.parameters.length) = some 3 := by decide +kernel
theorem mv_L_114 : MV RL 114 yX11_tocome cX11_tocome 6 (some Jvm.ClassFile.FieldType.int) 3 11 := ⟨⟨tw_891, tw_1, tw_894, nh_X11.1, nh_X11.2, pm_X11_tocome⟩, tw_892, tw_893, _, _, rfl, by decide⟩
theorem pm_X2_find : (parseMethodDescriptor yX2_find.desc).map (fun d => d.parameters.length) = some 3 := by decide +kernel
theorem mv_X11_279 : MV RX11 279 yX2_find cX2_find 7 (some Jvm.ClassFile.FieldType.boolean) 3 2 := ⟨⟨tw_895, tw_8, tw_898, nh_X2.1, nh_X2.2, pm_X2_find⟩, tw_896, tw_897, _, _, rfl, by decide⟩
theorem mv_X2_28 : MV RX2 28 yX0_take cX0_take 4 none 2 0 := ⟨⟨tw_899, tw_7, tw_802, nh_X0.1, nh_X0.2, pm_X0_take⟩, tw_800, tw_801, _, _, rfl, by decide⟩
theorem mv_X2_36 : MV RX2 36 yX1_all cX1_all 1 (some Jvm.ClassFile.FieldType.int) 0 1 := ⟨⟨tw_900, tw_10, tw_579, nh_X1.1, nh_X1.2, pm_X1_all⟩, tw_577, tw_578, _, _, rfl, by decide⟩
theorem mv_X2_51 : MV RX2 51 yX1_pagesOf cX1_pagesOf 2 (some Jvm.ClassFile.FieldType.int) 1 1 := ⟨⟨tw_901, tw_10, tw_570, nh_X1.1, nh_X1.2, pm_X1_pagesOf⟩, tw_568, tw_569, _, _, rfl, by decide⟩
theorem mv_X2_55 : MV RX2 55 yX1_sumOf cX1_sumOf 5 (some Jvm.ClassFile.FieldType.int) 1 1 := ⟨⟨tw_902, tw_10, tw_609, nh_X1.1, nh_X1.2, pm_X1_sumOf⟩, tw_607, tw_608, _, _, rfl, by decide⟩
theorem pm_X2_seek : (parseMethodDescriptor yX2_seek.desc).map (fun d => d.parameters.length) = some 3 := by decide +kernel
theorem mv_X2_58 : MV RX2 58 yX2_seek cX2_seek 7 none 3 2 := ⟨⟨tw_903, tw_8, tw_906, nh_X2.1, nh_X2.2, pm_X2_seek⟩, tw_905, TW.of (List.mem_append_left _ (List.mem_of_getElem? (i := 35) (by decide +kernel))) rfl, _, _, rfl, by decide⟩
theorem ms_X2_65 : MS RX2 65 yJ9_min_7cf53 cJ9_min_7cf53 2 (some Jvm.ClassFile.FieldType.int) 2 := ⟨⟨tw_907, tw_25, tw_890, nh_J9.1, nh_J9.2, pm_J9_min_7cf53⟩, tw_889⟩
theorem mv_X2_71 : MV RX2 71 yX0_add cX0_add 4 none 1 0 := ⟨⟨tw_908, tw_7, tw_806, nh_X0.1, nh_X0.2, pm_X0_add⟩, tw_804, tw_805, _, _, rfl, by decide⟩
theorem pm_X0_cut : (parseMethodDescriptor yX0_cut.desc).map (fun d => d.parameters.length) = some 1 := by decide +kernel
theorem mv_X2_75 : MV RX2 75 yX0_cut cX0_cut 2 none 1 0 := ⟨⟨tw_909, tw_7, tw_912, nh_X0.1, nh_X0.2, pm_X0_cut⟩, tw_910, tw_911, _, _, rfl, by decide⟩
theorem pm_X11_chances : (parseMethodDescriptor yX11_chances.desc).map (fun d => d.parameters.length) = some 4 := by decide +kernel
theorem mv_L_118 : MV RL 118 yX11_chances cX11_chances 5 (some Jvm.ClassFile.FieldType.int) 4 11 := ⟨⟨tw_913, tw_1, tw_916, nh_X11.1, nh_X11.2, pm_X11_chances⟩, tw_914, tw_915, _, _, rfl, by decide⟩
theorem pm_X11_isSetSize : (parseMethodDescriptor yX11_isSetSize.desc).map (fun d => d.parameters.length) = some 2 := by decide +kernel
theorem ms_X11_289 : MS RX11 289 yX11_isSetSize cX11_isSetSize 2 (some Jvm.ClassFile.FieldType.boolean) 2 := ⟨⟨tw_917, tw_1, tw_919, nh_X11.1, nh_X11.2, pm_X11_isSetSize⟩, tw_918⟩
theorem pm_X8_tally : (parseMethodDescriptor yX8_tally.desc).map (fun d => d.parameters.length) = some 4 := by decide +kernel
theorem mv_X11_292 : MV RX11 292 yX8_tally cX8_tally 6 none 4 8 := ⟨⟨tw_920, tw_5, tw_923, nh_X8.1, nh_X8.2, pm_X8_tally⟩, tw_921, tw_922, _, _, rfl, by decide⟩
theorem ms_X8_32 : MS RX8 32 yJ9_min_7cf53 cJ9_min_7cf53 2 (some Jvm.ClassFile.FieldType.int) 2 := ⟨⟨tw_924, tw_25, tw_890, nh_J9.1, nh_J9.2, pm_J9_min_7cf53⟩, tw_889⟩
theorem mv_X8_45 : MV RX8 45 yX1_all cX1_all 1 (some Jvm.ClassFile.FieldType.int) 0 1 := ⟨⟨tw_925, tw_10, tw_579, nh_X1.1, nh_X1.2, pm_X1_all⟩, tw_577, tw_578, _, _, rfl, by decide⟩
theorem pm_X1_allBits : (parseMethodDescriptor yX1_allBits.desc).map (fun d => d.parameters.length) = some 0 := by decide +kernel
theorem mv_X8_53 : MV RX8 53 yX1_allBits cX1_allBits 1 (some Jvm.ClassFile.FieldType.int) 0 1 := ⟨⟨tw_926, tw_10, tw_929, nh_X1.1, nh_X1.2, pm_X1_allBits⟩, tw_927, tw_928, _, _, rfl, by decide⟩
theorem mv_X8_58 : MV RX8 58 yX1_drawPages cX1_drawPages 9 (some Jvm.ClassFile.FieldType.int) 2 1 := ⟨⟨tw_930, tw_10, tw_574, nh_X1.1, nh_X1.2, pm_X1_drawPages⟩, tw_572, tw_573, _, _, rfl, by decide⟩
theorem mv_X8_61 : MV RX8 61 yX1_pagesOf cX1_pagesOf 2 (some Jvm.ClassFile.FieldType.int) 1 1 := ⟨⟨tw_931, tw_10, tw_570, nh_X1.1, nh_X1.2, pm_X1_pagesOf⟩, tw_568, tw_569, _, _, rfl, by decide⟩
theorem mv_X8_65 : MV RX8 65 yX5_startWith cX5_startWith 3 none 1 5 := ⟨⟨tw_932, tw_6, tw_744, nh_X5.1, nh_X5.2, pm_X5_startWith⟩, tw_742, tw_743, _, _, rfl, by decide⟩
theorem mv_X8_69 : MV RX8 69 yX0_take cX0_take 4 none 2 0 := ⟨⟨tw_933, tw_7, tw_802, nh_X0.1, nh_X0.2, pm_X0_take⟩, tw_800, tw_801, _, _, rfl, by decide⟩
theorem pm_X8_walk : (parseMethodDescriptor yX8_walk.desc).map (fun d => d.parameters.length) = some 3 := by decide +kernel
theorem mv_X8_73 : MV RX8 73 yX8_walk cX8_walk 6 none 3 8 := ⟨⟨tw_934, tw_5, tw_937, nh_X8.1, nh_X8.2, pm_X8_walk⟩, tw_936, TW.of (List.mem_append_left _ (List.mem_of_getElem? (i := 36) (by decide +kernel))) rfl, _, _, rfl, by decide⟩
theorem pm_X8_addAllWith : (parseMethodDescriptor yX8_addAllWith.desc).map (fun d => d.parameters.length) = some 2 := by decide +kernel
theorem mv_X8_80 : MV RX8 80 yX8_addAllWith cX8_addAllWith 4 none 2 8 := ⟨⟨tw_938, tw_5, tw_941, nh_X8.1, nh_X8.2, pm_X8_addAllWith⟩, tw_940, TW.of (List.mem_append_left _ (List.mem_of_getElem? (i := 37) (by decide +kernel))) rfl, _, _, rfl, by decide⟩
theorem pm_X11_choose : (parseMethodDescriptor yX11_choose.desc).map (fun d => d.parameters.length) = some 2 := by decide +kernel
theorem mz_X8_100 : MSN RX8 100 yX11_choose cX11_choose 4 (some Jvm.ClassFile.FieldType.int) 2 "ThousandLeaflets" := ⟨⟨tw_942, tw_1, tw_944, nh_X11.1, nh_X11.2, pm_X11_choose⟩, tw_943⟩
theorem mv_X8_87 : MV RX8 87 yX0_add cX0_add 4 none 1 0 := ⟨⟨tw_945, tw_7, tw_806, nh_X0.1, nh_X0.2, pm_X0_add⟩, tw_804, tw_805, _, _, rfl, by decide⟩
theorem mv_X8_91 : MV RX8 91 yX5_add cX5_add 3 none 2 5 := ⟨⟨tw_946, tw_6, tw_748, nh_X5.1, nh_X5.2, pm_X5_add⟩, tw_746, tw_747, _, _, rfl, by decide⟩
theorem mv_X8_93 : MV RX8 93 yX5_spread cX5_spread 7 (some Jvm.ClassFile.FieldType.int) 1 5 := ⟨⟨tw_947, tw_6, tw_847, nh_X5.1, nh_X5.2, pm_X5_spread⟩, tw_845, tw_846, _, _, rfl, by decide⟩
theorem mv_X8_96 : MV RX8 96 yX0_cut cX0_cut 2 none 1 0 := ⟨⟨tw_948, tw_7, tw_912, nh_X0.1, nh_X0.2, pm_X0_cut⟩, tw_910, tw_911, _, _, rfl, by decide⟩
theorem pm_X5_cut : (parseMethodDescriptor yX5_cut.desc).map (fun d => d.parameters.length) = some 1 := by decide +kernel
theorem mv_X8_99 : MV RX8 99 yX5_cut cX5_cut 2 none 1 5 := ⟨⟨tw_949, tw_6, tw_952, nh_X5.1, nh_X5.2, pm_X5_cut⟩, tw_950, tw_951, _, _, rfl, by decide⟩
theorem pm_X11_enough : (parseMethodDescriptor yX11_enough.desc).map (fun d => d.parameters.length) = some 4 := by decide +kernel
theorem mv_L_122 : MV RL 122 yX11_enough cX11_enough 8 (some Jvm.ClassFile.FieldType.int) 4 11 := ⟨⟨tw_953, tw_1, tw_956, nh_X11.1, nh_X11.2, pm_X11_enough⟩, tw_954, tw_955, _, _, rfl, by decide⟩
theorem ms_X11_299 : MS RX11 299 yX11_choose cX11_choose 4 (some Jvm.ClassFile.FieldType.int) 2 := ⟨⟨tw_957, tw_1, tw_944, nh_X11.1, nh_X11.2, pm_X11_choose⟩, tw_943⟩
theorem pm_X11_average : (parseMethodDescriptor yX11_average.desc).map (fun d => d.parameters.length) = some 4 := by decide +kernel
theorem mv_L_127 : MV RL 127 yX11_average cX11_average 14 (some Jvm.ClassFile.FieldType.long) 4 11 := ⟨⟨tw_958, tw_1, tw_961, nh_X11.1, nh_X11.2, pm_X11_average⟩, tw_959, tw_960, _, _, rfl, by decide⟩
theorem pm_X11_commonDivisor : (parseMethodDescriptor yX11_commonDivisor.desc).map (fun d => d.parameters.length) = some 2 := by decide +kernel
theorem ms_X11_304 : MS RX11 304 yX11_commonDivisor cX11_commonDivisor 11 (some Jvm.ClassFile.FieldType.long) 2 := ⟨⟨tw_963, tw_1, tw_965, nh_X11.1, nh_X11.2, pm_X11_commonDivisor⟩, tw_964⟩
theorem pm_X11_degree : (parseMethodDescriptor yX11_degree.desc).map (fun d => d.parameters.length) = some 4 := by decide +kernel
theorem mv_L_132 : MV RL 132 yX11_degree cX11_degree 10 (some Jvm.ClassFile.FieldType.int) 4 11 := ⟨⟨tw_966, tw_1, tw_969, nh_X11.1, nh_X11.2, pm_X11_degree⟩, tw_967, tw_968, _, _, rfl, by decide⟩
theorem pm_X11_apart : (parseMethodDescriptor yX11_apart.desc).map (fun d => d.parameters.length) = some 2 := by decide +kernel
theorem mv_L_136 : MV RL 136 yX11_apart cX11_apart 6 (some Jvm.ClassFile.FieldType.int) 2 11 := ⟨⟨tw_970, tw_1, tw_973, nh_X11.1, nh_X11.2, pm_X11_apart⟩, tw_971, tw_972, _, _, rfl, by decide⟩
theorem pm_X10_basisOf : (parseMethodDescriptor yX10_basisOf.desc).map (fun d => d.parameters.length) = some 2 := by decide +kernel
theorem mv_X11_308 : MV RX11 308 yX10_basisOf cX10_basisOf 3 (some (Jvm.ClassFile.FieldType.object "ThousandLeaflets$Basis")) 2 10 := ⟨⟨tw_974, tw_9, tw_977, nh_X10.1, nh_X10.2, pm_X10_basisOf⟩, tw_975, tw_976, _, _, rfl, by decide⟩
theorem pm_X10_findAll : (parseMethodDescriptor yX10_findAll.desc).map (fun d => d.parameters.length) = some 1 := by decide +kernel
theorem mv_X11_312 : MV RX11 312 yX10_findAll cX10_findAll 4 none 1 10 := ⟨⟨tw_978, tw_9, tw_981, nh_X10.1, nh_X10.2, pm_X10_findAll⟩, tw_979, tw_980, _, _, rfl, by decide⟩
theorem mv_X10_41 : MV RX10 41 yX6_at cX6_at 2 (some (Jvm.ClassFile.FieldType.object "ThousandLeaflets$Paper")) 1 6 := ⟨⟨tw_982, tw_11, tw_725, nh_X6.1, nh_X6.2, pm_X6_at⟩, tw_723, tw_724, _, _, rfl, by decide⟩
theorem pm_X10_allAgree : (parseMethodDescriptor yX10_allAgree.desc).map (fun d => d.parameters.length) = some 0 := by decide +kernel
theorem mv_X10_48 : MV RX10 48 yX10_allAgree cX10_allAgree 2 (some Jvm.ClassFile.FieldType.boolean) 0 10 := ⟨⟨tw_983, tw_9, tw_986, nh_X10.1, nh_X10.2, pm_X10_allAgree⟩, tw_985, TW.of (List.mem_append_left _ (List.mem_of_getElem? (i := 38) (by decide +kernel))) rfl, _, _, rfl, by decide⟩
theorem pm_X10_give : (parseMethodDescriptor yX10_give.desc).map (fun d => d.parameters.length) = some 2 := by decide +kernel
theorem mv_X10_52 : MV RX10 52 yX10_give cX10_give 5 none 2 10 := ⟨⟨tw_987, tw_9, tw_990, nh_X10.1, nh_X10.2, pm_X10_give⟩, tw_989, TW.of (List.mem_append_left _ (List.mem_of_getElem? (i := 39) (by decide +kernel))) rfl, _, _, rfl, by decide⟩
theorem pm_X10_tryBook : (parseMethodDescriptor yX10_tryBook.desc).map (fun d => d.parameters.length) = some 4 := by decide +kernel
theorem mv_X10_60 : MV RX10 60 yX10_tryBook cX10_tryBook 9 none 4 10 := ⟨⟨tw_991, tw_9, tw_994, nh_X10.1, nh_X10.2, pm_X10_tryBook⟩, tw_993, TW.of (List.mem_append_left _ (List.mem_of_getElem? (i := 40) (by decide +kernel))) rfl, _, _, rfl, by decide⟩
theorem mv_X10_64 : MV RX10 64 yX10_basisOf cX10_basisOf 3 (some (Jvm.ClassFile.FieldType.object "ThousandLeaflets$Basis")) 2 10 := ⟨⟨tw_995, tw_9, tw_977, nh_X10.1, nh_X10.2, pm_X10_basisOf⟩, tw_975, tw_976, _, _, rfl, by decide⟩
theorem mv_X10_71 : MV RX10 71 yX7_equation cX7_equation 3 (some Jvm.ClassFile.FieldType.int) 2 7 := ⟨⟨tw_996, tw_19, tw_756, nh_X7.1, nh_X7.2, pm_X7_equation⟩, tw_754, tw_755, _, _, rfl, by decide⟩
theorem mv_X10_75 : MV RX10 75 yX0_add cX0_add 4 none 1 0 := ⟨⟨tw_997, tw_7, tw_806, nh_X0.1, nh_X0.2, pm_X0_add⟩, tw_804, tw_805, _, _, rfl, by decide⟩
theorem mv_X10_79 : MV RX10 79 yX0_cut cX0_cut 2 none 1 0 := ⟨⟨tw_998, tw_7, tw_912, nh_X0.1, nh_X0.2, pm_X0_cut⟩, tw_910, tw_911, _, _, rfl, by decide⟩
theorem pm_X10_bookAt : (parseMethodDescriptor yX10_bookAt.desc).map (fun d => d.parameters.length) = some 1 := by decide +kernel
theorem mv_X11_316 : MV RX11 316 yX10_bookAt cX10_bookAt 5 (some Jvm.ClassFile.FieldType.int) 1 10 := ⟨⟨tw_999, tw_9, tw_1002, nh_X10.1, nh_X10.2, pm_X10_bookAt⟩, tw_1000, tw_1001, _, _, rfl, by decide⟩
theorem pm_X11_quarter : (parseMethodDescriptor yX11_quarter.desc).map (fun d => d.parameters.length) = some 3 := by decide +kernel
theorem mv_L_140 : MV RL 140 yX11_quarter cX11_quarter 4 (some Jvm.ClassFile.FieldType.boolean) 3 11 := ⟨⟨tw_1003, tw_1, tw_1006, nh_X11.1, nh_X11.2, pm_X11_quarter⟩, tw_1004, tw_1005, _, _, rfl, by decide⟩
theorem pm_X11_scatter : (parseMethodDescriptor yX11_scatter.desc).map (fun d => d.parameters.length) = some 3 := by decide +kernel
theorem mv_L_144 : MV RL 144 yX11_scatter cX11_scatter 6 (some Jvm.ClassFile.FieldType.int) 3 11 := ⟨⟨tw_1007, tw_1, tw_1010, nh_X11.1, nh_X11.2, pm_X11_scatter⟩, tw_1008, tw_1009, _, _, rfl, by decide⟩
theorem pm_X11_isRoomAnywhere : (parseMethodDescriptor yX11_isRoomAnywhere.desc).map (fun d => d.parameters.length) = some 0 := by decide +kernel
theorem mv_X11_319 : MV RX11 319 yX11_isRoomAnywhere cX11_isRoomAnywhere 2 (some Jvm.ClassFile.FieldType.boolean) 0 11 := ⟨⟨tw_1011, tw_1, tw_1014, nh_X11.1, nh_X11.2, pm_X11_isRoomAnywhere⟩, tw_1013, TW.of (List.mem_append_left _ (List.mem_of_getElem? (i := 41) (by decide +kernel))) rfl, _, _, rfl, by decide⟩
theorem pm_X11_throwOne : (parseMethodDescriptor yX11_throwOne.desc).map (fun d => d.parameters.length) = some 2 := by decide +kernel
theorem mv_X11_323 : MV RX11 323 yX11_throwOne cX11_throwOne 6 (some Jvm.ClassFile.FieldType.int) 2 11 := ⟨⟨tw_1015, tw_1, tw_1018, nh_X11.1, nh_X11.2, pm_X11_throwOne⟩, tw_1017, TW.of (List.mem_append_left _ (List.mem_of_getElem? (i := 42) (by decide +kernel))) rfl, _, _, rfl, by decide⟩
theorem pm_X11_falls : (parseMethodDescriptor yX11_falls.desc).map (fun d => d.parameters.length) = some 3 := by decide +kernel
theorem mv_X11_397 : MV RX11 397 yX11_falls cX11_falls 4 (some Jvm.ClassFile.FieldType.boolean) 3 11 := ⟨⟨tw_1019, tw_1, tw_1022, nh_X11.1, nh_X11.2, pm_X11_falls⟩, tw_1021, TW.of (List.mem_append_left _ (List.mem_of_getElem? (i := 43) (by decide +kernel))) rfl, _, _, rfl, by decide⟩
theorem pm_X6_hasAlike : (parseMethodDescriptor yX6_hasAlike.desc).map (fun d => d.parameters.length) = some 1 := by decide +kernel
theorem mv_X11_341 : MV RX11 341 yX6_hasAlike cX6_hasAlike 4 (some Jvm.ClassFile.FieldType.boolean) 1 6 := ⟨⟨tw_1023, tw_11, tw_1026, nh_X6.1, nh_X6.2, pm_X6_hasAlike⟩, tw_1024, tw_1025, _, _, rfl, by decide⟩
theorem pm_X7_isAlike : (parseMethodDescriptor yX7_isAlike.desc).map (fun d => d.parameters.length) = some 1 := by decide +kernel
theorem mv_X6_28 : MV RX6 28 yX7_isAlike cX7_isAlike 2 (some Jvm.ClassFile.FieldType.boolean) 1 7 := ⟨⟨tw_1027, tw_19, tw_1030, nh_X7.1, nh_X7.2, pm_X7_isAlike⟩, tw_1028, tw_1029, _, _, rfl, by decide⟩
theorem pm_X11_needs : (parseMethodDescriptor yX11_needs.desc).map (fun d => d.parameters.length) = some 2 := by decide +kernel
theorem mv_L_148 : MV RL 148 yX11_needs cX11_needs 3 (some Jvm.ClassFile.FieldType.int) 2 11 := ⟨⟨tw_1031, tw_1, tw_1034, nh_X11.1, nh_X11.2, pm_X11_needs⟩, tw_1032, tw_1033, _, _, rfl, by decide⟩
theorem pm_X11_neededIn : (parseMethodDescriptor yX11_neededIn.desc).map (fun d => d.parameters.length) = some 2 := by decide +kernel
theorem mv_X11_326 : MV RX11 326 yX11_neededIn cX11_neededIn 6 (some Jvm.ClassFile.FieldType.int) 2 11 := ⟨⟨tw_1035, tw_1, tw_1038, nh_X11.1, nh_X11.2, pm_X11_neededIn⟩, tw_1037, TW.of (List.mem_append_left _ (List.mem_of_getElem? (i := 44) (by decide +kernel))) rfl, _, _, rfl, by decide⟩
theorem pm_X11_town : (parseMethodDescriptor yX11_town.desc).map (fun d => d.parameters.length) = some 2 := by decide +kernel
theorem mv_L_152 : MV RL 152 yX11_town cX11_town 5 (some Jvm.ClassFile.FieldType.int) 2 11 := ⟨⟨tw_1039, tw_1, tw_1042, nh_X11.1, nh_X11.2, pm_X11_town⟩, tw_1040, tw_1041, _, _, rfl, by decide⟩
theorem pm_X11_allHouses : (parseMethodDescriptor yX11_allHouses.desc).map (fun d => d.parameters.length) = some 0 := by decide +kernel
theorem mv_X11_330 : MV RX11 330 yX11_allHouses cX11_allHouses 3 (some Jvm.ClassFile.FieldType.int) 0 11 := ⟨⟨tw_1043, tw_1, tw_1046, nh_X11.1, nh_X11.2, pm_X11_allHouses⟩, tw_1045, TW.of (List.mem_append_left _ (List.mem_of_getElem? (i := 45) (by decide +kernel))) rfl, _, _, rfl, by decide⟩
theorem pm_X11_housesServed : (parseMethodDescriptor yX11_housesServed.desc).map (fun d => d.parameters.length) = some 1 := by decide +kernel
theorem mv_X11_333 : MV RX11 333 yX11_housesServed cX11_housesServed 4 (some Jvm.ClassFile.FieldType.int) 1 11 := ⟨⟨tw_1047, tw_1, tw_1050, nh_X11.1, nh_X11.2, pm_X11_housesServed⟩, tw_1049, TW.of (List.mem_append_left _ (List.mem_of_getElem? (i := 46) (by decide +kernel))) rfl, _, _, rfl, by decide⟩
theorem pm_X11_swap : (parseMethodDescriptor yX11_swap.desc).map (fun d => d.parameters.length) = some 3 := by decide +kernel
theorem mv_L_156 : MV RL 156 yX11_swap cX11_swap 9 (some Jvm.ClassFile.FieldType.int) 3 11 := ⟨⟨tw_1051, tw_1, tw_1054, nh_X11.1, nh_X11.2, pm_X11_swap⟩, tw_1052, tw_1053, _, _, rfl, by decide⟩
theorem pm_X11_mark : (parseMethodDescriptor yX11_mark.desc).map (fun d => d.parameters.length) = some 2 := by decide +kernel
theorem mv_L_160 : MV RL 160 yX11_mark cX11_mark 5 (some Jvm.ClassFile.FieldType.boolean) 2 11 := ⟨⟨tw_1055, tw_1, tw_1058, nh_X11.1, nh_X11.2, pm_X11_mark⟩, tw_1056, tw_1057, _, _, rfl, by decide⟩
theorem pm_X6_copy : (parseMethodDescriptor yX6_copy.desc).map (fun d => d.parameters.length) = some 1 := by decide +kernel
theorem mv_X11_345 : MV RX11 345 yX6_copy cX6_copy 3 none 1 6 := ⟨⟨tw_1059, tw_11, tw_1062, nh_X6.1, nh_X6.2, pm_X6_copy⟩, tw_1060, tw_1061, _, _, rfl, by decide⟩
theorem pm_X11_count : (parseMethodDescriptor yX11_count.desc).map (fun d => d.parameters.length) = some 1 := by decide +kernel
theorem mv_L_165 : MV RL 165 yX11_count cX11_count 2 (some Jvm.ClassFile.FieldType.int) 1 11 := ⟨⟨tw_1063, tw_1, tw_1066, nh_X11.1, nh_X11.2, pm_X11_count⟩, tw_1064, tw_1065, _, _, rfl, by decide⟩
theorem pm_X11_paper : (parseMethodDescriptor yX11_paper.desc).map (fun d => d.parameters.length) = some 3 := by decide +kernel
theorem mv_L_7 : MV RL 7 yX11_paper cX11_paper 5 (some Jvm.ClassFile.FieldType.int) 3 11 := ⟨⟨tw_1071, tw_1, tw_1074, nh_X11.1, nh_X11.2, pm_X11_paper⟩, tw_1072, tw_1073, _, _, rfl, by decide⟩
theorem pm_X11_unknownPages : (parseMethodDescriptor yX11_unknownPages.desc).map (fun d => d.parameters.length) = some 2 := by decide +kernel
theorem mv_X11_206 : MV RX11 206 yX11_unknownPages cX11_unknownPages 5 (some Jvm.ClassFile.FieldType.int) 2 11 := ⟨⟨tw_1136, tw_1, tw_1139, nh_X11.1, nh_X11.2, pm_X11_unknownPages⟩, tw_1138, TW.of (List.mem_append_left _ (List.mem_of_getElem? (i := 48) (by decide +kernel))) rfl, _, _, rfl, by decide⟩
theorem mv_X11_368 : MV RX11 368 yX7_pagesBy cX7_pagesBy 2 (some Jvm.ClassFile.FieldType.int) 1 7 := ⟨⟨tw_1141, tw_19, tw_760, nh_X7.1, nh_X7.2, pm_X7_pagesBy⟩, tw_758, tw_759, _, _, rfl, by decide⟩
theorem pm_X12_thrown : (parseMethodDescriptor yX12_thrown.desc).map (fun d => d.parameters.length) = some 0 := by decide +kernel
theorem nh_X12 : RX12 ≠ "java/lang/invoke/MethodHandle" ∧ RX12 ≠ "java/lang/invoke/VarHandle" := ⟨by decide +kernel, by decide +kernel⟩
theorem mv_L_74 : MV RL 74 yX12_thrown cX12_thrown 1 (some Jvm.ClassFile.FieldType.int) 0 12 := ⟨⟨tw_1142, tw_12, tw_1145, nh_X12.1, nh_X12.2, pm_X12_thrown⟩, tw_1143, tw_1144, _, _, rfl, by decide⟩
theorem pm_X12_feed : (parseMethodDescriptor yX12_feed.desc).map (fun d => d.parameters.length) = some 3 := by decide +kernel
theorem mv_L_35 : MV RL 35 yX12_feed cX12_feed 7 (some Jvm.ClassFile.FieldType.int) 3 12 := ⟨⟨tw_1146, tw_12, tw_1149, nh_X12.1, nh_X12.2, pm_X12_feed⟩, tw_1147, tw_1148, _, _, rfl, by decide⟩
theorem pm_X12_lay : (parseMethodDescriptor yX12_lay.desc).map (fun d => d.parameters.length) = some 1 := by decide +kernel
theorem mv_X12_7 : MV RX12 7 yX12_lay cX12_lay 5 none 1 12 := ⟨⟨tw_1150, tw_12, tw_1154, nh_X12.1, nh_X12.2, pm_X12_lay⟩, tw_1152, TW.of (List.mem_append_left _ (List.mem_of_getElem? (i := 49) (by decide +kernel))) rfl, _, _, rfl, by decide⟩
theorem pm_X12_init : (parseMethodDescriptor yX12_init.desc).map (fun d => d.parameters.length) = some 0 := by decide +kernel
theorem mi_L_18 : MI RL 18 yX12_init cX12_init 2 0 := ⟨⟨tw_1156, tw_12, tw_1158, nh_X12.1, nh_X12.2, pm_X12_init⟩, tw_1157, rfl⟩
theorem oi_X12_18 : TW (.methodLink RX12 18 objectInit) := tw_1159
theorem pm_X12_book : (parseMethodDescriptor yX12_book.desc).map (fun d => d.parameters.length) = some 2 := by decide +kernel
theorem mv_L_23 : MV RL 23 yX12_book cX12_book 5 (some Jvm.ClassFile.FieldType.boolean) 2 12 := ⟨⟨tw_1309, tw_12, tw_1312, nh_X12.1, nh_X12.2, pm_X12_book⟩, tw_1310, tw_1311, _, _, rfl, by decide⟩
theorem pm_X12_within : (parseMethodDescriptor yX12_within.desc).map (fun d => d.parameters.length) = some 3 := by decide +kernel
theorem ms_X12_178 : MS RX12 178 yX12_within cX12_within 3 (some Jvm.ClassFile.FieldType.boolean) 3 := ⟨⟨tw_1313, tw_12, tw_1315, nh_X12.1, nh_X12.2, pm_X12_within⟩, tw_1314⟩
theorem pm_X12_forgetsDraw : (parseMethodDescriptor yX12_forgetsDraw.desc).map (fun d => d.parameters.length) = some 1 := by decide +kernel
theorem mv_X12_182 : MV RX12 182 yX12_forgetsDraw cX12_forgetsDraw 3 none 1 12 := ⟨⟨tw_1316, tw_12, tw_1319, nh_X12.1, nh_X12.2, pm_X12_forgetsDraw⟩, tw_1318, TW.of (List.mem_append_left _ (List.mem_of_getElem? (i := 50) (by decide +kernel))) rfl, _, _, rfl, by decide⟩
theorem pm_X12_takesOut : (parseMethodDescriptor yX12_takesOut.desc).map (fun d => d.parameters.length) = some 2 := by decide +kernel
theorem mv_X12_185 : MV RX12 185 yX12_takesOut cX12_takesOut 4 none 2 12 := ⟨⟨tw_1320, tw_12, tw_1323, nh_X12.1, nh_X12.2, pm_X12_takesOut⟩, tw_1322, TW.of (List.mem_append_left _ (List.mem_of_getElem? (i := 51) (by decide +kernel))) rfl, _, _, rfl, by decide⟩
theorem pm_X12_moves : (parseMethodDescriptor yX12_moves.desc).map (fun d => d.parameters.length) = some 2 := by decide +kernel
theorem mv_X12_274 : MV RX12 274 yX12_moves cX12_moves 3 none 2 12 := ⟨⟨tw_1324, tw_12, tw_1327, nh_X12.1, nh_X12.2, pm_X12_moves⟩, tw_1326, TW.of (List.mem_append_left _ (List.mem_of_getElem? (i := 52) (by decide +kernel))) rfl, _, _, rfl, by decide⟩
theorem pm_X12_forgetsMarks : (parseMethodDescriptor yX12_forgetsMarks.desc).map (fun d => d.parameters.length) = some 0 := by decide +kernel
theorem mv_X12_189 : MV RX12 189 yX12_forgetsMarks cX12_forgetsMarks 2 none 0 12 := ⟨⟨tw_1328, tw_12, tw_1331, nh_X12.1, nh_X12.2, pm_X12_forgetsMarks⟩, tw_1330, TW.of (List.mem_append_left _ (List.mem_of_getElem? (i := 53) (by decide +kernel))) rfl, _, _, rfl, by decide⟩
theorem pm_X12_page : (parseMethodDescriptor yX12_page.desc).map (fun d => d.parameters.length) = some 3 := by decide +kernel
theorem mv_L_28 : MV RL 28 yX12_page cX12_page 4 (some Jvm.ClassFile.FieldType.boolean) 3 12 := ⟨⟨tw_1332, tw_12, tw_1335, nh_X12.1, nh_X12.2, pm_X12_page⟩, tw_1333, tw_1334, _, _, rfl, by decide⟩
theorem pm_X12_isBook : (parseMethodDescriptor yX12_isBook.desc).map (fun d => d.parameters.length) = some 1 := by decide +kernel
theorem mv_X12_192 : MV RX12 192 yX12_isBook cX12_isBook 2 (some Jvm.ClassFile.FieldType.boolean) 1 12 := ⟨⟨tw_1336, tw_12, tw_1339, nh_X12.1, nh_X12.2, pm_X12_isBook⟩, tw_1338, TW.of (List.mem_append_left _ (List.mem_of_getElem? (i := 54) (by decide +kernel))) rfl, _, _, rfl, by decide⟩
theorem pm_X12_isOut : (parseMethodDescriptor yX12_isOut.desc).map (fun d => d.parameters.length) = some 1 := by decide +kernel
theorem mv_X12_196 : MV RX12 196 yX12_isOut cX12_isOut 5 (some Jvm.ClassFile.FieldType.boolean) 1 12 := ⟨⟨tw_1341, tw_12, tw_1344, nh_X12.1, nh_X12.2, pm_X12_isOut⟩, tw_1343, TW.of (List.mem_append_left _ (List.mem_of_getElem? (i := 55) (by decide +kernel))) rfl, _, _, rfl, by decide⟩
theorem pm_X12_draw : (parseMethodDescriptor yX12_draw.desc).map (fun d => d.parameters.length) = some 1 := by decide +kernel
theorem mv_L_40 : MV RL 40 yX12_draw cX12_draw 3 (some Jvm.ClassFile.FieldType.int) 1 12 := ⟨⟨tw_1345, tw_12, tw_1348, nh_X12.1, nh_X12.2, pm_X12_draw⟩, tw_1346, tw_1347, _, _, rfl, by decide⟩
theorem pm_X12_cutAll : (parseMethodDescriptor yX12_cutAll.desc).map (fun d => d.parameters.length) = some 0 := by decide +kernel
theorem mv_X12_199 : MV RX12 199 yX12_cutAll cX12_cutAll 7 none 0 12 := ⟨⟨tw_1349, tw_12, tw_1352, nh_X12.1, nh_X12.2, pm_X12_cutAll⟩, tw_1351, TW.of (List.mem_append_left _ (List.mem_of_getElem? (i := 56) (by decide +kernel))) rfl, _, _, rfl, by decide⟩
theorem pm_X12_isLetter : (parseMethodDescriptor yX12_isLetter.desc).map (fun d => d.parameters.length) = some 1 := by decide +kernel
theorem ms_X12_136 : MS RX12 136 yX12_isLetter cX12_isLetter 1 (some Jvm.ClassFile.FieldType.boolean) 1 := ⟨⟨tw_1353, tw_12, tw_1355, nh_X12.1, nh_X12.2, pm_X12_isLetter⟩, tw_1354⟩
theorem pm_X12_rank : (parseMethodDescriptor yX12_rank.desc).map (fun d => d.parameters.length) = some 1 := by decide +kernel
theorem ms_X12_145 : MS RX12 145 yX12_rank cX12_rank 1 (some Jvm.ClassFile.FieldType.int) 1 := ⟨⟨tw_1357, tw_12, tw_1359, nh_X12.1, nh_X12.2, pm_X12_rank⟩, tw_1358⟩
theorem pm_X12_isDigit : (parseMethodDescriptor yX12_isDigit.desc).map (fun d => d.parameters.length) = some 1 := by decide +kernel
theorem ms_X12_149 : MS RX12 149 yX12_isDigit cX12_isDigit 1 (some Jvm.ClassFile.FieldType.boolean) 1 := ⟨⟨tw_1360, tw_12, tw_1362, nh_X12.1, nh_X12.2, pm_X12_isDigit⟩, tw_1361⟩
theorem pm_X12_isSignOf : (parseMethodDescriptor yX12_isSignOf.desc).map (fun d => d.parameters.length) = some 1 := by decide +kernel
theorem ms_X12_156 : MS RX12 156 yX12_isSignOf cX12_isSignOf 1 (some Jvm.ClassFile.FieldType.boolean) 1 := ⟨⟨tw_1365, tw_12, tw_1367, nh_X12.1, nh_X12.2, pm_X12_isSignOf⟩, tw_1366⟩
theorem pm_X12_readLine : (parseMethodDescriptor yX12_readLine.desc).map (fun d => d.parameters.length) = some 0 := by decide +kernel
theorem mv_X12_205 : MV RX12 205 yX12_readLine cX12_readLine 2 none 0 12 := ⟨⟨tw_1368, tw_12, tw_1371, nh_X12.1, nh_X12.2, pm_X12_readLine⟩, tw_1370, TW.of (List.mem_append_left _ (List.mem_of_getElem? (i := 57) (by decide +kernel))) rfl, _, _, rfl, by decide⟩
theorem pm_X12_isWord : (parseMethodDescriptor yX12_isWord.desc).map (fun d => d.parameters.length) = some 1 := by decide +kernel
theorem mv_X12_172 : MV RX12 172 yX12_isWord cX12_isWord 2 (some Jvm.ClassFile.FieldType.boolean) 1 12 := ⟨⟨tw_1372, tw_12, tw_1375, nh_X12.1, nh_X12.2, pm_X12_isWord⟩, tw_1374, TW.of (List.mem_append_left _ (List.mem_of_getElem? (i := 58) (by decide +kernel))) rfl, _, _, rfl, by decide⟩
theorem pm_X12_wrong : (parseMethodDescriptor yX12_wrong.desc).map (fun d => d.parameters.length) = some 1 := by decide +kernel
theorem mv_X12_168 : MV RX12 168 yX12_wrong cX12_wrong 2 none 1 12 := ⟨⟨tw_1376, tw_12, tw_1379, nh_X12.1, nh_X12.2, pm_X12_wrong⟩, tw_1378, TW.of (List.mem_append_left _ (List.mem_of_getElem? (i := 59) (by decide +kernel))) rfl, _, _, rfl, by decide⟩
theorem pm_X12_hasWord : (parseMethodDescriptor yX12_hasWord.desc).map (fun d => d.parameters.length) = some 1 := by decide +kernel
theorem mv_X12_175 : MV RX12 175 yX12_hasWord cX12_hasWord 3 (some Jvm.ClassFile.FieldType.boolean) 1 12 := ⟨⟨tw_1380, tw_12, tw_1383, nh_X12.1, nh_X12.2, pm_X12_hasWord⟩, tw_1382, TW.of (List.mem_append_left _ (List.mem_of_getElem? (i := 60) (by decide +kernel))) rfl, _, _, rfl, by decide⟩
theorem pm_X12_readOdds : (parseMethodDescriptor yX12_readOdds.desc).map (fun d => d.parameters.length) = some 0 := by decide +kernel
theorem mv_X12_208 : MV RX12 208 yX12_readOdds cX12_readOdds 3 none 0 12 := ⟨⟨tw_1384, tw_12, tw_1387, nh_X12.1, nh_X12.2, pm_X12_readOdds⟩, tw_1386, TW.of (List.mem_append_left _ (List.mem_of_getElem? (i := 61) (by decide +kernel))) rfl, _, _, rfl, by decide⟩
theorem pm_X12_takeNumber : (parseMethodDescriptor yX12_takeNumber.desc).map (fun d => d.parameters.length) = some 2 := by decide +kernel
theorem mv_X12_211 : MV RX12 211 yX12_takeNumber cX12_takeNumber 3 (some Jvm.ClassFile.FieldType.int) 2 12 := ⟨⟨tw_1389, tw_12, tw_1392, nh_X12.1, nh_X12.2, pm_X12_takeNumber⟩, tw_1391, TW.of (List.mem_append_left _ (List.mem_of_getElem? (i := 62) (by decide +kernel))) rfl, _, _, rfl, by decide⟩
theorem pm_X12_readSum : (parseMethodDescriptor yX12_readSum.desc).map (fun d => d.parameters.length) = some 0 := by decide +kernel
theorem mv_X12_215 : MV RX12 215 yX12_readSum cX12_readSum 3 none 0 12 := ⟨⟨tw_1393, tw_12, tw_1396, nh_X12.1, nh_X12.2, pm_X12_readSum⟩, tw_1395, TW.of (List.mem_append_left _ (List.mem_of_getElem? (i := 63) (by decide +kernel))) rfl, _, _, rfl, by decide⟩
theorem pm_X12_takeSign : (parseMethodDescriptor yX12_takeSign.desc).map (fun d => d.parameters.length) = some 1 := by decide +kernel
theorem mv_X12_218 : MV RX12 218 yX12_takeSign cX12_takeSign 2 none 1 12 := ⟨⟨tw_1397, tw_12, tw_1400, nh_X12.1, nh_X12.2, pm_X12_takeSign⟩, tw_1399, TW.of (List.mem_append_left _ (List.mem_of_getElem? (i := 64) (by decide +kernel))) rfl, _, _, rfl, by decide⟩
theorem pm_X12_isSign : (parseMethodDescriptor yX12_isSign.desc).map (fun d => d.parameters.length) = some 1 := by decide +kernel
theorem mv_X12_165 : MV RX12 165 yX12_isSign cX12_isSign 2 (some Jvm.ClassFile.FieldType.boolean) 1 12 := ⟨⟨tw_1401, tw_12, tw_1404, nh_X12.1, nh_X12.2, pm_X12_isSign⟩, tw_1403, TW.of (List.mem_append_left _ (List.mem_of_getElem? (i := 65) (by decide +kernel))) rfl, _, _, rfl, by decide⟩
theorem pm_X12_leaflet : (parseMethodDescriptor yX12_leaflet.desc).map (fun d => d.parameters.length) = some 3 := by decide +kernel
theorem mv_L_44 : MV RL 44 yX12_leaflet cX12_leaflet 5 (some Jvm.ClassFile.FieldType.int) 3 12 := ⟨⟨tw_1405, tw_12, tw_1408, nh_X12.1, nh_X12.2, pm_X12_leaflet⟩, tw_1406, tw_1407, _, _, rfl, by decide⟩
theorem pm_X12_isNumber : (parseMethodDescriptor yX12_isNumber.desc).map (fun d => d.parameters.length) = some 1 := by decide +kernel
theorem ms_X12_258 : MS RX12 258 yX12_isNumber cX12_isNumber 1 (some Jvm.ClassFile.FieldType.boolean) 1 := ⟨⟨tw_1409, tw_12, tw_1411, nh_X12.1, nh_X12.2, pm_X12_isNumber⟩, tw_1410⟩
theorem pm_X12_setOf : (parseMethodDescriptor yX12_setOf.desc).map (fun d => d.parameters.length) = some 2 := by decide +kernel
theorem mv_X12_261 : MV RX12 261 yX12_setOf cX12_setOf 10 (some Jvm.ClassFile.FieldType.int) 2 12 := ⟨⟨tw_1412, tw_12, tw_1415, nh_X12.1, nh_X12.2, pm_X12_setOf⟩, tw_1414, TW.of (List.mem_append_left _ (List.mem_of_getElem? (i := 66) (by decide +kernel))) rfl, _, _, rfl, by decide⟩
theorem pm_X12_howMany : (parseMethodDescriptor yX12_howMany.desc).map (fun d => d.parameters.length) = some 1 := by decide +kernel
theorem mv_X12_252 : MV RX12 252 yX12_howMany cX12_howMany 6 (some Jvm.ClassFile.FieldType.int) 1 12 := ⟨⟨tw_1419, tw_12, tw_1422, nh_X12.1, nh_X12.2, pm_X12_howMany⟩, tw_1421, TW.of (List.mem_append_left _ (List.mem_of_getElem? (i := 67) (by decide +kernel))) rfl, _, _, rfl, by decide⟩
theorem pm_X12_allOf : (parseMethodDescriptor yX12_allOf.desc).map (fun d => d.parameters.length) = some 1 := by decide +kernel
theorem mv_X12_238 : MV RX12 238 yX12_allOf cX12_allOf 2 (some Jvm.ClassFile.FieldType.int) 1 12 := ⟨⟨tw_1423, tw_12, tw_1426, nh_X12.1, nh_X12.2, pm_X12_allOf⟩, tw_1425, TW.of (List.mem_append_left _ (List.mem_of_getElem? (i := 68) (by decide +kernel))) rfl, _, _, rfl, by decide⟩
theorem pm_X12_oddsOf : (parseMethodDescriptor yX12_oddsOf.desc).map (fun d => d.parameters.length) = some 2 := by decide +kernel
theorem mv_X12_241 : MV RX12 241 yX12_oddsOf cX12_oddsOf 3 (some Jvm.ClassFile.FieldType.int) 2 12 := ⟨⟨tw_1427, tw_12, tw_1430, nh_X12.1, nh_X12.2, pm_X12_oddsOf⟩, tw_1429, TW.of (List.mem_append_left _ (List.mem_of_getElem? (i := 69) (by decide +kernel))) rfl, _, _, rfl, by decide⟩
theorem pm_X12_drawn : (parseMethodDescriptor yX12_drawn.desc).map (fun d => d.parameters.length) = some 0 := by decide +kernel
theorem mv_X12_244 : MV RX12 244 yX12_drawn cX12_drawn 1 (some Jvm.ClassFile.FieldType.int) 0 12 := ⟨⟨tw_1431, tw_12, tw_1434, nh_X12.1, nh_X12.2, pm_X12_drawn⟩, tw_1433, TW.of (List.mem_append_left _ (List.mem_of_getElem? (i := 70) (by decide +kernel))) rfl, _, _, rfl, by decide⟩
theorem pm_X12_weightOf : (parseMethodDescriptor yX12_weightOf.desc).map (fun d => d.parameters.length) = some 2 := by decide +kernel
theorem mv_X12_255 : MV RX12 255 yX12_weightOf cX12_weightOf 3 (some Jvm.ClassFile.FieldType.int) 2 12 := ⟨⟨tw_1438, tw_12, tw_1441, nh_X12.1, nh_X12.2, pm_X12_weightOf⟩, tw_1440, TW.of (List.mem_append_left _ (List.mem_of_getElem? (i := 71) (by decide +kernel))) rfl, _, _, rfl, by decide⟩
theorem pm_X12_bits : (parseMethodDescriptor yX12_bits.desc).map (fun d => d.parameters.length) = some 1 := by decide +kernel
theorem ms_X12_264 : MS RX12 264 yX12_bits cX12_bits 3 (some Jvm.ClassFile.FieldType.int) 1 := ⟨⟨tw_1442, tw_12, tw_1444, nh_X12.1, nh_X12.2, pm_X12_bits⟩, tw_1443⟩
theorem pm_X12_sumOf : (parseMethodDescriptor yX12_sumOf.desc).map (fun d => d.parameters.length) = some 2 := by decide +kernel
theorem mv_X12_223 : MV RX12 223 yX12_sumOf cX12_sumOf 6 (some Jvm.ClassFile.FieldType.int) 2 12 := ⟨⟨tw_1445, tw_12, tw_1448, nh_X12.1, nh_X12.2, pm_X12_sumOf⟩, tw_1447, TW.of (List.mem_append_left _ (List.mem_of_getElem? (i := 72) (by decide +kernel))) rfl, _, _, rfl, by decide⟩
theorem pm_X12_sealOf : (parseMethodDescriptor yX12_sealOf.desc).map (fun d => d.parameters.length) = some 3 := by decide +kernel
theorem mv_X12_267 : MV RX12 267 yX12_sealOf cX12_sealOf 4 (some Jvm.ClassFile.FieldType.int) 3 12 := ⟨⟨tw_1449, tw_12, tw_1452, nh_X12.1, nh_X12.2, pm_X12_sealOf⟩, tw_1451, TW.of (List.mem_append_left _ (List.mem_of_getElem? (i := 73) (by decide +kernel))) rfl, _, _, rfl, by decide⟩
theorem pm_X12_told : (parseMethodDescriptor yX12_told.desc).map (fun d => d.parameters.length) = some 2 := by decide +kernel
theorem mv_L_49 : MV RL 49 yX12_told cX12_told 3 (some Jvm.ClassFile.FieldType.int) 2 12 := ⟨⟨tw_1453, tw_12, tw_1456, nh_X12.1, nh_X12.2, pm_X12_told⟩, tw_1454, tw_1455, _, _, rfl, by decide⟩
theorem pm_X12_valueOf : (parseMethodDescriptor yX12_valueOf.desc).map (fun d => d.parameters.length) = some 2 := by decide +kernel
theorem mv_X12_271 : MV RX12 271 yX12_valueOf cX12_valueOf 3 (some Jvm.ClassFile.FieldType.int) 2 12 := ⟨⟨tw_1457, tw_12, tw_1460, nh_X12.1, nh_X12.2, pm_X12_valueOf⟩, tw_1459, TW.of (List.mem_append_left _ (List.mem_of_getElem? (i := 74) (by decide +kernel))) rfl, _, _, rfl, by decide⟩
theorem pm_X12_comes : (parseMethodDescriptor yX12_comes.desc).map (fun d => d.parameters.length) = some 4 := by decide +kernel
theorem mv_L_54 : MV RL 54 yX12_comes cX12_comes 6 (some Jvm.ClassFile.FieldType.int) 4 12 := ⟨⟨tw_1461, tw_12, tw_1464, nh_X12.1, nh_X12.2, pm_X12_comes⟩, tw_1462, tw_1463, _, _, rfl, by decide⟩
theorem pm_X12_isQuarter : (parseMethodDescriptor yX12_isQuarter.desc).map (fun d => d.parameters.length) = some 1 := by decide +kernel
theorem ms_X12_278 : MS RX12 278 yX12_isQuarter cX12_isQuarter 1 (some Jvm.ClassFile.FieldType.boolean) 1 := ⟨⟨tw_1465, tw_12, tw_1467, nh_X12.1, nh_X12.2, pm_X12_isQuarter⟩, tw_1466⟩
theorem pm_X12_cutTo : (parseMethodDescriptor yX12_cutTo.desc).map (fun d => d.parameters.length) = some 2 := by decide +kernel
theorem ms_X12_281 : MS RX12 281 yX12_cutTo cX12_cutTo 2 (some Jvm.ClassFile.FieldType.int) 2 := ⟨⟨tw_1468, tw_12, tw_1470, nh_X12.1, nh_X12.2, pm_X12_cutTo⟩, tw_1469⟩
theorem pm_X12_lays : (parseMethodDescriptor yX12_lays.desc).map (fun d => d.parameters.length) = some 6 := by decide +kernel
theorem mv_X12_284 : MV RX12 284 yX12_lays cX12_lays 8 (some Jvm.ClassFile.FieldType.int) 6 12 := ⟨⟨tw_1472, tw_12, tw_1475, nh_X12.1, nh_X12.2, pm_X12_lays⟩, tw_1474, TW.of (List.mem_append_left _ (List.mem_of_getElem? (i := 75) (by decide +kernel))) rfl, _, _, rfl, by decide⟩
theorem pm_X12_slip : (parseMethodDescriptor yX12_slip.desc).map (fun d => d.parameters.length) = some 4 := by decide +kernel
theorem mv_L_58 : MV RL 58 yX12_slip cX12_slip 6 (some Jvm.ClassFile.FieldType.int) 4 12 := ⟨⟨tw_1476, tw_12, tw_1479, nh_X12.1, nh_X12.2, pm_X12_slip⟩, tw_1477, tw_1478, _, _, rfl, by decide⟩
theorem pm_X12_laysIf : (parseMethodDescriptor yX12_laysIf.desc).map (fun d => d.parameters.length) = some 5 := by decide +kernel
theorem mv_X12_291 : MV RX12 291 yX12_laysIf cX12_laysIf 6 (some Jvm.ClassFile.FieldType.int) 5 12 := ⟨⟨tw_1480, tw_12, tw_1483, nh_X12.1, nh_X12.2, pm_X12_laysIf⟩, tw_1482, TW.of (List.mem_append_left _ (List.mem_of_getElem? (i := 76) (by decide +kernel))) rfl, _, _, rfl, by decide⟩
theorem pm_X12_forged : (parseMethodDescriptor yX12_forged.desc).map (fun d => d.parameters.length) = some 5 := by decide +kernel
theorem mv_L_63 : MV RL 63 yX12_forged cX12_forged 7 (some Jvm.ClassFile.FieldType.int) 5 12 := ⟨⟨tw_1484, tw_12, tw_1487, nh_X12.1, nh_X12.2, pm_X12_forged⟩, tw_1485, tw_1486, _, _, rfl, by decide⟩
theorem pm_X12_nameless : (parseMethodDescriptor yX12_nameless.desc).map (fun d => d.parameters.length) = some 3 := by decide +kernel
theorem mv_L_67 : MV RL 67 yX12_nameless cX12_nameless 4 (some Jvm.ClassFile.FieldType.int) 3 12 := ⟨⟨tw_1488, tw_12, tw_1491, nh_X12.1, nh_X12.2, pm_X12_nameless⟩, tw_1489, tw_1490, _, _, rfl, by decide⟩
theorem pm_X12_namelessIn : (parseMethodDescriptor yX12_namelessIn.desc).map (fun d => d.parameters.length) = some 1 := by decide +kernel
theorem mv_X12_295 : MV RX12 295 yX12_namelessIn cX12_namelessIn 4 (some Jvm.ClassFile.FieldType.int) 1 12 := ⟨⟨tw_1492, tw_12, tw_1495, nh_X12.1, nh_X12.2, pm_X12_namelessIn⟩, tw_1494, TW.of (List.mem_append_left _ (List.mem_of_getElem? (i := 77) (by decide +kernel))) rfl, _, _, rfl, by decide⟩
theorem pm_X12_away : (parseMethodDescriptor yX12_away.desc).map (fun d => d.parameters.length) = some 2 := by decide +kernel
theorem mv_L_81 : MV RL 81 yX12_away cX12_away 3 (some Jvm.ClassFile.FieldType.boolean) 2 12 := ⟨⟨tw_1496, tw_12, tw_1499, nh_X12.1, nh_X12.2, pm_X12_away⟩, tw_1497, tw_1498, _, _, rfl, by decide⟩
theorem pm_X12_isPaper : (parseMethodDescriptor yX12_isPaper.desc).map (fun d => d.parameters.length) = some 2 := by decide +kernel
theorem mv_X12_298 : MV RX12 298 yX12_isPaper cX12_isPaper 3 (some Jvm.ClassFile.FieldType.boolean) 2 12 := ⟨⟨tw_1500, tw_12, tw_1503, nh_X12.1, nh_X12.2, pm_X12_isPaper⟩, tw_1502, TW.of (List.mem_append_left _ (List.mem_of_getElem? (i := 78) (by decide +kernel))) rfl, _, _, rfl, by decide⟩
theorem pm_X12_mark : (parseMethodDescriptor yX12_mark.desc).map (fun d => d.parameters.length) = some 2 := by decide +kernel
theorem mv_L_164 : MV RL 164 yX12_mark cX12_mark 4 (some Jvm.ClassFile.FieldType.boolean) 2 12 := ⟨⟨tw_1504, tw_12, tw_1507, nh_X12.1, nh_X12.2, pm_X12_mark⟩, tw_1505, tw_1506, _, _, rfl, by decide⟩
theorem pm_X12_copies : (parseMethodDescriptor yX12_copies.desc).map (fun d => d.parameters.length) = some 2 := by decide +kernel
theorem mv_X12_302 : MV RX12 302 yX12_copies cX12_copies 4 none 2 12 := ⟨⟨tw_1508, tw_12, tw_1511, nh_X12.1, nh_X12.2, pm_X12_copies⟩, tw_1510, TW.of (List.mem_append_left _ (List.mem_of_getElem? (i := 79) (by decide +kernel))) rfl, _, _, rfl, by decide⟩
theorem pm_X12_peels : (parseMethodDescriptor yX12_peels.desc).map (fun d => d.parameters.length) = some 4 := by decide +kernel
theorem mv_L_85 : MV RL 85 yX12_peels cX12_peels 8 (some Jvm.ClassFile.FieldType.int) 4 12 := ⟨⟨tw_1512, tw_12, tw_1515, nh_X12.1, nh_X12.2, pm_X12_peels⟩, tw_1513, tw_1514, _, _, rfl, by decide⟩
theorem pm_X12_isAsked : (parseMethodDescriptor yX12_isAsked.desc).map (fun d => d.parameters.length) = some 3 := by decide +kernel
theorem mv_X12_333 : MV RX12 333 yX12_isAsked cX12_isAsked 4 (some Jvm.ClassFile.FieldType.boolean) 3 12 := ⟨⟨tw_1516, tw_12, tw_1519, nh_X12.1, nh_X12.2, pm_X12_isAsked⟩, tw_1518, TW.of (List.mem_append_left _ (List.mem_of_getElem? (i := 80) (by decide +kernel))) rfl, _, _, rfl, by decide⟩
theorem pm_X12_leavesNone : (parseMethodDescriptor yX12_leavesNone.desc).map (fun d => d.parameters.length) = some 0 := by decide +kernel
theorem mv_X12_336 : MV RX12 336 yX12_leavesNone cX12_leavesNone 2 none 0 12 := ⟨⟨tw_1520, tw_12, tw_1523, nh_X12.1, nh_X12.2, pm_X12_leavesNone⟩, tw_1522, TW.of (List.mem_append_left _ (List.mem_of_getElem? (i := 81) (by decide +kernel))) rfl, _, _, rfl, by decide⟩
theorem pm_X12_gathers : (parseMethodDescriptor yX12_gathers.desc).map (fun d => d.parameters.length) = some 4 := by decide +kernel
theorem mv_X12_339 : MV RX12 339 yX12_gathers cX12_gathers 7 none 4 12 := ⟨⟨tw_1524, tw_12, tw_1527, nh_X12.1, nh_X12.2, pm_X12_gathers⟩, tw_1526, TW.of (List.mem_append_left _ (List.mem_of_getElem? (i := 82) (by decide +kernel))) rfl, _, _, rfl, by decide⟩
theorem pm_X12_begins : (parseMethodDescriptor yX12_begins.desc).map (fun d => d.parameters.length) = some 1 := by decide +kernel
theorem mv_X12_312 : MV RX12 312 yX12_begins cX12_begins 3 none 1 12 := ⟨⟨tw_1528, tw_12, tw_1531, nh_X12.1, nh_X12.2, pm_X12_begins⟩, tw_1530, TW.of (List.mem_append_left _ (List.mem_of_getElem? (i := 83) (by decide +kernel))) rfl, _, _, rfl, by decide⟩
theorem pm_X12_adds : (parseMethodDescriptor yX12_adds.desc).map (fun d => d.parameters.length) = some 3 := by decide +kernel
theorem mv_X12_308 : MV RX12 308 yX12_adds cX12_adds 4 none 3 12 := ⟨⟨tw_1532, tw_12, tw_1535, nh_X12.1, nh_X12.2, pm_X12_adds⟩, tw_1534, TW.of (List.mem_append_left _ (List.mem_of_getElem? (i := 84) (by decide +kernel))) rfl, _, _, rfl, by decide⟩
theorem pm_X12_byteOf : (parseMethodDescriptor yX12_byteOf.desc).map (fun d => d.parameters.length) = some 2 := by decide +kernel
theorem ms_X12_315 : MS RX12 315 yX12_byteOf cX12_byteOf 2 (some Jvm.ClassFile.FieldType.int) 2 := ⟨⟨tw_1536, tw_12, tw_1538, nh_X12.1, nh_X12.2, pm_X12_byteOf⟩, tw_1537⟩
theorem pm_X12_findPeeled : (parseMethodDescriptor yX12_findPeeled.desc).map (fun d => d.parameters.length) = some 0 := by decide +kernel
theorem mv_X12_343 : MV RX12 343 yX12_findPeeled cX12_findPeeled 6 none 0 12 := ⟨⟨tw_1539, tw_12, tw_1542, nh_X12.1, nh_X12.2, pm_X12_findPeeled⟩, tw_1541, TW.of (List.mem_append_left _ (List.mem_of_getElem? (i := 85) (by decide +kernel))) rfl, _, _, rfl, by decide⟩
theorem pm_X12_comesTo : (parseMethodDescriptor yX12_comesTo.desc).map (fun d => d.parameters.length) = some 1 := by decide +kernel
theorem mv_X12_321 : MV RX12 321 yX12_comesTo cX12_comesTo 4 (some Jvm.ClassFile.FieldType.int) 1 12 := ⟨⟨tw_1543, tw_12, tw_1546, nh_X12.1, nh_X12.2, pm_X12_comesTo⟩, tw_1545, TW.of (List.mem_append_left _ (List.mem_of_getElem? (i := 86) (by decide +kernel))) rfl, _, _, rfl, by decide⟩
theorem pm_X12_solves : (parseMethodDescriptor yX12_solves.desc).map (fun d => d.parameters.length) = some 4 := by decide +kernel
theorem mv_L_89 : MV RL 89 yX12_solves cX12_solves 5 (some Jvm.ClassFile.FieldType.int) 4 12 := ⟨⟨tw_1547, tw_12, tw_1550, nh_X12.1, nh_X12.2, pm_X12_solves⟩, tw_1548, tw_1549, _, _, rfl, by decide⟩
theorem pm_X12_findSolved : (parseMethodDescriptor yX12_findSolved.desc).map (fun d => d.parameters.length) = some 0 := by decide +kernel
theorem mv_X12_346 : MV RX12 346 yX12_findSolved cX12_findSolved 6 none 0 12 := ⟨⟨tw_1551, tw_12, tw_1554, nh_X12.1, nh_X12.2, pm_X12_findSolved⟩, tw_1553, TW.of (List.mem_append_left _ (List.mem_of_getElem? (i := 87) (by decide +kernel))) rfl, _, _, rfl, by decide⟩
theorem pm_X12_fixedSet : (parseMethodDescriptor yX12_fixedSet.desc).map (fun d => d.parameters.length) = some 0 := by decide +kernel
theorem mv_X12_349 : MV RX12 349 yX12_fixedSet cX12_fixedSet 3 (some Jvm.ClassFile.FieldType.int) 0 12 := ⟨⟨tw_1555, tw_12, tw_1558, nh_X12.1, nh_X12.2, pm_X12_fixedSet⟩, tw_1557, TW.of (List.mem_append_left _ (List.mem_of_getElem? (i := 88) (by decide +kernel))) rfl, _, _, rfl, by decide⟩
theorem pm_X12_isFixed : (parseMethodDescriptor yX12_isFixed.desc).map (fun d => d.parameters.length) = some 1 := by decide +kernel
theorem mv_X12_330 : MV RX12 330 yX12_isFixed cX12_isFixed 2 (some Jvm.ClassFile.FieldType.boolean) 1 12 := ⟨⟨tw_1559, tw_12, tw_1562, nh_X12.1, nh_X12.2, pm_X12_isFixed⟩, tw_1561, TW.of (List.mem_append_left _ (List.mem_of_getElem? (i := 89) (by decide +kernel))) rfl, _, _, rfl, by decide⟩
theorem pm_X12_read : (parseMethodDescriptor yX12_read.desc).map (fun d => d.parameters.length) = some 4 := by decide +kernel
theorem mv_L_93 : MV RL 93 yX12_read cX12_read 5 (some Jvm.ClassFile.FieldType.int) 4 12 := ⟨⟨tw_1563, tw_12, tw_1566, nh_X12.1, nh_X12.2, pm_X12_read⟩, tw_1564, tw_1565, _, _, rfl, by decide⟩
theorem pm_X12_isPage : (parseMethodDescriptor yX12_isPage.desc).map (fun d => d.parameters.length) = some 2 := by decide +kernel
theorem mv_X12_352 : MV RX12 352 yX12_isPage cX12_isPage 3 (some Jvm.ClassFile.FieldType.boolean) 2 12 := ⟨⟨tw_1567, tw_12, tw_1570, nh_X12.1, nh_X12.2, pm_X12_isPage⟩, tw_1569, TW.of (List.mem_append_left _ (List.mem_of_getElem? (i := 90) (by decide +kernel))) rfl, _, _, rfl, by decide⟩
theorem pm_X12_readBy : (parseMethodDescriptor yX12_readBy.desc).map (fun d => d.parameters.length) = some 5 := by decide +kernel
theorem mv_X12_355 : MV RX12 355 yX12_readBy cX12_readBy 9 (some Jvm.ClassFile.FieldType.int) 5 12 := ⟨⟨tw_1571, tw_12, tw_1574, nh_X12.1, nh_X12.2, pm_X12_readBy⟩, tw_1573, TW.of (List.mem_append_left _ (List.mem_of_getElem? (i := 91) (by decide +kernel))) rfl, _, _, rfl, by decide⟩
theorem pm_X12_soon : (parseMethodDescriptor yX12_soon.desc).map (fun d => d.parameters.length) = some 4 := by decide +kernel
theorem mv_L_97 : MV RL 97 yX12_soon cX12_soon 6 (some Jvm.ClassFile.FieldType.int) 4 12 := ⟨⟨tw_1575, tw_12, tw_1578, nh_X12.1, nh_X12.2, pm_X12_soon⟩, tw_1576, tw_1577, _, _, rfl, by decide⟩
theorem pm_X12_paper : (parseMethodDescriptor yX12_paper.desc).map (fun d => d.parameters.length) = some 3 := by decide +kernel
theorem mv_L_73 : MV RL 73 yX12_paper cX12_paper 5 (some Jvm.ClassFile.FieldType.int) 3 12 := ⟨⟨tw_1579, tw_12, tw_1582, nh_X12.1, nh_X12.2, pm_X12_paper⟩, tw_1580, tw_1581, _, _, rfl, by decide⟩
theorem pm_X12_unknownOf : (parseMethodDescriptor yX12_unknownOf.desc).map (fun d => d.parameters.length) = some 2 := by decide +kernel
theorem mv_X12_358 : MV RX12 358 yX12_unknownOf cX12_unknownOf 8 (some Jvm.ClassFile.FieldType.int) 2 12 := ⟨⟨tw_1583, tw_12, tw_1586, nh_X12.1, nh_X12.2, pm_X12_unknownOf⟩, tw_1585, TW.of (List.mem_append_left _ (List.mem_of_getElem? (i := 92) (by decide +kernel))) rfl, _, _, rfl, by decide⟩
theorem pm_X12_slipped : (parseMethodDescriptor yX12_slipped.desc).map (fun d => d.parameters.length) = some 4 := by decide +kernel
theorem mv_L_101 : MV RL 101 yX12_slipped cX12_slipped 5 (some Jvm.ClassFile.FieldType.int) 4 12 := ⟨⟨tw_1587, tw_12, tw_1590, nh_X12.1, nh_X12.2, pm_X12_slipped⟩, tw_1588, tw_1589, _, _, rfl, by decide⟩
theorem pm_X12_findSlipped : (parseMethodDescriptor yX12_findSlipped.desc).map (fun d => d.parameters.length) = some 3 := by decide +kernel
theorem mv_X12_364 : MV RX12 364 yX12_findSlipped cX12_findSlipped 6 (some Jvm.ClassFile.FieldType.boolean) 3 12 := ⟨⟨tw_1591, tw_12, tw_1594, nh_X12.1, nh_X12.2, pm_X12_findSlipped⟩, tw_1593, TW.of (List.mem_append_left _ (List.mem_of_getElem? (i := 93) (by decide +kernel))) rfl, _, _, rfl, by decide⟩
theorem pm_X12_right : (parseMethodDescriptor yX12_right.desc).map (fun d => d.parameters.length) = some 4 := by decide +kernel
theorem mv_L_105 : MV RL 105 yX12_right cX12_right 7 (some Jvm.ClassFile.FieldType.int) 4 12 := ⟨⟨tw_1595, tw_12, tw_1598, nh_X12.1, nh_X12.2, pm_X12_right⟩, tw_1596, tw_1597, _, _, rfl, by decide⟩
theorem pm_X12_doubles : (parseMethodDescriptor yX12_doubles.desc).map (fun d => d.parameters.length) = some 3 := by decide +kernel
theorem mv_L_109 : MV RL 109 yX12_doubles cX12_doubles 8 (some Jvm.ClassFile.FieldType.int) 3 12 := ⟨⟨tw_1599, tw_12, tw_1602, nh_X12.1, nh_X12.2, pm_X12_doubles⟩, tw_1600, tw_1601, _, _, rfl, by decide⟩
theorem pm_X12_guard : (parseMethodDescriptor yX12_guard.desc).map (fun d => d.parameters.length) = some 4 := by decide +kernel
theorem mv_L_113 : MV RL 113 yX12_guard cX12_guard 9 (some Jvm.ClassFile.FieldType.int) 4 12 := ⟨⟨tw_1603, tw_12, tw_1606, nh_X12.1, nh_X12.2, pm_X12_guard⟩, tw_1604, tw_1605, _, _, rfl, by decide⟩
theorem pm_X12_isFixedWithout : (parseMethodDescriptor yX12_isFixedWithout.desc).map (fun d => d.parameters.length) = some 4 := by decide +kernel
theorem mv_X12_367 : MV RX12 367 yX12_isFixedWithout cX12_isFixedWithout 9 (some Jvm.ClassFile.FieldType.boolean) 4 12 := ⟨⟨tw_1607, tw_12, tw_1610, nh_X12.1, nh_X12.2, pm_X12_isFixedWithout⟩, tw_1609, TW.of (List.mem_append_left _ (List.mem_of_getElem? (i := 94) (by decide +kernel))) rfl, _, _, rfl, by decide⟩
theorem pm_X12_tocome : (parseMethodDescriptor yX12_tocome.desc).map (fun d => d.parameters.length) = some 3 := by decide +kernel
theorem mv_L_117 : MV RL 117 yX12_tocome cX12_tocome 6 (some Jvm.ClassFile.FieldType.int) 3 12 := ⟨⟨tw_1611, tw_12, tw_1614, nh_X12.1, nh_X12.2, pm_X12_tocome⟩, tw_1612, tw_1613, _, _, rfl, by decide⟩
theorem pm_X12_isAllWith : (parseMethodDescriptor yX12_isAllWith.desc).map (fun d => d.parameters.length) = some 3 := by decide +kernel
theorem mv_X12_374 : MV RX12 374 yX12_isAllWith cX12_isAllWith 7 (some Jvm.ClassFile.FieldType.boolean) 3 12 := ⟨⟨tw_1615, tw_12, tw_1618, nh_X12.1, nh_X12.2, pm_X12_isAllWith⟩, tw_1617, TW.of (List.mem_append_left _ (List.mem_of_getElem? (i := 95) (by decide +kernel))) rfl, _, _, rfl, by decide⟩
theorem pm_X12_givesAll : (parseMethodDescriptor yX12_givesAll.desc).map (fun d => d.parameters.length) = some 2 := by decide +kernel
theorem mv_X12_371 : MV RX12 371 yX12_givesAll cX12_givesAll 3 (some Jvm.ClassFile.FieldType.boolean) 2 12 := ⟨⟨tw_1619, tw_12, tw_1622, nh_X12.1, nh_X12.2, pm_X12_givesAll⟩, tw_1621, TW.of (List.mem_append_left _ (List.mem_of_getElem? (i := 96) (by decide +kernel))) rfl, _, _, rfl, by decide⟩
theorem pm_X12_chances : (parseMethodDescriptor yX12_chances.desc).map (fun d => d.parameters.length) = some 4 := by decide +kernel
theorem mv_L_121 : MV RL 121 yX12_chances cX12_chances 5 (some Jvm.ClassFile.FieldType.int) 4 12 := ⟨⟨tw_1623, tw_12, tw_1626, nh_X12.1, nh_X12.2, pm_X12_chances⟩, tw_1624, tw_1625, _, _, rfl, by decide⟩
theorem pm_X12_areChances : (parseMethodDescriptor yX12_areChances.desc).map (fun d => d.parameters.length) = some 3 := by decide +kernel
theorem mv_X12_377 : MV RX12 377 yX12_areChances cX12_areChances 4 (some Jvm.ClassFile.FieldType.boolean) 3 12 := ⟨⟨tw_1627, tw_12, tw_1630, nh_X12.1, nh_X12.2, pm_X12_areChances⟩, tw_1629, TW.of (List.mem_append_left _ (List.mem_of_getElem? (i := 97) (by decide +kernel))) rfl, _, _, rfl, by decide⟩
theorem pm_X12_keepsSets : (parseMethodDescriptor yX12_keepsSets.desc).map (fun d => d.parameters.length) = some 2 := by decide +kernel
theorem mv_X12_380 : MV RX12 380 yX12_keepsSets cX12_keepsSets 4 none 2 12 := ⟨⟨tw_1631, tw_12, tw_1634, nh_X12.1, nh_X12.2, pm_X12_keepsSets⟩, tw_1633, TW.of (List.mem_append_left _ (List.mem_of_getElem? (i := 98) (by decide +kernel))) rfl, _, _, rfl, by decide⟩
theorem pm_X12_chancesOf : (parseMethodDescriptor yX12_chancesOf.desc).map (fun d => d.parameters.length) = some 4 := by decide +kernel
theorem mv_X12_383 : MV RX12 383 yX12_chancesOf cX12_chancesOf 8 (some Jvm.ClassFile.FieldType.int) 4 12 := ⟨⟨tw_1635, tw_12, tw_1638, nh_X12.1, nh_X12.2, pm_X12_chancesOf⟩, tw_1637, TW.of (List.mem_append_left _ (List.mem_of_getElem? (i := 99) (by decide +kernel))) rfl, _, _, rfl, by decide⟩
theorem pm_X12_enough : (parseMethodDescriptor yX12_enough.desc).map (fun d => d.parameters.length) = some 4 := by decide +kernel
theorem mv_L_126 : MV RL 126 yX12_enough cX12_enough 7 (some Jvm.ClassFile.FieldType.int) 4 12 := ⟨⟨tw_1639, tw_12, tw_1642, nh_X12.1, nh_X12.2, pm_X12_enough⟩, tw_1640, tw_1641, _, _, rfl, by decide⟩
theorem pm_X12_choices : (parseMethodDescriptor yX12_choices.desc).map (fun d => d.parameters.length) = some 2 := by decide +kernel
theorem ms_X12_387 : MS RX12 387 yX12_choices cX12_choices 4 (some Jvm.ClassFile.FieldType.int) 2 := ⟨⟨tw_1643, tw_12, tw_1645, nh_X12.1, nh_X12.2, pm_X12_choices⟩, tw_1644⟩
theorem pm_X12_average : (parseMethodDescriptor yX12_average.desc).map (fun d => d.parameters.length) = some 4 := by decide +kernel
theorem mv_L_131 : MV RL 131 yX12_average cX12_average 16 (some Jvm.ClassFile.FieldType.long) 4 12 := ⟨⟨tw_1646, tw_12, tw_1649, nh_X12.1, nh_X12.2, pm_X12_average⟩, tw_1647, tw_1648, _, _, rfl, by decide⟩
theorem pm_X12_common : (parseMethodDescriptor yX12_common.desc).map (fun d => d.parameters.length) = some 2 := by decide +kernel
theorem ms_X12_392 : MS RX12 392 yX12_common cX12_common 10 (some Jvm.ClassFile.FieldType.long) 2 := ⟨⟨tw_1651, tw_12, tw_1653, nh_X12.1, nh_X12.2, pm_X12_common⟩, tw_1652⟩
theorem pm_X12_degree : (parseMethodDescriptor yX12_degree.desc).map (fun d => d.parameters.length) = some 4 := by decide +kernel
theorem mv_L_135 : MV RL 135 yX12_degree cX12_degree 9 (some Jvm.ClassFile.FieldType.int) 4 12 := ⟨⟨tw_1654, tw_12, tw_1657, nh_X12.1, nh_X12.2, pm_X12_degree⟩, tw_1655, tw_1656, _, _, rfl, by decide⟩
theorem pm_X12_apart : (parseMethodDescriptor yX12_apart.desc).map (fun d => d.parameters.length) = some 2 := by decide +kernel
theorem mv_L_139 : MV RL 139 yX12_apart cX12_apart 7 (some Jvm.ClassFile.FieldType.int) 2 12 := ⟨⟨tw_1658, tw_12, tw_1661, nh_X12.1, nh_X12.2, pm_X12_apart⟩, tw_1659, tw_1660, _, _, rfl, by decide⟩
theorem pm_X12_agreesBy : (parseMethodDescriptor yX12_agreesBy.desc).map (fun d => d.parameters.length) = some 3 := by decide +kernel
theorem mv_X12_396 : MV RX12 396 yX12_agreesBy cX12_agreesBy 8 (some Jvm.ClassFile.FieldType.boolean) 3 12 := ⟨⟨tw_1662, tw_12, tw_1665, nh_X12.1, nh_X12.2, pm_X12_agreesBy⟩, tw_1664, TW.of (List.mem_append_left _ (List.mem_of_getElem? (i := 100) (by decide +kernel))) rfl, _, _, rfl, by decide⟩
theorem pm_X12_quarter : (parseMethodDescriptor yX12_quarter.desc).map (fun d => d.parameters.length) = some 3 := by decide +kernel
theorem mv_L_143 : MV RL 143 yX12_quarter cX12_quarter 4 (some Jvm.ClassFile.FieldType.boolean) 3 12 := ⟨⟨tw_1666, tw_12, tw_1669, nh_X12.1, nh_X12.2, pm_X12_quarter⟩, tw_1667, tw_1668, _, _, rfl, by decide⟩
theorem pm_X12_scatter : (parseMethodDescriptor yX12_scatter.desc).map (fun d => d.parameters.length) = some 3 := by decide +kernel
theorem mv_L_147 : MV RL 147 yX12_scatter cX12_scatter 9 (some Jvm.ClassFile.FieldType.int) 3 12 := ⟨⟨tw_1670, tw_12, tw_1673, nh_X12.1, nh_X12.2, pm_X12_scatter⟩, tw_1671, tw_1672, _, _, rfl, by decide⟩
theorem pm_X12_falls : (parseMethodDescriptor yX12_falls.desc).map (fun d => d.parameters.length) = some 3 := by decide +kernel
theorem mv_X12_402 : MV RX12 402 yX12_falls cX12_falls 4 (some Jvm.ClassFile.FieldType.boolean) 3 12 := ⟨⟨tw_1674, tw_12, tw_1677, nh_X12.1, nh_X12.2, pm_X12_falls⟩, tw_1676, TW.of (List.mem_append_left _ (List.mem_of_getElem? (i := 101) (by decide +kernel))) rfl, _, _, rfl, by decide⟩
theorem pm_X12_hasAlike : (parseMethodDescriptor yX12_hasAlike.desc).map (fun d => d.parameters.length) = some 2 := by decide +kernel
theorem mv_X12_405 : MV RX12 405 yX12_hasAlike cX12_hasAlike 5 (some Jvm.ClassFile.FieldType.boolean) 2 12 := ⟨⟨tw_1678, tw_12, tw_1681, nh_X12.1, nh_X12.2, pm_X12_hasAlike⟩, tw_1680, TW.of (List.mem_append_left _ (List.mem_of_getElem? (i := 102) (by decide +kernel))) rfl, _, _, rfl, by decide⟩
theorem pm_X12_isAlike : (parseMethodDescriptor yX12_isAlike.desc).map (fun d => d.parameters.length) = some 2 := by decide +kernel
theorem mv_X12_399 : MV RX12 399 yX12_isAlike cX12_isAlike 3 (some Jvm.ClassFile.FieldType.boolean) 2 12 := ⟨⟨tw_1682, tw_12, tw_1685, nh_X12.1, nh_X12.2, pm_X12_isAlike⟩, tw_1684, TW.of (List.mem_append_left _ (List.mem_of_getElem? (i := 103) (by decide +kernel))) rfl, _, _, rfl, by decide⟩
theorem pm_X12_needs : (parseMethodDescriptor yX12_needs.desc).map (fun d => d.parameters.length) = some 2 := by decide +kernel
theorem mv_L_151 : MV RL 151 yX12_needs cX12_needs 4 (some Jvm.ClassFile.FieldType.int) 2 12 := ⟨⟨tw_1686, tw_12, tw_1689, nh_X12.1, nh_X12.2, pm_X12_needs⟩, tw_1687, tw_1688, _, _, rfl, by decide⟩
theorem pm_X12_needsOf : (parseMethodDescriptor yX12_needsOf.desc).map (fun d => d.parameters.length) = some 2 := by decide +kernel
theorem mv_X12_408 : MV RX12 408 yX12_needsOf cX12_needsOf 4 (some Jvm.ClassFile.FieldType.int) 2 12 := ⟨⟨tw_1690, tw_12, tw_1693, nh_X12.1, nh_X12.2, pm_X12_needsOf⟩, tw_1692, TW.of (List.mem_append_left _ (List.mem_of_getElem? (i := 104) (by decide +kernel))) rfl, _, _, rfl, by decide⟩
theorem pm_X12_town : (parseMethodDescriptor yX12_town.desc).map (fun d => d.parameters.length) = some 2 := by decide +kernel
theorem mv_L_155 : MV RL 155 yX12_town cX12_town 6 (some Jvm.ClassFile.FieldType.int) 2 12 := ⟨⟨tw_1694, tw_12, tw_1697, nh_X12.1, nh_X12.2, pm_X12_town⟩, tw_1695, tw_1696, _, _, rfl, by decide⟩
theorem pm_X12_allHouses : (parseMethodDescriptor yX12_allHouses.desc).map (fun d => d.parameters.length) = some 0 := by decide +kernel
theorem mv_X12_411 : MV RX12 411 yX12_allHouses cX12_allHouses 3 (some Jvm.ClassFile.FieldType.int) 0 12 := ⟨⟨tw_1698, tw_12, tw_1701, nh_X12.1, nh_X12.2, pm_X12_allHouses⟩, tw_1700, TW.of (List.mem_append_left _ (List.mem_of_getElem? (i := 105) (by decide +kernel))) rfl, _, _, rfl, by decide⟩
theorem pm_X12_swap : (parseMethodDescriptor yX12_swap.desc).map (fun d => d.parameters.length) = some 3 := by decide +kernel
theorem mv_L_159 : MV RL 159 yX12_swap cX12_swap 8 (some Jvm.ClassFile.FieldType.int) 3 12 := ⟨⟨tw_1702, tw_12, tw_1705, nh_X12.1, nh_X12.2, pm_X12_swap⟩, tw_1703, tw_1704, _, _, rfl, by decide⟩
theorem pm_X12_count : (parseMethodDescriptor yX12_count.desc).map (fun d => d.parameters.length) = some 1 := by decide +kernel
theorem mv_L_168 : MV RL 168 yX12_count cX12_count 2 (some Jvm.ClassFile.FieldType.int) 1 12 := ⟨⟨tw_1706, tw_12, tw_1709, nh_X12.1, nh_X12.2, pm_X12_count⟩, tw_1707, tw_1708, _, _, rfl, by decide⟩
theorem oi_inst : TW (.instanceMethod objectInit) := tw_32
theorem oi_code : TW (.code objectInit ⟨#[0xb1]⟩ 1 none) := tw_33
end
section
/-! THE SHAPE of the class's cells and of the reference's: what each reference field leads to, and how long the arrays are -/
def shp : Nat → Nat → Option (Nat × Nat) := fun c k => match c, k with
  | 0, 0 => some (13, 20) | 0, 1 => some (13, 20)
  | 1, 1 => some (13, 16) | 1, 2 => some (3, 0) | 1, 3 => some (13, 60)
  | 2, 0 => some (13, 11) | 2, 1 => some (13, 11) | 2, 2 => some (0, 0) | 2, 3 => some (0, 0)
  | 3, 0 => some (13, 21) | 3, 1 => some (13, 4)
  | 4, 0 => some (9, 0) | 4, 1 => some (3, 0)
  | 5, 0 => some (13, 44) | 5, 1 => some (13, 44) | 5, 2 => some (13, 20) | 5, 3 => some (14, 16)
  | 6, 0 => some (20, 40)
  | 8, 0 => some (13, 12) | 8, 1 => some (13, 11) | 8, 2 => some (5, 0) | 8, 3 => some (0, 0)
  | 9, 0 => some (13, 1000)
  | 10, 0 => some (20, 6) | 10, 1 => some (13, 6) | 10, 2 => some (16, 4)
  | 11, 0 => some (17, 2) | 11, 1 => some (19, 4) | 11, 2 => some (19, 16) | 11, 3 => some (15, 4) | 11, 4 => some (13, 4) | 11, 5 => some (13, 4) | 11, 6 => some (13, 4)
  | 11, 7 => some (4, 0) | 11, 8 => some (18, 2) | 11, 9 => some (16, 2) | 11, 10 => some (8, 0) | 11, 11 => some (2, 0) | 11, 12 => some (10, 0)
  | 12, 1 => some (13, 1000) | 12, 4 => some (13, 1002) | 12, 5 => some (13, 1002) | 12, 6 => some (14, 1002) | 12, 9 => some (14, 4)
  | 12, 10 => some (13, 2) | 12, 11 => some (13, 32) | 12, 12 => some (13, 63) | 12, 13 => some (13, 3) | 12, 14 => some (13, 3) | 12, 15 => some (13, 3) | 12, 16 => some (13, 12) | 12, 17 => some (13, 3)
  | 12, 20 => some (13, 20) | 12, 21 => some (13, 800) | 12, 22 => some (13, 800) | 12, 23 => some (13, 800) | 12, 24 => some (13, 800) | 12, 25 => some (13, 800) | 12, 26 => some (15, 4)
  | 12, 29 => some (13, 64) | 12, 30 => some (13, 64) | 12, 31 => some (13, 64) | 12, 32 => some (15, 40) | 12, 34 => some (13, 20) | 12, 37 => some (13, 20) | 12, 38 => some (13, 20)
  | 12, 40 => some (13, 40) | 12, 41 => some (13, 64) | 12, 42 => some (13, 64) | 12, 43 => some (13, 60) | 12, 44 => some (13, 21) | 12, 45 => some (13, 4) | 12, 46 => some (13, 4) | 12, 47 => some (13, 4)
  | _, _ => none
/-- the class of the elements of an array of objects -/
def ek : Nat → Nat := fun k => match k with
  | 16 => 0 | 17 => 1 | 18 => 5 | 19 => 6 | _ => 7
def xFd (P : PP) (a k : Nat) : Prop := ∀ kd n, shp (pK P a) k = some (kd, n) → ∃ b, pR P a k = some b ∧ b ∈ pL P ∧ pK P b = kd ∧ pN P b = n
def xAr (P : PP) (a : Nat) : Prop := 16 ≤ pK P a → pK P a ≤ 19 → ∀ j, j < pN P a → ∃ b, pR P a j = some b ∧ b ∈ pL P ∧ pK P b = ek (pK P a)
def xOk (P : PP) (a : Nat) : Prop := (∀ k, xFd P a k) ∧ xAr P a
/-- all cells but those of S are in shape -/
def xAG (S : List Nat) (P : PP) : Prop := ∀ a, a ∈ pL P → a ∉ S → xOk P a
/-- P2 has P's cells, and they hold what they held, but for those of S -/
def xExt (S : List Nat) (P P2 : PP) : Prop := (∀ a, a ∈ pL P → a ∈ pL P2 ∧ pK P2 a = pK P a ∧ pN P2 a = pN P a) ∧ ∀ a, a ∈ pL P → a ∉ S → pI P2 a = pI P a ∧ pR P2 a = pR P a ∧ pJ P2 a = pJ P a
theorem xExt.rf {S : List Nat} {P : PP} : xExt S P P := ⟨fun _ h => ⟨h, rfl, rfl⟩, fun _ _ _ => ⟨rfl, rfl, rfl⟩⟩
theorem xExt.tr {S : List Nat} {P P2 P3 : PP} (h : xExt S P P2) (h2 : xExt S P2 P3) : xExt S P P3 := by
  refine ⟨fun a ha => ?_, fun a ha hs => ?_⟩
  · obtain ⟨q1, q2, q3⟩ := h.1 a ha
    obtain ⟨r1, r2, r3⟩ := h2.1 a q1
    exact ⟨r1, r2.trans q2, r3.trans q3⟩
  · obtain ⟨q1, q2, q3⟩ := h.2 a ha hs
    obtain ⟨r1, r2, r3⟩ := h2.2 a (h.1 a ha).1 hs
    exact ⟨r1.trans q1, r2.trans q2, r3.trans q3⟩
theorem xExt.mono {S S2 : List Nat} {P P2 : PP} (h : xExt S P P2) (hs : ∀ a, a ∈ S → a ∈ pL P → a ∈ S2) : xExt S2 P P2 := ⟨h.1, fun a ha hn => h.2 a ha (fun q => hn (hs a q ha))⟩
theorem xExt.new {S : List Nat} {P : PP} {q kd n : Nat} (hq : q ∉ pL P) : xExt S P (pNw P q kd n) := by
  have hne : ∀ a, a ∈ pL P → a ≠ q := fun a ha h => hq (h ▸ ha)
  refine ⟨fun a ha => ⟨?_, ?_, ?_⟩, fun a ha _ => ⟨?_, ?_, ?_⟩⟩
  · exact List.mem_append_left _ ha
  all_goals simp [pNw, pK, pN, pI, pR, pJ, va_up, hne a ha]
theorem xExt.setI {S : List Nat} {P : PP} {a k : Nat} {v : Int32} (h : a ∈ S) : xExt S P (pSI P a k v) :=
  ⟨fun _ hb => ⟨hb, rfl, rfl⟩, fun b _ hs => ⟨by have : b ≠ a := fun e => hs (e ▸ h); simp [pSI, pI, va_up, this], rfl, rfl⟩⟩
theorem xExt.setR {S : List Nat} {P : PP} {a k : Nat} {v : Option Nat} (h : a ∈ S) : xExt S P (pSR P a k v) :=
  ⟨fun _ hb => ⟨hb, rfl, rfl⟩, fun b _ hs => ⟨rfl, by have : b ≠ a := fun e => hs (e ▸ h); simp [pSR, pR, va_up, this], rfl⟩⟩
theorem xExt.setJ {S : List Nat} {P : PP} {a k : Nat} {v : Int64} (h : a ∈ S) : xExt S P (pSJ P a k v) :=
  ⟨fun _ hb => ⟨hb, rfl, rfl⟩, fun b _ hs => ⟨rfl, rfl, by have : b ≠ a := fun e => hs (e ▸ h); simp [pSJ, pJ, va_up, this]⟩⟩
theorem xFd.ext {S : List Nat} {P P2 : PP} {a k : Nat} (h : xFd P a k) (x : xExt S P P2) (ha : a ∈ pL P) (hr : pR P2 a k = pR P a k) : xFd P2 a k := by
  intro kd n hs
  rw [(x.1 a ha).2.1] at hs
  obtain ⟨b, h1, h2, h3, h4⟩ := h kd n hs
  obtain ⟨y1, y2, y3⟩ := x.1 b h2
  exact ⟨b, hr.trans h1, y1, y2.trans h3, y3.trans h4⟩
theorem xOk.ext {S : List Nat} {P P2 : PP} {a : Nat} (h : xOk P a) (x : xExt S P P2) (ha : a ∈ pL P) (hr : pR P2 a = pR P a) : xOk P2 a := by
  refine ⟨fun k => (h.1 k).ext x ha (by rw [hr]), ?_⟩
  intro h1 h2 j hj
  rw [(x.1 a ha).2.1] at h1 h2 ⊢
  rw [(x.1 a ha).2.2] at hj
  obtain ⟨b, g1, g2, g3⟩ := h.2 h1 h2 j hj
  exact ⟨b, by rw [hr]; exact g1, (x.1 b g2).1, (x.1 b g2).2.1.trans g3⟩
theorem xAG.ext {S T : List Nat} {P P2 : PP} (h : xAG T P) (x : xExt S P P2) (hs : ∀ a, a ∈ S → a ∈ T) (hn : ∀ a, a ∈ pL P2 → a ∉ pL P → a ∉ T → xOk P2 a) : xAG T P2 := by
  intro a ha ht
  by_cases hp : a ∈ pL P
  · exact (h a hp ht).ext x hp (x.2 a hp (fun q => ht (hs a q))).2.1
  · exact hn a ha hp ht
theorem xAG.setI {T : List Nat} {P : PP} {a k : Nat} {v : Int32} (h : xAG T P) : xAG T (pSI P a k v) :=
  fun b hb ht => (h b hb ht).ext (xExt.setI (S := [a]) List.mem_cons_self) hb rfl
theorem xAG.setJ {T : List Nat} {P : PP} {a k : Nat} {v : Int64} (h : xAG T P) : xAG T (pSJ P a k v) :=
  fun b hb ht => (h b hb ht).ext (xExt.setJ (S := [a]) List.mem_cons_self) hb rfl
theorem mem_new {P : PP} {a q kd n : Nat} (h : a ∈ pL (pNw P q kd n)) : a ∈ pL P ∨ a = q := by
  rcases List.mem_append.mp h with h | h
  · exact Or.inl h
  · exact Or.inr (List.mem_singleton.mp h)
theorem in_new {P : PP} {q kd n : Nat} : q ∈ pL (pNw P q kd n) := List.mem_append_right _ List.mem_cons_self
theorem K_new {P : PP} {q kd n : Nat} : pK (pNw P q kd n) q = kd := up_self
theorem N_new {P : PP} {q kd n : Nat} : pN (pNw P q kd n) q = n := up_self
theorem I_new {P : PP} {q kd n : Nat} : pI (pNw P q kd n) q = fun _ => 0 := up_self
theorem R_new {P : PP} {q kd n : Nat} : pR (pNw P q kd n) q = fun _ => none := up_self
theorem J_new {P : PP} {q kd n : Nat} : pJ (pNw P q kd n) q = fun _ => 0 := up_self
/-- arrays of numbers and of papers are in shape -/
theorem xOk.plain {P : PP} {a : Nat} (h : 13 ≤ pK P a) (h2 : pK P a < 16 ∨ 19 < pK P a) : xOk P a := by
  refine ⟨fun k kd n hs => ?_, fun h3 h4 => by omega⟩
  have : shp (pK P a) k = none := by
    generalize pK P a = c at h
    unfold shp
    split <;> first | rfl | omega
  rw [this] at hs; cases hs
theorem xAG.new {T : List Nat} {P : PP} {q kd n : Nat} (h : xAG T P) (hq : q ∉ pL P) : xAG (q :: T) (pNw P q kd n) := by
  refine fun a ha ht => ?_
  rcases mem_new ha with h1 | h1
  · exact (h a h1 (fun z => ht (List.mem_cons_of_mem _ z))).ext (xExt.new (S := []) hq) h1 ((xExt.new (S := []) (kd := kd) (n := n) hq).2 a h1 List.not_mem_nil).2.1
  · exact absurd (h1 ▸ List.mem_cons_self) ht
theorem xAG.newA {T : List Nat} {P : PP} {q kd n : Nat} (h : xAG T P) (hq : q ∉ pL P) (h1 : 13 ≤ kd) (h2 : kd < 16 ∨ 19 < kd) : xAG T (pNw P q kd n) := by
  refine h.ext (xExt.new (S := []) hq) (fun _ z => absurd z List.not_mem_nil) (fun a ha hn _ => ?_)
  rcases mem_new ha with z | z
  · exact absurd z hn
  · subst z
    exact xOk.plain (by rw [K_new]; exact h1) (by rw [K_new]; exact h2)
theorem xAG.weak {S T : List Nat} {P : PP} (h : xAG S P) (hs : ∀ a, a ∈ S → a ∈ T) : xAG T P := fun a ha ht => h a ha (fun z => ht (hs a z))
/-- an object that is being made: its fields ks stand -/
def xDn (S : List Nat) (P0 P : PP) (a : Nat) (ks : List Nat) : Prop := xExt [a] P0 P ∧ xAG (a :: S) P ∧ a ∈ pL P0 ∧ ∀ k, k ∈ ks → xFd P a k
theorem xDn.zero {S : List Nat} {P : PP} {a : Nat} (ha : a ∈ pL P) (h : xAG (a :: S) P) : xDn S P P a [] := ⟨xExt.rf, h, ha, fun _ h => absurd h List.not_mem_nil⟩
theorem xDn.mem {S : List Nat} {P0 P : PP} {a : Nat} {ks : List Nat} (h : xDn S P0 P a ks) : a ∈ pL P := (h.1.1 a h.2.2.1).1
theorem xDn.kind {S : List Nat} {P0 P : PP} {a : Nat} {ks : List Nat} (h : xDn S P0 P a ks) : pK P a = pK P0 a := (h.1.1 a h.2.2.1).2.1
/-- more cells come, a's own fields stay -/
theorem xDn.ext {S : List Nat} {P0 P P2 : PP} {a : Nat} {ks : List Nat} (h : xDn S P0 P a ks) (x : xExt [] P P2) (hg : xAG (a :: S) P2) : xDn S P0 P2 a ks :=
  ⟨h.1.tr (x.mono (fun _ z _ => absurd z List.not_mem_nil)), hg, h.2.2.1, fun k hk => (h.2.2.2 k hk).ext x h.mem (by rw [(x.2 a h.mem List.not_mem_nil).2.1])⟩
theorem xDn.put {S : List Nat} {P0 P : PP} {a k b kd n : Nat} {ks : List Nat} (h : xDn S P0 P a ks) (hs : shp (pK P0 a) k = some (kd, n)) (hb : b ∈ pL P) (hk : pK P b = kd) (hn : pN P b = n) : xDn S P0 (pSR P a k (some b)) a (k :: ks) := by
  refine ⟨h.1.tr (xExt.setR List.mem_cons_self), ?_, h.2.2.1, fun j hj => ?_⟩
  · refine h.2.1.ext (xExt.setR (S := [a]) List.mem_cons_self) (fun z hz => by rw [List.mem_singleton.mp hz]; exact List.mem_cons_self) (fun z h1 h2 => absurd h1 h2)
  · by_cases hjk : j = k
    · subst hjk
      intro kd2 n2 hs2
      have e : shp (pK P a) j = some (kd2, n2) := hs2
      rw [h.kind, hs] at e
      cases e
      exact ⟨b, by simp [pSR, pR, va_up], hb, hk, hn⟩
    · have h1 := h.2.2.2 j (by rcases List.mem_cons.mp hj with q | q; exact absurd q hjk; exact q)
      exact h1.ext (xExt.setR (S := [a]) List.mem_cons_self) h.mem (by simp [pSR, pR, va_up, hjk])
theorem xDn.putI {S : List Nat} {P0 P : PP} {a k : Nat} {v : Int32} {ks : List Nat} (h : xDn S P0 P a ks) : xDn S P0 (pSI P a k v) a ks :=
  ⟨h.1.tr (xExt.setI List.mem_cons_self), h.2.1.setI, h.2.2.1, fun j hj => (h.2.2.2 j hj).ext (xExt.setI (S := [a]) List.mem_cons_self) h.mem rfl⟩
theorem xDn.newA {S : List Nat} {P0 P : PP} {a q kd n : Nat} {ks : List Nat} (h : xDn S P0 P a ks) (hq : q ∉ pL P) (h1 : 13 ≤ kd) (h2 : kd < 16 ∨ 19 < kd) : xDn S P0 (pNw P q kd n) a ks := h.ext (xExt.new hq) (h.2.1.newA hq h1 h2)
/-- an array of numbers is made and put into a field -/
theorem xDn.arr {S : List Nat} {P0 P : PP} {a k q kd n : Nat} {ks : List Nat} (h : xDn S P0 P a ks) (hq : q ∉ pL P) (hs : shp (pK P0 a) k = some (kd, n)) (h1 : 13 ≤ kd) (h2 : kd < 16 ∨ 19 < kd) : xDn S P0 (pSR (pNw P q kd n) a k (some q)) a (k :: ks) :=
  (h.newA hq h1 h2).put hs in_new K_new N_new
/-- an object is made (P2 behind its constructor) and put into a field -/
theorem xDn.obj {S : List Nat} {P0 P P2 : PP} {a k q ci : Nat} {ks : List Nat} (h : xDn S P0 P a ks) (hq : q ∉ pL P) (x : xExt [q] (pNw P q ci 0) P2) (hg : xAG (a :: S) P2) (hs : shp (pK P0 a) k = some (ci, 0)) : xDn S P0 (pSR P2 a k (some q)) a (k :: ks) := by
  have x1 : xExt [] P P2 := by
    have x0 := (xExt.new (S := [q]) (kd := ci) (n := 0) hq).tr x
    exact x0.mono (fun z hz hp => absurd (List.mem_singleton.mp hz ▸ hp) hq)
  obtain ⟨y1, y2, y3⟩ := x.1 q in_new
  exact (h.ext x1 hg).put hs y1 (y2.trans K_new) (y3.trans N_new)
theorem xDn.done {S : List Nat} {P0 P : PP} {a c : Nat} {ks : List Nat} (h : xDn S P0 P a ks) (hc : pK P0 a = c) (hc2 : c < 13) (hk : ∀ k, (shp c k).isSome = true → k ∈ ks) : xAG S P ∧ xExt [a] P0 P := by
  refine ⟨fun b hb hs => ?_, h.1⟩
  by_cases e : b = a
  · subst e
    refine ⟨fun k kd n q => ?_, fun h1 _ => ?_⟩
    · have q2 : shp c k = some (kd, n) := by rw [← hc, ← h.kind]; exact q
      exact h.2.2.2 k (hk k (by rw [q2]; rfl)) kd n q
    · rw [h.kind, hc] at h1; omega
  · exact h.2.1 b hb (fun q => by rcases List.mem_cons.mp q with q | q; exact e q; exact hs q)
end
section
theorem xFd.at {P : PP} {a c : Nat} (h : xOk P a) (hc : pK P a = c) (k kd n : Nat) (hs : shp c k = some (kd, n)) : ∃ b, pR P a k = some b ∧ b ∈ pL P ∧ pK P b = kd ∧ pN P b = n := h.1 k kd n (by rw [hc]; exact hs)
theorem xAr.at {P : PP} {a c : Nat} (h : xOk P a) (hc : pK P a = c) (h16 : 16 ≤ c ∧ c ≤ 19) (j : Nat) (hj : j < pN P a) : ∃ b, pR P a j = some b ∧ b ∈ pL P ∧ pK P b = ek c := by
  subst hc
  exact h.2 h16.1 h16.2 j hj
theorem nar_b {v : Int32} (h : v = 0 ∨ v = 1) : narrow .boolean (.int v) = .int v := by rcases h with rfl | rfl <;> rfl
theorem i_nlt {a b : Int32} (h : ¬ a < b) : b.toInt ≤ a.toInt := by
  rw [Int32.lt_iff_toInt_lt] at h; omega
theorem i_nle {a b : Int32} (h : ¬ a ≤ b) : b.toInt < a.toInt := by
  rw [Int32.le_iff_toInt_le] at h; omega
theorem IX.int {i : Int32} {n : Nat} (h0 : 0 ≤ i.toInt) (h1 : i.toInt < n) : IX i n i.toInt.toNat := by
  refine ⟨rfl, ?_⟩
  exact vp_in_iff.mpr ⟨h0, h1⟩
section GB
variable {E : EV} {R : Room} {D : va_G} {cy : Nat → ClassId} {nL : Nat} {P : PP} {cs sl pc : Nat} {lv : List (Nat × Value)} {rest : List Value} {cc : ByteArray} {own : String}
theorem b_if_lt (C : Cx E D cy nL cc own) {x : Int32} {off : Int} (tgt : Nat) (d : decode cc pc = .ok (.ifCond .lt off, 3)) (ht : (pc : Int) + off = (tgt : Int)) (kt : x.toInt < 0 → G E R D cy nL P cs sl tgt lv rest) (kf : 0 ≤ x.toInt → G E R D cy nL P cs sl (pc + 3) lv rest) : G E R D cy nL P cs sl pc lv (.int x :: rest) := g_if_lt C tgt d ht (fun q => kt (Int32.lt_iff_toInt_lt.mp q)) (fun q => kf (i_nlt q))
theorem b_icmp_lt (C : Cx E D cy nL cc own) {x y : Int32} {off : Int} (tgt : Nat) (d : decode cc pc = .ok (.if_icmp .lt off, 3)) (ht : (pc : Int) + off = (tgt : Int)) (kt : x.toInt < y.toInt → G E R D cy nL P cs sl tgt lv rest) (kf : y.toInt ≤ x.toInt → G E R D cy nL P cs sl (pc + 3) lv rest) : G E R D cy nL P cs sl pc lv (.int y :: .int x :: rest) := g_icmp_lt C tgt d ht (fun q => kt (Int32.lt_iff_toInt_lt.mp q)) (fun q => kf (i_nlt q))
theorem b_if_ge (C : Cx E D cy nL cc own) {x : Int32} {off : Int} (tgt : Nat) (d : decode cc pc = .ok (.ifCond .ge off, 3)) (ht : (pc : Int) + off = (tgt : Int)) (kt : 0 ≤ x.toInt → G E R D cy nL P cs sl tgt lv rest) (kf : x.toInt < 0 → G E R D cy nL P cs sl (pc + 3) lv rest) : G E R D cy nL P cs sl pc lv (.int x :: rest) := g_if_ge C tgt d ht (fun q => kt (Int32.le_iff_toInt_le.mp q)) (fun q => kf (i_nle q))
theorem b_icmp_ge (C : Cx E D cy nL cc own) {x y : Int32} {off : Int} (tgt : Nat) (d : decode cc pc = .ok (.if_icmp .ge off, 3)) (ht : (pc : Int) + off = (tgt : Int)) (kt : y.toInt ≤ x.toInt → G E R D cy nL P cs sl tgt lv rest) (kf : x.toInt < y.toInt → G E R D cy nL P cs sl (pc + 3) lv rest) : G E R D cy nL P cs sl pc lv (.int y :: .int x :: rest) := g_icmp_ge C tgt d ht (fun q => kt (Int32.le_iff_toInt_le.mp q)) (fun q => kf (i_nle q))
theorem b_if_gt (C : Cx E D cy nL cc own) {x : Int32} {off : Int} (tgt : Nat) (d : decode cc pc = .ok (.ifCond .gt off, 3)) (ht : (pc : Int) + off = (tgt : Int)) (kt : 0 < x.toInt → G E R D cy nL P cs sl tgt lv rest) (kf : x.toInt ≤ 0 → G E R D cy nL P cs sl (pc + 3) lv rest) : G E R D cy nL P cs sl pc lv (.int x :: rest) := g_if_gt C tgt d ht (fun q => kt (Int32.lt_iff_toInt_lt.mp q)) (fun q => kf (i_nlt q))
theorem b_icmp_gt (C : Cx E D cy nL cc own) {x y : Int32} {off : Int} (tgt : Nat) (d : decode cc pc = .ok (.if_icmp .gt off, 3)) (ht : (pc : Int) + off = (tgt : Int)) (kt : y.toInt < x.toInt → G E R D cy nL P cs sl tgt lv rest) (kf : x.toInt ≤ y.toInt → G E R D cy nL P cs sl (pc + 3) lv rest) : G E R D cy nL P cs sl pc lv (.int y :: .int x :: rest) := g_icmp_gt C tgt d ht (fun q => kt (Int32.lt_iff_toInt_lt.mp q)) (fun q => kf (i_nlt q))
theorem b_if_le (C : Cx E D cy nL cc own) {x : Int32} {off : Int} (tgt : Nat) (d : decode cc pc = .ok (.ifCond .le off, 3)) (ht : (pc : Int) + off = (tgt : Int)) (kt : x.toInt ≤ 0 → G E R D cy nL P cs sl tgt lv rest) (kf : 0 < x.toInt → G E R D cy nL P cs sl (pc + 3) lv rest) : G E R D cy nL P cs sl pc lv (.int x :: rest) := g_if_le C tgt d ht (fun q => kt (Int32.le_iff_toInt_le.mp q)) (fun q => kf (i_nle q))
theorem b_icmp_le (C : Cx E D cy nL cc own) {x y : Int32} {off : Int} (tgt : Nat) (d : decode cc pc = .ok (.if_icmp .le off, 3)) (ht : (pc : Int) + off = (tgt : Int)) (kt : x.toInt ≤ y.toInt → G E R D cy nL P cs sl tgt lv rest) (kf : y.toInt < x.toInt → G E R D cy nL P cs sl (pc + 3) lv rest) : G E R D cy nL P cs sl pc lv (.int y :: .int x :: rest) := g_icmp_le C tgt d ht (fun q => kt (Int32.le_iff_toInt_le.mp q)) (fun q => kf (i_nle q))
theorem b_if_eq (C : Cx E D cy nL cc own) {x : Int32} {off : Int} (tgt : Nat) (d : decode cc pc = .ok (.ifCond .eq off, 3)) (ht : (pc : Int) + off = (tgt : Int)) (kt : x = 0 → G E R D cy nL P cs sl tgt lv rest) (kf : ¬ x = 0 → G E R D cy nL P cs sl (pc + 3) lv rest) : G E R D cy nL P cs sl pc lv (.int x :: rest) := g_if_eq C tgt d ht kt kf
theorem b_icmp_eq (C : Cx E D cy nL cc own) {x y : Int32} {off : Int} (tgt : Nat) (d : decode cc pc = .ok (.if_icmp .eq off, 3)) (ht : (pc : Int) + off = (tgt : Int)) (kt : x = y → G E R D cy nL P cs sl tgt lv rest) (kf : ¬ x = y → G E R D cy nL P cs sl (pc + 3) lv rest) : G E R D cy nL P cs sl pc lv (.int y :: .int x :: rest) := g_icmp_eq C tgt d ht kt kf
theorem b_if_ne (C : Cx E D cy nL cc own) {x : Int32} {off : Int} (tgt : Nat) (d : decode cc pc = .ok (.ifCond .ne off, 3)) (ht : (pc : Int) + off = (tgt : Int)) (kt : ¬ x = 0 → G E R D cy nL P cs sl tgt lv rest) (kf : x = 0 → G E R D cy nL P cs sl (pc + 3) lv rest) : G E R D cy nL P cs sl pc lv (.int x :: rest) := g_if_ne C tgt d ht kt kf
theorem b_icmp_ne (C : Cx E D cy nL cc own) {x y : Int32} {off : Int} (tgt : Nat) (d : decode cc pc = .ok (.if_icmp .ne off, 3)) (ht : (pc : Int) + off = (tgt : Int)) (kt : ¬ x = y → G E R D cy nL P cs sl tgt lv rest) (kf : x = y → G E R D cy nL P cs sl (pc + 3) lv rest) : G E R D cy nL P cs sl pc lv (.int y :: .int x :: rest) := g_icmp_ne C tgt d ht kt kf
theorem g_astore_nN (C : Cx E D cy nL cc own) {z : Fin 4} {i : Nat} {lv' : List (Nat × Value)} (d : decode cc pc = .ok (.astore_n z, 1)) (hi : (z : Nat) = i) (hn : i < nL) (hv : (i, Value.null) :: lv.filter (fun q => !(q.1 == i) && !(q.1 + 1 == i && q.2.category == 2)) = lv') (k : G E R D cy nL P cs sl (pc + 1) lv' rest) : G E R D cy nL P cs sl pc lv (.null :: rest) := by
  obtain ⟨p, l, e, s, m, args, below, meth, c, Q, A⟩ := E
  obtain ⟨hx, hb, hml, hown, hT, hK, hA, hlk⟩ := C
  intro H locs ls hP hD hS hl
  exact lv_astore_nN hx hb d hi hl hn hv (fun ls' hl' => k H locs ls' hP hD hS hl')
theorem g_astoreN (C : Cx E D cy nL cc own) {i : Nat} {lv' : List (Nat × Value)} (d : decode cc pc = .ok (.astore i, 2)) (hn : i < nL) (hv : (i, Value.null) :: lv.filter (fun q => !(q.1 == i) && !(q.1 + 1 == i && q.2.category == 2)) = lv') (k : G E R D cy nL P cs sl (pc + 2) lv' rest) : G E R D cy nL P cs sl pc lv (.null :: rest) := by
  obtain ⟨p, l, e, s, m, args, below, meth, c, Q, A⟩ := E
  obtain ⟨hx, hb, hml, hown, hT, hK, hA, hlk⟩ := C
  intro H locs ls hP hD hS hl
  exact lv_astoreN hx hb d hl hn hv (fun ls' hl' => k H locs ls' hP hD hS hl')
end GB
/-- the pool with other numbers in its cells -/
def pWI (P : PP) (I2 : Nat → Nat → Int32) (J2 : Nat → Nat → Int64) : PP := (pL P, pK P, pN P, I2, pR P, J2)
theorem pWI_self (P : PP) : P = pWI P (pI P) (pJ P) := rfl
theorem ti_nI {i : Nat} (h : i < 2147483648) : (nI i).toInt = (i : Int) := nI_toInt h
theorem IX.ofI {i n : Nat} (h : i < n) (hn : n < 2 ^ 31) : IX (nI i) n i := IX.of rfl h hn
theorem IX.inn {i n N : Nat} (hN : n = N) (h : i < N) (h2 : N < 2147483648) : IX (nI i) n i := by subst hN; exact IX.ofI h h2
theorem IX.litn {i : Int32} {j n N : Nat} (hN : n = N) (hi : i = Int32.ofNat j) (h : j < N) (h2 : N < 2147483648) : IX i n j := by subst hN; exact IX.of (j := j) hi h h2
theorem IX.intn {i : Int32} {n N : Nat} (hN : n = N) (h0 : 0 ≤ i.toInt) (h1 : i.toInt < (N : Int)) : IX i n i.toInt.toNat := by subst hN; exact IX.int h0 h1
theorem ix_of {x : Int32} {n : Nat} (h0 : 0 ≤ x.toInt) (h1 : x.toInt < (n : Int)) (hn : n < 2147483648) : ∃ j : Nat, j < n ∧ x = nI j := by
  obtain ⟨j, h2, h3⟩ := nI_of (x := x) (by rw [Int32.lt_iff_toInt_lt]; show ¬ x.toInt < 0; omega)
  refine ⟨j, ?_, h3⟩
  rw [h3, nI_toInt h2] at h1
  omega
theorem ix_4 (j i : Nat) : nI j * 4 + nI i = nI (j * 4 + i) := by
  rw [show (4 : Int32) = nI 4 from rfl, pk_mul, nI_add]
theorem lt_n {j n N : Nat} (hN : n = N) (h : j < N) : j < n := by subst hN; exact h
/-- a new object of the class, as it is seen by the calls -/
def FC (P : PP) (x : Nat) : Prop := x ∈ pL P ∧ pK P x = 11 ∧ (∀ a, a ∈ pL P → xOk P a) ∧ (∀ a, a ∈ pL P → pK P a = 1 → pI P a 4 = 0) ∧ (∀ a, a ∈ pL P → pK P a = 6 → pI P a 1 = 0) ∧ (∀ a, a ∈ pL P → pK P a = 9 → pI P a 1 = 0) ∧ pI P x 13 = 0 ∧ (∀ b, pR P x 5 = some b → ∀ j, j < 4 → pI P b j = 1) ∧ (∀ b, pR P x 3 = some b → ∀ j, j < 4 → pI P b j = 0)
/-- a new object of the reference -/
def FM (P : PP) (x : Nat) : Prop := x ∈ pL P ∧ pK P x = 12 ∧ (∀ a, a ∈ pL P → xOk P a) ∧ (∀ k k2 b, pR P x k = some b → pR P x k2 = some b → k = k2) ∧ (∀ b, pR P x 10 = some b → ∀ j, pI P b j = 0) ∧ (∀ b, pR P x 20 = some b → ∀ j, pI P b j = 0) ∧ (∀ b, pR P x 26 = some b → ∀ j, pI P b j = 0) ∧ pI P x 2 = 0 ∧ pI P x 27 = 0 ∧ (∀ b, pR P x 46 = some b → ∀ j, j < 4 → pI P b j = 1)
end
section
theorem dX11_isBook_0 : decode cX11_isBook 0 = .ok (.iload_n 0, 1) := by decide +kernel
theorem dX11_isBook_1 : decode cX11_isBook 1 = .ok (.ifCond .lt 12, 3) := by decide +kernel
theorem dX11_isBook_4 : decode cX11_isBook 4 = .ok (.iload_n 0, 1) := by decide +kernel
theorem dX11_isBook_5 : decode cX11_isBook 5 = .ok (.iconst 2, 1) := by decide +kernel
theorem dX11_isBook_6 : decode cX11_isBook 6 = .ok (.if_icmp .ge 7, 3) := by decide +kernel
theorem dX11_isBook_9 : decode cX11_isBook 9 = .ok (.iconst 1, 1) := by decide +kernel
theorem dX11_isBook_10 : decode cX11_isBook 10 = .ok (.goto 4, 3) := by decide +kernel
theorem dX11_isBook_13 : decode cX11_isBook 13 = .ok (.iconst 0, 1) := by decide +kernel
theorem dX11_isBook_14 : decode cX11_isBook 14 = .ok (.ireturn, 1) := by decide +kernel
set_option maxHeartbeats 4000000 in
set_option maxRecDepth 100000 in
theorem c_X11_isBook {P : PP} {b : Int32}  : CtrI yX11_isBook cX11_isBook 1 (some Jvm.ClassFile.FieldType.boolean) ({ frames := 1, cells := 0, slots := 0, locals := 64 } : Room) 0 0 P [.int b] (fun r P2 => P = P2 ∧ ((r = 1 ∧ (0 ≤ b.toInt ∧ b.toInt < 2)) ∨ (r = 0 ∧ ¬ (0 ≤ b.toInt ∧ b.toInt < 2)))) := by
  refine enI (lv := [(0, .int b)]) (by decide) (Nat.le_of_ble_eq_true rfl) rfl (fun E D cy C Ci0 ret => ?_)
  refine g_iload_n C dX11_isBook_0 rfl 0 rfl ?_
  refine b_if_lt C 13 dX11_isBook_1 (by decide) (fun h1 => ?_) (fun h1 => ?_)
  · have h1 : b.toInt < 0 := h1
    refine g_iconst (v := 0) C dX11_isBook_13 (by decide) ?_
    exact ret _ _ _ _ _ _ dX11_isBook_14 rfl (by decide) (by decide) (⟨rfl, Or.inr ⟨rfl, by first | omega | (intro h9; omega)⟩⟩)
  · have h1 : 0 ≤ b.toInt := h1
    refine g_iload_n C dX11_isBook_4 rfl 0 rfl ?_
    refine g_iconst (v := 2) C dX11_isBook_5 (by decide) ?_
    refine b_icmp_ge C 13 dX11_isBook_6 (by decide) (fun h2 => ?_) (fun h2 => ?_)
    · have h2 : 2 ≤ b.toInt := h2
      refine g_iconst (v := 0) C dX11_isBook_13 (by decide) ?_
      exact ret _ _ _ _ _ _ dX11_isBook_14 rfl (by decide) (by decide) (⟨rfl, Or.inr ⟨rfl, by first | omega | (intro h9; omega)⟩⟩)
    · have h2 : b.toInt < 2 := h2
      refine g_iconst (v := 1) C dX11_isBook_9 (by decide) ?_
      refine g_goto C 14 dX11_isBook_10 (by decide) ?_
      exact ret _ _ _ _ _ _ dX11_isBook_14 rfl (by decide) (by decide) (⟨rfl, Or.inl ⟨rfl, by first | omega | (intro h9; omega)⟩⟩)
theorem dX11_isQuarter_0 : decode cX11_isQuarter 0 = .ok (.iload_n 0, 1) := by decide +kernel
theorem dX11_isQuarter_1 : decode cX11_isQuarter 1 = .ok (.ifCond .lt 12, 3) := by decide +kernel
theorem dX11_isQuarter_4 : decode cX11_isQuarter 4 = .ok (.iload_n 0, 1) := by decide +kernel
theorem dX11_isQuarter_5 : decode cX11_isQuarter 5 = .ok (.iconst 4, 1) := by decide +kernel
theorem dX11_isQuarter_6 : decode cX11_isQuarter 6 = .ok (.if_icmp .ge 7, 3) := by decide +kernel
theorem dX11_isQuarter_9 : decode cX11_isQuarter 9 = .ok (.iconst 1, 1) := by decide +kernel
theorem dX11_isQuarter_10 : decode cX11_isQuarter 10 = .ok (.goto 4, 3) := by decide +kernel
theorem dX11_isQuarter_13 : decode cX11_isQuarter 13 = .ok (.iconst 0, 1) := by decide +kernel
theorem dX11_isQuarter_14 : decode cX11_isQuarter 14 = .ok (.ireturn, 1) := by decide +kernel
set_option maxHeartbeats 4000000 in
set_option maxRecDepth 100000 in
theorem c_X11_isQuarter {P : PP} {q : Int32}  : CtrI yX11_isQuarter cX11_isQuarter 1 (some Jvm.ClassFile.FieldType.boolean) ({ frames := 1, cells := 0, slots := 0, locals := 64 } : Room) 0 0 P [.int q] (fun r P2 => P = P2 ∧ ((r = 1 ∧ (0 ≤ q.toInt ∧ q.toInt < 4)) ∨ (r = 0 ∧ ¬ (0 ≤ q.toInt ∧ q.toInt < 4)))) := by
  refine enI (lv := [(0, .int q)]) (by decide) (Nat.le_of_ble_eq_true rfl) rfl (fun E D cy C Ci0 ret => ?_)
  refine g_iload_n C dX11_isQuarter_0 rfl 0 rfl ?_
  refine b_if_lt C 13 dX11_isQuarter_1 (by decide) (fun h3 => ?_) (fun h3 => ?_)
  · have h3 : q.toInt < 0 := h3
    refine g_iconst (v := 0) C dX11_isQuarter_13 (by decide) ?_
    exact ret _ _ _ _ _ _ dX11_isQuarter_14 rfl (by decide) (by decide) (⟨rfl, Or.inr ⟨rfl, by first | omega | (intro h9; omega)⟩⟩)
  · have h3 : 0 ≤ q.toInt := h3
    refine g_iload_n C dX11_isQuarter_4 rfl 0 rfl ?_
    refine g_iconst (v := 4) C dX11_isQuarter_5 (by decide) ?_
    refine b_icmp_ge C 13 dX11_isQuarter_6 (by decide) (fun h4 => ?_) (fun h4 => ?_)
    · have h4 : 4 ≤ q.toInt := h4
      refine g_iconst (v := 0) C dX11_isQuarter_13 (by decide) ?_
      exact ret _ _ _ _ _ _ dX11_isQuarter_14 rfl (by decide) (by decide) (⟨rfl, Or.inr ⟨rfl, by first | omega | (intro h9; omega)⟩⟩)
    · have h4 : q.toInt < 4 := h4
      refine g_iconst (v := 1) C dX11_isQuarter_9 (by decide) ?_
      refine g_goto C 14 dX11_isQuarter_10 (by decide) ?_
      exact ret _ _ _ _ _ _ dX11_isQuarter_14 rfl (by decide) (by decide) (⟨rfl, Or.inl ⟨rfl, by first | omega | (intro h9; omega)⟩⟩)
theorem dX11_isOctet_0 : decode cX11_isOctet 0 = .ok (.iload_n 0, 1) := by decide +kernel
theorem dX11_isOctet_1 : decode cX11_isOctet 1 = .ok (.ifCond .lt 12, 3) := by decide +kernel
theorem dX11_isOctet_4 : decode cX11_isOctet 4 = .ok (.iload_n 0, 1) := by decide +kernel
theorem dX11_isOctet_5 : decode cX11_isOctet 5 = .ok (.iconst 2, 1) := by decide +kernel
theorem dX11_isOctet_6 : decode cX11_isOctet 6 = .ok (.if_icmp .ge 7, 3) := by decide +kernel
theorem dX11_isOctet_9 : decode cX11_isOctet 9 = .ok (.iconst 1, 1) := by decide +kernel
theorem dX11_isOctet_10 : decode cX11_isOctet 10 = .ok (.goto 4, 3) := by decide +kernel
theorem dX11_isOctet_13 : decode cX11_isOctet 13 = .ok (.iconst 0, 1) := by decide +kernel
theorem dX11_isOctet_14 : decode cX11_isOctet 14 = .ok (.ireturn, 1) := by decide +kernel
set_option maxHeartbeats 4000000 in
set_option maxRecDepth 100000 in
theorem c_X11_isOctet {P : PP} {q : Int32}  : CtrI yX11_isOctet cX11_isOctet 1 (some Jvm.ClassFile.FieldType.boolean) ({ frames := 1, cells := 0, slots := 0, locals := 64 } : Room) 0 0 P [.int q] (fun r P2 => P = P2 ∧ ((r = 1 ∧ (0 ≤ q.toInt ∧ q.toInt < 2)) ∨ (r = 0 ∧ ¬ (0 ≤ q.toInt ∧ q.toInt < 2)))) := by
  refine enI (lv := [(0, .int q)]) (by decide) (Nat.le_of_ble_eq_true rfl) rfl (fun E D cy C Ci0 ret => ?_)
  refine g_iload_n C dX11_isOctet_0 rfl 0 rfl ?_
  refine b_if_lt C 13 dX11_isOctet_1 (by decide) (fun h5 => ?_) (fun h5 => ?_)
  · have h5 : q.toInt < 0 := h5
    refine g_iconst (v := 0) C dX11_isOctet_13 (by decide) ?_
    exact ret _ _ _ _ _ _ dX11_isOctet_14 rfl (by decide) (by decide) (⟨rfl, Or.inr ⟨rfl, by first | omega | (intro h9; omega)⟩⟩)
  · have h5 : 0 ≤ q.toInt := h5
    refine g_iload_n C dX11_isOctet_4 rfl 0 rfl ?_
    refine g_iconst (v := 2) C dX11_isOctet_5 (by decide) ?_
    refine b_icmp_ge C 13 dX11_isOctet_6 (by decide) (fun h6 => ?_) (fun h6 => ?_)
    · have h6 : 2 ≤ q.toInt := h6
      refine g_iconst (v := 0) C dX11_isOctet_13 (by decide) ?_
      exact ret _ _ _ _ _ _ dX11_isOctet_14 rfl (by decide) (by decide) (⟨rfl, Or.inr ⟨rfl, by first | omega | (intro h9; omega)⟩⟩)
    · have h6 : q.toInt < 2 := h6
      refine g_iconst (v := 1) C dX11_isOctet_9 (by decide) ?_
      refine g_goto C 14 dX11_isOctet_10 (by decide) ?_
      exact ret _ _ _ _ _ _ dX11_isOctet_14 rfl (by decide) (by decide) (⟨rfl, Or.inl ⟨rfl, by first | omega | (intro h9; omega)⟩⟩)
theorem dX11_isNumber_0 : decode cX11_isNumber 0 = .ok (.iload_n 0, 1) := by decide +kernel
theorem dX11_isNumber_1 : decode cX11_isNumber 1 = .ok (.ifCond .lt 14, 3) := by decide +kernel
theorem dX11_isNumber_4 : decode cX11_isNumber 4 = .ok (.iload_n 0, 1) := by decide +kernel
theorem dX11_isNumber_5 : decode cX11_isNumber 5 = .ok (.sipush 9999, 3) := by decide +kernel
theorem dX11_isNumber_8 : decode cX11_isNumber 8 = .ok (.if_icmp .gt 7, 3) := by decide +kernel
theorem dX11_isNumber_11 : decode cX11_isNumber 11 = .ok (.iconst 1, 1) := by decide +kernel
theorem dX11_isNumber_12 : decode cX11_isNumber 12 = .ok (.goto 4, 3) := by decide +kernel
theorem dX11_isNumber_15 : decode cX11_isNumber 15 = .ok (.iconst 0, 1) := by decide +kernel
theorem dX11_isNumber_16 : decode cX11_isNumber 16 = .ok (.ireturn, 1) := by decide +kernel
set_option maxHeartbeats 4000000 in
set_option maxRecDepth 100000 in
theorem c_X11_isNumber {P : PP} {q : Int32}  : CtrI yX11_isNumber cX11_isNumber 1 (some Jvm.ClassFile.FieldType.boolean) ({ frames := 1, cells := 0, slots := 0, locals := 64 } : Room) 0 0 P [.int q] (fun r P2 => P = P2 ∧ ((r = 1 ∧ (0 ≤ q.toInt ∧ q.toInt ≤ 9999)) ∨ (r = 0 ∧ ¬ (0 ≤ q.toInt ∧ q.toInt ≤ 9999)))) := by
  refine enI (lv := [(0, .int q)]) (by decide) (Nat.le_of_ble_eq_true rfl) rfl (fun E D cy C Ci0 ret => ?_)
  refine g_iload_n C dX11_isNumber_0 rfl 0 rfl ?_
  refine b_if_lt C 15 dX11_isNumber_1 (by decide) (fun h7 => ?_) (fun h7 => ?_)
  · have h7 : q.toInt < 0 := h7
    refine g_iconst (v := 0) C dX11_isNumber_15 (by decide) ?_
    exact ret _ _ _ _ _ _ dX11_isNumber_16 rfl (by decide) (by decide) (⟨rfl, Or.inr ⟨rfl, by first | omega | (intro h9; omega)⟩⟩)
  · have h7 : 0 ≤ q.toInt := h7
    refine g_iload_n C dX11_isNumber_4 rfl 0 rfl ?_
    refine g_sipush (v := 9999) C dX11_isNumber_5 (by decide) ?_
    refine b_icmp_gt C 15 dX11_isNumber_8 (by decide) (fun h8 => ?_) (fun h8 => ?_)
    · have h8 : 9999 < q.toInt := h8
      refine g_iconst (v := 0) C dX11_isNumber_15 (by decide) ?_
      exact ret _ _ _ _ _ _ dX11_isNumber_16 rfl (by decide) (by decide) (⟨rfl, Or.inr ⟨rfl, by first | omega | (intro h9; omega)⟩⟩)
    · have h8 : q.toInt ≤ 9999 := h8
      refine g_iconst (v := 1) C dX11_isNumber_11 (by decide) ?_
      refine g_goto C 16 dX11_isNumber_12 (by decide) ?_
      exact ret _ _ _ _ _ _ dX11_isNumber_16 rfl (by decide) (by decide) (⟨rfl, Or.inl ⟨rfl, by first | omega | (intro h9; omega)⟩⟩)
theorem dX11_isTold_0 : decode cX11_isTold 0 = .ok (.iload_n 1, 1) := by decide +kernel
theorem dX11_isTold_1 : decode cX11_isTold 1 = .ok (.invokestatic 84, 3) := by decide +kernel
theorem dX11_isTold_4 : decode cX11_isTold 4 = .ok (.ifCond .eq 19, 3) := by decide +kernel
theorem dX11_isTold_7 : decode cX11_isTold 7 = .ok (.aload_n 0, 1) := by decide +kernel
theorem dX11_isTold_8 : decode cX11_isTold 8 = .ok (.getfield 11, 3) := by decide +kernel
theorem dX11_isTold_11 : decode cX11_isTold 11 = .ok (.iload_n 1, 1) := by decide +kernel
theorem dX11_isTold_12 : decode cX11_isTold 12 = .ok (.aaload, 1) := by decide +kernel
theorem dX11_isTold_13 : decode cX11_isTold 13 = .ok (.getfield 176, 3) := by decide +kernel
theorem dX11_isTold_16 : decode cX11_isTold 16 = .ok (.ifCond .eq 7, 3) := by decide +kernel
theorem dX11_isTold_23 : decode cX11_isTold 23 = .ok (.iconst 0, 1) := by decide +kernel
theorem dX11_isTold_24 : decode cX11_isTold 24 = .ok (.ireturn, 1) := by decide +kernel
set_option maxHeartbeats 4000000 in
set_option maxRecDepth 100000 in
theorem c_X11_isTold {P : PP} {x : Nat} {b : Int32} (F : FC P x) : CtrI yX11_isTold cX11_isTold 2 (some Jvm.ClassFile.FieldType.boolean) ({ frames := 2, cells := 0, slots := 0, locals := 128 } : Room) 0 0 P [.ref x, .int b] (fun r P2 => P = P2 ∧ r = 0) := by
  obtain ⟨hx, hxK, ok, z1, z6, z9, zt, zh, zm⟩ := F
  refine enI (lv := [(0, .ref x), (1, .int b)]) (by decide) (Nat.le_of_ble_eq_true rfl) rfl (fun E D cy C Ci0 ret => ?_)
  refine g_iload_n C dX11_isTold_0 rfl 1 rfl ?_
  refine g_callSI (b := 0) (ci := 0) (rest := []) C ms_X11_84 [.int b] (c_X11_isBook) rfl rfl (by decide) (by decide) (by decide) dX11_isTold_1 (fun r9 Q10 h11 => ?_)
  obtain ⟨rfl, h11⟩ := h11
  rcases h11 with ⟨rfl, h11⟩ | ⟨rfl, h11⟩
  · refine b_if_eq C 23 dX11_isTold_4 (by decide) (fun h => absurd h (by decide)) (fun _ => ?_)
    refine g_aload_n C dX11_isTold_7 rfl 0 rfl ?_
    obtain ⟨b12, h13⟩ := xFd.at (ok x hx) hxK 0 17 2 rfl
    refine g_getR C fi_X11_11 rfl h13.1 hx hxK dX11_isTold_8 ?_
    refine g_iload_n C dX11_isTold_11 rfl 1 rfl ?_
    obtain ⟨b14, h15⟩ := xAr.at (ok b12 h13.2.1) h13.2.2.1 (by decide) (b.toInt.toNat) (lt_n h13.2.2.2 (by omega))
    refine g_aldR C h13.2.1 h13.2.2.1 (by decide) (IX.intn (i := b) h13.2.2.2 (by omega) (by omega)) h15.1 dX11_isTold_12 ?_
    refine g_getI C fi_X11_176 (by decide) h15.2.1 h15.2.2 dX11_isTold_13 ?_
    rw [show pI P b14 4 = 0 from z1 b14 h15.2.1 h15.2.2]
    refine b_if_eq C 23 dX11_isTold_16 (by decide) (fun _ => ?_) (fun h => absurd h (by decide))
    refine g_iconst (v := 0) C dX11_isTold_23 (by decide) ?_
    exact ret _ _ _ _ _ _ dX11_isTold_24 rfl (by decide) (by decide) (⟨rfl, rfl⟩)
  · refine b_if_eq C 23 dX11_isTold_4 (by decide) (fun _ => ?_) (fun h => absurd h (by decide))
    refine g_iconst (v := 0) C dX11_isTold_23 (by decide) ?_
    exact ret _ _ _ _ _ _ dX11_isTold_24 rfl (by decide) (by decide) (⟨rfl, rfl⟩)
theorem dX11_isLeaflet_0 : decode cX11_isLeaflet 0 = .ok (.aload_n 0, 1) := by decide +kernel
theorem dX11_isLeaflet_1 : decode cX11_isLeaflet 1 = .ok (.iload_n 1, 1) := by decide +kernel
theorem dX11_isLeaflet_2 : decode cX11_isLeaflet 2 = .ok (.invokevirtual 97, 3) := by decide +kernel
theorem dX11_isLeaflet_5 : decode cX11_isLeaflet 5 = .ok (.ifCond .eq 14, 3) := by decide +kernel
theorem dX11_isLeaflet_19 : decode cX11_isLeaflet 19 = .ok (.iconst 0, 1) := by decide +kernel
theorem dX11_isLeaflet_20 : decode cX11_isLeaflet 20 = .ok (.ireturn, 1) := by decide +kernel
set_option maxHeartbeats 4000000 in
set_option maxRecDepth 100000 in
theorem c_X11_isLeaflet {P : PP} {x : Nat} {b : Int32} {n : Int32} (F : FC P x) : CtrI yX11_isLeaflet cX11_isLeaflet 3 (some Jvm.ClassFile.FieldType.boolean) ({ frames := 3, cells := 0, slots := 0, locals := 192 } : Room) 0 0 P [.ref x, .int b, .int n] (fun r P2 => P = P2 ∧ r = 0) := by
  obtain ⟨hx, hxK, ok, z1, z6, z9, zt, zh, zm⟩ := F
  refine enI (lv := [(0, .ref x), (1, .int b), (2, .int n)]) (by decide) (Nat.le_of_ble_eq_true rfl) rfl (fun E D cy C Ci0 ret => ?_)
  refine g_aload_n C dX11_isLeaflet_0 rfl 0 rfl ?_
  refine g_iload_n C dX11_isLeaflet_1 rfl 1 rfl ?_
  refine g_callVI (rest := []) C mv_X11_97 [.int b] (c_X11_isTold ⟨hx, hxK, ok, z1, z6, z9, zt, zh, zm⟩) hx hxK rfl rfl (by decide) (by decide) (by decide) dX11_isLeaflet_2 (fun r16 Q17 h18 => ?_)
  obtain ⟨rfl, rfl⟩ := h18
  refine b_if_eq C 19 dX11_isLeaflet_5 (by decide) (fun _ => ?_) (fun h => absurd h (by decide))
  refine g_iconst (v := 0) C dX11_isLeaflet_19 (by decide) ?_
  exact ret _ _ _ _ _ _ dX11_isLeaflet_20 rfl (by decide) (by decide) (⟨rfl, rfl⟩)
theorem dX11_isPageOf_0 : decode cX11_isPageOf 0 = .ok (.aload_n 0, 1) := by decide +kernel
theorem dX11_isPageOf_1 : decode cX11_isPageOf 1 = .ok (.iload_n 1, 1) := by decide +kernel
theorem dX11_isPageOf_2 : decode cX11_isPageOf 2 = .ok (.invokevirtual 97, 3) := by decide +kernel
theorem dX11_isPageOf_5 : decode cX11_isPageOf 5 = .ok (.ifCond .eq 24, 3) := by decide +kernel
theorem dX11_isPageOf_29 : decode cX11_isPageOf 29 = .ok (.iconst 0, 1) := by decide +kernel
theorem dX11_isPageOf_30 : decode cX11_isPageOf 30 = .ok (.ireturn, 1) := by decide +kernel
set_option maxHeartbeats 4000000 in
set_option maxRecDepth 100000 in
theorem c_X11_isPageOf {P : PP} {x : Nat} {b : Int32} {n : Int32} (F : FC P x) : CtrI yX11_isPageOf cX11_isPageOf 3 (some Jvm.ClassFile.FieldType.boolean) ({ frames := 3, cells := 0, slots := 0, locals := 192 } : Room) 0 0 P [.ref x, .int b, .int n] (fun r P2 => P = P2 ∧ r = 0) := by
  obtain ⟨hx, hxK, ok, z1, z6, z9, zt, zh, zm⟩ := F
  refine enI (lv := [(0, .ref x), (1, .int b), (2, .int n)]) (by decide) (Nat.le_of_ble_eq_true rfl) rfl (fun E D cy C Ci0 ret => ?_)
  refine g_aload_n C dX11_isPageOf_0 rfl 0 rfl ?_
  refine g_iload_n C dX11_isPageOf_1 rfl 1 rfl ?_
  refine g_callVI (rest := []) C mv_X11_97 [.int b] (c_X11_isTold ⟨hx, hxK, ok, z1, z6, z9, zt, zh, zm⟩) hx hxK rfl rfl (by decide) (by decide) (by decide) dX11_isPageOf_2 (fun r19 Q20 h21 => ?_)
  obtain ⟨rfl, rfl⟩ := h21
  refine b_if_eq C 29 dX11_isPageOf_5 (by decide) (fun _ => ?_) (fun h => absurd h (by decide))
  refine g_iconst (v := 0) C dX11_isPageOf_29 (by decide) ?_
  exact ret _ _ _ _ _ _ dX11_isPageOf_30 rfl (by decide) (by decide) (⟨rfl, rfl⟩)
theorem dX6_at_0 : decode cX6_at 0 = .ok (.iload_n 1, 1) := by decide +kernel
theorem dX6_at_1 : decode cX6_at 1 = .ok (.ifCond .lt 26, 3) := by decide +kernel
theorem dX6_at_4 : decode cX6_at 4 = .ok (.iload_n 1, 1) := by decide +kernel
theorem dX6_at_5 : decode cX6_at 5 = .ok (.aload_n 0, 1) := by decide +kernel
theorem dX6_at_6 : decode cX6_at 6 = .ok (.getfield 17, 3) := by decide +kernel
theorem dX6_at_9 : decode cX6_at 9 = .ok (.if_icmp .ge 18, 3) := by decide +kernel
theorem dX6_at_27 : decode cX6_at 27 = .ok (.aconst_null, 1) := by decide +kernel
theorem dX6_at_28 : decode cX6_at 28 = .ok (.areturn, 1) := by decide +kernel
set_option maxHeartbeats 4000000 in
set_option maxRecDepth 100000 in
theorem c_X6_at {P : PP} {a : Nat} {k : Int32} (ha : a ∈ pL P) (haK : pK P a = 6) (z : pI P a 1 = 0) : CtrQ yX6_at cX6_at 2 (some (Jvm.ClassFile.FieldType.object "ThousandLeaflets$Paper")) ({ frames := 1, cells := 0, slots := 0, locals := 64 } : Room) 0 0 P [.ref a, .int k] (fun r P2 => P = P2 ∧ r = none) := by
  refine enQ (lv := [(0, .ref a), (1, .int k)]) (by decide) (by first | exact Or.inl ⟨_, rfl⟩ | exact Or.inr ⟨_, rfl⟩) (Nat.le_of_ble_eq_true rfl) rfl (fun E D cy C Ci0 ret => ?_)
  refine g_iload_n C dX6_at_0 rfl 1 rfl ?_
  refine b_if_lt C 27 dX6_at_1 (by decide) (fun h22 => ?_) (fun h22 => ?_)
  · have h22 : k.toInt < 0 := h22
    refine g_null C dX6_at_27 ?_
    exact ret _ _ _ _ _ _ dX6_at_28 (by decide) (by decide) (⟨rfl, rfl⟩)
  · have h22 : 0 ≤ k.toInt := h22
    refine g_iload_n C dX6_at_4 rfl 1 rfl ?_
    refine g_aload_n C dX6_at_5 rfl 0 rfl ?_
    refine g_getI C fi_X6_17 (by decide) ha haK dX6_at_6 ?_
    rw [show pI P a 1 = 0 from z]
    refine b_icmp_ge C 27 dX6_at_9 (by decide) (fun h23 => ?_) (fun h23 => ?_)
    · have h23 : 0 ≤ k.toInt := h23
      refine g_null C dX6_at_27 ?_
      exact ret _ _ _ _ _ _ dX6_at_28 (by decide) (by decide) (⟨rfl, rfl⟩)
    · have h23 : k.toInt < 0 := h23
      omega
theorem dX11_paperAt_0 : decode cX11_paperAt 0 = .ok (.iload_n 1, 1) := by decide +kernel
theorem dX11_paperAt_1 : decode cX11_paperAt 1 = .ok (.invokestatic 158, 3) := by decide +kernel
theorem dX11_paperAt_4 : decode cX11_paperAt 4 = .ok (.ifCond .eq 16, 3) := by decide +kernel
theorem dX11_paperAt_7 : decode cX11_paperAt 7 = .ok (.aload_n 0, 1) := by decide +kernel
theorem dX11_paperAt_8 : decode cX11_paperAt 8 = .ok (.getfield 17, 3) := by decide +kernel
theorem dX11_paperAt_11 : decode cX11_paperAt 11 = .ok (.iload_n 1, 1) := by decide +kernel
theorem dX11_paperAt_12 : decode cX11_paperAt 12 = .ok (.aaload, 1) := by decide +kernel
theorem dX11_paperAt_13 : decode cX11_paperAt 13 = .ok (.iload_n 2, 1) := by decide +kernel
theorem dX11_paperAt_14 : decode cX11_paperAt 14 = .ok (.invokevirtual 337, 3) := by decide +kernel
theorem dX11_paperAt_17 : decode cX11_paperAt 17 = .ok (.goto 4, 3) := by decide +kernel
theorem dX11_paperAt_20 : decode cX11_paperAt 20 = .ok (.aconst_null, 1) := by decide +kernel
theorem dX11_paperAt_21 : decode cX11_paperAt 21 = .ok (.areturn, 1) := by decide +kernel
set_option maxHeartbeats 4000000 in
set_option maxRecDepth 100000 in
theorem c_X11_paperAt {P : PP} {x : Nat} {q : Int32} {k : Int32} (F : FC P x) : CtrQ yX11_paperAt cX11_paperAt 3 (some (Jvm.ClassFile.FieldType.object "ThousandLeaflets$Paper")) ({ frames := 2, cells := 0, slots := 0, locals := 128 } : Room) 0 0 P [.ref x, .int q, .int k] (fun r P2 => P = P2 ∧ r = none) := by
  obtain ⟨hx, hxK, ok, z1, z6, z9, zt, zh, zm⟩ := F
  refine enQ (lv := [(0, .ref x), (1, .int q), (2, .int k)]) (by decide) (by first | exact Or.inl ⟨_, rfl⟩ | exact Or.inr ⟨_, rfl⟩) (Nat.le_of_ble_eq_true rfl) rfl (fun E D cy C Ci0 ret => ?_)
  refine g_iload_n C dX11_paperAt_0 rfl 1 rfl ?_
  refine g_callSI (b := 0) (ci := 0) (rest := []) C ms_X11_158 [.int q] (c_X11_isQuarter) rfl rfl (by decide) (by decide) (by decide) dX11_paperAt_1 (fun r24 Q25 h26 => ?_)
  obtain ⟨rfl, h26⟩ := h26
  rcases h26 with ⟨rfl, h26⟩ | ⟨rfl, h26⟩
  · refine b_if_eq C 20 dX11_paperAt_4 (by decide) (fun h => absurd h (by decide)) (fun _ => ?_)
    refine g_aload_n C dX11_paperAt_7 rfl 0 rfl ?_
    obtain ⟨b27, h28⟩ := xFd.at (ok x hx) hxK 1 19 4 rfl
    refine g_getR C fi_X11_17 rfl h28.1 hx hxK dX11_paperAt_8 ?_
    refine g_iload_n C dX11_paperAt_11 rfl 1 rfl ?_
    obtain ⟨b29, h30⟩ := xAr.at (ok b27 h28.2.1) h28.2.2.1 (by decide) (q.toInt.toNat) (lt_n h28.2.2.2 (by omega))
    refine g_aldR C h28.2.1 h28.2.2.1 (by decide) (IX.intn (i := q) h28.2.2.2 (by omega) (by omega)) h30.1 dX11_paperAt_12 ?_
    refine g_iload_n C dX11_paperAt_13 rfl 2 rfl ?_
    refine g_callVQ (rest := []) C mv_X11_337 [.int k] (c_X6_at h30.2.1 h30.2.2 (z6 _ h30.2.1 h30.2.2)) h30.2.1 h30.2.2 rfl rfl (by decide) (by decide) (by decide) dX11_paperAt_14 (fun r31 Q32 h33 => ?_)
    obtain ⟨rfl, rfl⟩ := h33
    refine g_goto C 21 dX11_paperAt_17 (by decide) ?_
    exact ret _ _ _ _ _ _ dX11_paperAt_21 (by decide) (by decide) (⟨rfl, rfl⟩)
  · refine b_if_eq C 20 dX11_paperAt_4 (by decide) (fun _ => ?_) (fun h => absurd h (by decide))
    refine g_null C dX11_paperAt_20 ?_
    exact ret _ _ _ _ _ _ dX11_paperAt_21 (by decide) (by decide) (⟨rfl, rfl⟩)
theorem dX11_leaflet_0 : decode cX11_leaflet 0 = .ok (.aload_n 0, 1) := by decide +kernel
theorem dX11_leaflet_1 : decode cX11_leaflet 1 = .ok (.iload_n 1, 1) := by decide +kernel
theorem dX11_leaflet_2 : decode cX11_leaflet 2 = .ok (.iload_n 2, 1) := by decide +kernel
theorem dX11_leaflet_3 : decode cX11_leaflet 3 = .ok (.invokevirtual 136, 3) := by decide +kernel
theorem dX11_leaflet_6 : decode cX11_leaflet 6 = .ok (.ifCond .ne 5, 3) := by decide +kernel
theorem dX11_leaflet_9 : decode cX11_leaflet 9 = .ok (.iconst (-1), 1) := by decide +kernel
theorem dX11_leaflet_10 : decode cX11_leaflet 10 = .ok (.ireturn, 1) := by decide +kernel
set_option maxHeartbeats 4000000 in
set_option maxRecDepth 100000 in
theorem c_X11_leaflet {P : PP} {x : Nat} {p0 : Int32} {p1 : Int32} {p2 : Int32} (F : FC P x) : CtrI yX11_leaflet cX11_leaflet 6 (some Jvm.ClassFile.FieldType.int) ({ frames := 4, cells := 0, slots := 0, locals := 256 } : Room) 0 0 P [.ref x, .int p0, .int p1, .int p2] (fun r _ => r = -1) := by
  obtain ⟨hx, hxK, ok, z1, z6, z9, zt, zh, zm⟩ := F
  refine enI (lv := [(0, .ref x), (1, .int p0), (2, .int p1), (3, .int p2)]) (by decide) (Nat.le_of_ble_eq_true rfl) rfl (fun E D cy C Ci0 ret => ?_)
  refine g_aload_n C dX11_leaflet_0 rfl 0 rfl ?_
  refine g_iload_n C dX11_leaflet_1 rfl 1 rfl ?_
  refine g_iload_n C dX11_leaflet_2 rfl 2 rfl ?_
  refine g_callVI (rest := []) C mv_X11_136 [.int p0, .int p1] (c_X11_isLeaflet ⟨hx, hxK, ok, z1, z6, z9, zt, zh, zm⟩) hx hxK rfl rfl (by decide) (by decide) (by decide) dX11_leaflet_3 (fun r34 Q35 h36 => ?_)
  obtain ⟨rfl, rfl⟩ := h36
  refine b_if_ne C 11 dX11_leaflet_6 (by decide) (fun h => absurd h (by decide)) (fun _ => ?_)
  refine g_iconst (v := (-1)) C dX11_leaflet_9 (by decide) ?_
  exact ret _ _ _ _ _ _ dX11_leaflet_10 rfl (by decide) (by decide) (rfl)
theorem dX11_told_0 : decode cX11_told 0 = .ok (.aload_n 0, 1) := by decide +kernel
theorem dX11_told_1 : decode cX11_told 1 = .ok (.iload_n 1, 1) := by decide +kernel
theorem dX11_told_2 : decode cX11_told 2 = .ok (.iload_n 2, 1) := by decide +kernel
theorem dX11_told_3 : decode cX11_told 3 = .ok (.invokevirtual 155, 3) := by decide +kernel
theorem dX11_told_6 : decode cX11_told 6 = .ok (.ifCond .ne 5, 3) := by decide +kernel
theorem dX11_told_9 : decode cX11_told 9 = .ok (.iconst (-1), 1) := by decide +kernel
theorem dX11_told_10 : decode cX11_told 10 = .ok (.ireturn, 1) := by decide +kernel
set_option maxHeartbeats 4000000 in
set_option maxRecDepth 100000 in
theorem c_X11_told {P : PP} {x : Nat} {p0 : Int32} {p1 : Int32} (F : FC P x) : CtrI yX11_told cX11_told 3 (some Jvm.ClassFile.FieldType.int) ({ frames := 4, cells := 0, slots := 0, locals := 256 } : Room) 0 0 P [.ref x, .int p0, .int p1] (fun r _ => r = -1) := by
  obtain ⟨hx, hxK, ok, z1, z6, z9, zt, zh, zm⟩ := F
  refine enI (lv := [(0, .ref x), (1, .int p0), (2, .int p1)]) (by decide) (Nat.le_of_ble_eq_true rfl) rfl (fun E D cy C Ci0 ret => ?_)
  refine g_aload_n C dX11_told_0 rfl 0 rfl ?_
  refine g_iload_n C dX11_told_1 rfl 1 rfl ?_
  refine g_iload_n C dX11_told_2 rfl 2 rfl ?_
  refine g_callVI (rest := []) C mv_X11_155 [.int p0, .int p1] (c_X11_isPageOf ⟨hx, hxK, ok, z1, z6, z9, zt, zh, zm⟩) hx hxK rfl rfl (by decide) (by decide) (by decide) dX11_told_3 (fun r37 Q38 h39 => ?_)
  obtain ⟨rfl, rfl⟩ := h39
  refine b_if_ne C 11 dX11_told_6 (by decide) (fun h => absurd h (by decide)) (fun _ => ?_)
  refine g_iconst (v := (-1)) C dX11_told_9 (by decide) ?_
  exact ret _ _ _ _ _ _ dX11_told_10 rfl (by decide) (by decide) (rfl)
theorem dX11_comes_0 : decode cX11_comes 0 = .ok (.iload_n 1, 1) := by decide +kernel
theorem dX11_comes_1 : decode cX11_comes 1 = .ok (.invokestatic 158, 3) := by decide +kernel
theorem dX11_comes_4 : decode cX11_comes 4 = .ok (.ifCond .eq 24, 3) := by decide +kernel
theorem dX11_comes_7 : decode cX11_comes 7 = .ok (.aload_n 0, 1) := by decide +kernel
theorem dX11_comes_8 : decode cX11_comes 8 = .ok (.iload_n 2, 1) := by decide +kernel
theorem dX11_comes_9 : decode cX11_comes 9 = .ok (.iload_n 3, 1) := by decide +kernel
theorem dX11_comes_10 : decode cX11_comes 10 = .ok (.invokevirtual 136, 3) := by decide +kernel
theorem dX11_comes_13 : decode cX11_comes 13 = .ok (.ifCond .eq 15, 3) := by decide +kernel
theorem dX11_comes_28 : decode cX11_comes 28 = .ok (.iconst (-1), 1) := by decide +kernel
theorem dX11_comes_29 : decode cX11_comes 29 = .ok (.ireturn, 1) := by decide +kernel
set_option maxHeartbeats 4000000 in
set_option maxRecDepth 100000 in
theorem c_X11_comes {P : PP} {x : Nat} {p0 : Int32} {p1 : Int32} {p2 : Int32} {p3 : Int32} (F : FC P x) : CtrI yX11_comes cX11_comes 5 (some Jvm.ClassFile.FieldType.int) ({ frames := 4, cells := 0, slots := 0, locals := 256 } : Room) 0 0 P [.ref x, .int p0, .int p1, .int p2, .int p3] (fun r _ => r = -1) := by
  obtain ⟨hx, hxK, ok, z1, z6, z9, zt, zh, zm⟩ := F
  refine enI (lv := [(0, .ref x), (1, .int p0), (2, .int p1), (3, .int p2), (4, .int p3)]) (by decide) (Nat.le_of_ble_eq_true rfl) rfl (fun E D cy C Ci0 ret => ?_)
  refine g_iload_n C dX11_comes_0 rfl 1 rfl ?_
  refine g_callSI (b := 0) (ci := 0) (rest := []) C ms_X11_158 [.int p0] (c_X11_isQuarter) rfl rfl (by decide) (by decide) (by decide) dX11_comes_1 (fun r40 Q41 h42 => ?_)
  obtain ⟨rfl, h42⟩ := h42
  rcases h42 with ⟨rfl, h42⟩ | ⟨rfl, h42⟩
  · refine b_if_eq C 28 dX11_comes_4 (by decide) (fun h => absurd h (by decide)) (fun _ => ?_)
    refine g_aload_n C dX11_comes_7 rfl 0 rfl ?_
    refine g_iload_n C dX11_comes_8 rfl 2 rfl ?_
    refine g_iload_n C dX11_comes_9 rfl 3 rfl ?_
    refine g_callVI (rest := []) C mv_X11_136 [.int p1, .int p2] (c_X11_isLeaflet ⟨hx, hxK, ok, z1, z6, z9, zt, zh, zm⟩) hx hxK rfl rfl (by decide) (by decide) (by decide) dX11_comes_10 (fun r43 Q44 h45 => ?_)
    obtain ⟨rfl, rfl⟩ := h45
    refine b_if_eq C 28 dX11_comes_13 (by decide) (fun _ => ?_) (fun h => absurd h (by decide))
    refine g_iconst (v := (-1)) C dX11_comes_28 (by decide) ?_
    exact ret _ _ _ _ _ _ dX11_comes_29 rfl (by decide) (by decide) (rfl)
  · refine b_if_eq C 28 dX11_comes_4 (by decide) (fun _ => ?_) (fun h => absurd h (by decide))
    refine g_iconst (v := (-1)) C dX11_comes_28 (by decide) ?_
    exact ret _ _ _ _ _ _ dX11_comes_29 rfl (by decide) (by decide) (rfl)
theorem dX11_slip_0 : decode cX11_slip 0 = .ok (.iload_n 1, 1) := by decide +kernel
theorem dX11_slip_1 : decode cX11_slip 1 = .ok (.invokestatic 158, 3) := by decide +kernel
theorem dX11_slip_4 : decode cX11_slip 4 = .ok (.ifCond .eq 25, 3) := by decide +kernel
theorem dX11_slip_7 : decode cX11_slip 7 = .ok (.aload_n 0, 1) := by decide +kernel
theorem dX11_slip_8 : decode cX11_slip 8 = .ok (.iload_n 2, 1) := by decide +kernel
theorem dX11_slip_9 : decode cX11_slip 9 = .ok (.iload_n 3, 1) := by decide +kernel
theorem dX11_slip_10 : decode cX11_slip 10 = .ok (.invokevirtual 136, 3) := by decide +kernel
theorem dX11_slip_13 : decode cX11_slip 13 = .ok (.ifCond .eq 16, 3) := by decide +kernel
theorem dX11_slip_29 : decode cX11_slip 29 = .ok (.iconst (-1), 1) := by decide +kernel
theorem dX11_slip_30 : decode cX11_slip 30 = .ok (.ireturn, 1) := by decide +kernel
set_option maxHeartbeats 4000000 in
set_option maxRecDepth 100000 in
theorem c_X11_slip {P : PP} {x : Nat} {p0 : Int32} {p1 : Int32} {p2 : Int32} {p3 : Int32} (F : FC P x) : CtrI yX11_slip cX11_slip 7 (some Jvm.ClassFile.FieldType.int) ({ frames := 4, cells := 0, slots := 0, locals := 256 } : Room) 0 0 P [.ref x, .int p0, .int p1, .int p2, .int p3] (fun r _ => r = -1) := by
  obtain ⟨hx, hxK, ok, z1, z6, z9, zt, zh, zm⟩ := F
  refine enI (lv := [(0, .ref x), (1, .int p0), (2, .int p1), (3, .int p2), (4, .int p3)]) (by decide) (Nat.le_of_ble_eq_true rfl) rfl (fun E D cy C Ci0 ret => ?_)
  refine g_iload_n C dX11_slip_0 rfl 1 rfl ?_
  refine g_callSI (b := 0) (ci := 0) (rest := []) C ms_X11_158 [.int p0] (c_X11_isQuarter) rfl rfl (by decide) (by decide) (by decide) dX11_slip_1 (fun r46 Q47 h48 => ?_)
  obtain ⟨rfl, h48⟩ := h48
  rcases h48 with ⟨rfl, h48⟩ | ⟨rfl, h48⟩
  · refine b_if_eq C 29 dX11_slip_4 (by decide) (fun h => absurd h (by decide)) (fun _ => ?_)
    refine g_aload_n C dX11_slip_7 rfl 0 rfl ?_
    refine g_iload_n C dX11_slip_8 rfl 2 rfl ?_
    refine g_iload_n C dX11_slip_9 rfl 3 rfl ?_
    refine g_callVI (rest := []) C mv_X11_136 [.int p1, .int p2] (c_X11_isLeaflet ⟨hx, hxK, ok, z1, z6, z9, zt, zh, zm⟩) hx hxK rfl rfl (by decide) (by decide) (by decide) dX11_slip_10 (fun r49 Q50 h51 => ?_)
    obtain ⟨rfl, rfl⟩ := h51
    refine b_if_eq C 29 dX11_slip_13 (by decide) (fun _ => ?_) (fun h => absurd h (by decide))
    refine g_iconst (v := (-1)) C dX11_slip_29 (by decide) ?_
    exact ret _ _ _ _ _ _ dX11_slip_30 rfl (by decide) (by decide) (rfl)
  · refine b_if_eq C 29 dX11_slip_4 (by decide) (fun _ => ?_) (fun h => absurd h (by decide))
    refine g_iconst (v := (-1)) C dX11_slip_29 (by decide) ?_
    exact ret _ _ _ _ _ _ dX11_slip_30 rfl (by decide) (by decide) (rfl)
theorem dX11_forged_0 : decode cX11_forged 0 = .ok (.iload_n 1, 1) := by decide +kernel
theorem dX11_forged_1 : decode cX11_forged 1 = .ok (.invokestatic 158, 3) := by decide +kernel
theorem dX11_forged_4 : decode cX11_forged 4 = .ok (.ifCond .eq 12, 3) := by decide +kernel
theorem dX11_forged_7 : decode cX11_forged 7 = .ok (.aload_n 0, 1) := by decide +kernel
theorem dX11_forged_8 : decode cX11_forged 8 = .ok (.iload_n 2, 1) := by decide +kernel
theorem dX11_forged_9 : decode cX11_forged 9 = .ok (.iload_n 3, 1) := by decide +kernel
theorem dX11_forged_10 : decode cX11_forged 10 = .ok (.invokevirtual 136, 3) := by decide +kernel
theorem dX11_forged_13 : decode cX11_forged 13 = .ok (.ifCond .ne 5, 3) := by decide +kernel
theorem dX11_forged_16 : decode cX11_forged 16 = .ok (.iconst (-1), 1) := by decide +kernel
theorem dX11_forged_17 : decode cX11_forged 17 = .ok (.ireturn, 1) := by decide +kernel
set_option maxHeartbeats 4000000 in
set_option maxRecDepth 100000 in
theorem c_X11_forged {P : PP} {x : Nat} {p0 : Int32} {p1 : Int32} {p2 : Int32} {p3 : Int32} {p4 : Int32} (F : FC P x) : CtrI yX11_forged cX11_forged 6 (some Jvm.ClassFile.FieldType.int) ({ frames := 4, cells := 0, slots := 0, locals := 256 } : Room) 0 0 P [.ref x, .int p0, .int p1, .int p2, .int p3, .int p4] (fun r _ => r = -1) := by
  obtain ⟨hx, hxK, ok, z1, z6, z9, zt, zh, zm⟩ := F
  refine enI (lv := [(0, .ref x), (1, .int p0), (2, .int p1), (3, .int p2), (4, .int p3), (5, .int p4)]) (by decide) (Nat.le_of_ble_eq_true rfl) rfl (fun E D cy C Ci0 ret => ?_)
  refine g_iload_n C dX11_forged_0 rfl 1 rfl ?_
  refine g_callSI (b := 0) (ci := 0) (rest := []) C ms_X11_158 [.int p0] (c_X11_isQuarter) rfl rfl (by decide) (by decide) (by decide) dX11_forged_1 (fun r52 Q53 h54 => ?_)
  obtain ⟨rfl, h54⟩ := h54
  rcases h54 with ⟨rfl, h54⟩ | ⟨rfl, h54⟩
  · refine b_if_eq C 16 dX11_forged_4 (by decide) (fun h => absurd h (by decide)) (fun _ => ?_)
    refine g_aload_n C dX11_forged_7 rfl 0 rfl ?_
    refine g_iload_n C dX11_forged_8 rfl 2 rfl ?_
    refine g_iload_n C dX11_forged_9 rfl 3 rfl ?_
    refine g_callVI (rest := []) C mv_X11_136 [.int p1, .int p2] (c_X11_isLeaflet ⟨hx, hxK, ok, z1, z6, z9, zt, zh, zm⟩) hx hxK rfl rfl (by decide) (by decide) (by decide) dX11_forged_10 (fun r55 Q56 h57 => ?_)
    obtain ⟨rfl, rfl⟩ := h57
    refine b_if_ne C 18 dX11_forged_13 (by decide) (fun h => absurd h (by decide)) (fun _ => ?_)
    refine g_iconst (v := (-1)) C dX11_forged_16 (by decide) ?_
    exact ret _ _ _ _ _ _ dX11_forged_17 rfl (by decide) (by decide) (rfl)
  · refine b_if_eq C 16 dX11_forged_4 (by decide) (fun _ => ?_) (fun h => absurd h (by decide))
    refine g_iconst (v := (-1)) C dX11_forged_16 (by decide) ?_
    exact ret _ _ _ _ _ _ dX11_forged_17 rfl (by decide) (by decide) (rfl)
theorem dX11_peels_0 : decode cX11_peels 0 = .ok (.iload_n 1, 1) := by decide +kernel
theorem dX11_peels_1 : decode cX11_peels 1 = .ok (.invokestatic 158, 3) := by decide +kernel
theorem dX11_peels_4 : decode cX11_peels 4 = .ok (.ifCond .eq 18, 3) := by decide +kernel
theorem dX11_peels_7 : decode cX11_peels 7 = .ok (.aload_n 0, 1) := by decide +kernel
theorem dX11_peels_8 : decode cX11_peels 8 = .ok (.iload_n 2, 1) := by decide +kernel
theorem dX11_peels_9 : decode cX11_peels 9 = .ok (.invokevirtual 97, 3) := by decide +kernel
theorem dX11_peels_12 : decode cX11_peels 12 = .ok (.ifCond .eq 10, 3) := by decide +kernel
theorem dX11_peels_22 : decode cX11_peels 22 = .ok (.iconst (-1), 1) := by decide +kernel
theorem dX11_peels_23 : decode cX11_peels 23 = .ok (.ireturn, 1) := by decide +kernel
set_option maxHeartbeats 4000000 in
set_option maxRecDepth 100000 in
theorem c_X11_peels {P : PP} {x : Nat} {p0 : Int32} {p1 : Int32} {p2 : Int32} {p3 : Int32} (F : FC P x) : CtrI yX11_peels cX11_peels 7 (some Jvm.ClassFile.FieldType.int) ({ frames := 4, cells := 0, slots := 0, locals := 256 } : Room) 0 0 P [.ref x, .int p0, .int p1, .int p2, .int p3] (fun r _ => r = -1) := by
  obtain ⟨hx, hxK, ok, z1, z6, z9, zt, zh, zm⟩ := F
  refine enI (lv := [(0, .ref x), (1, .int p0), (2, .int p1), (3, .int p2), (4, .int p3)]) (by decide) (Nat.le_of_ble_eq_true rfl) rfl (fun E D cy C Ci0 ret => ?_)
  refine g_iload_n C dX11_peels_0 rfl 1 rfl ?_
  refine g_callSI (b := 0) (ci := 0) (rest := []) C ms_X11_158 [.int p0] (c_X11_isQuarter) rfl rfl (by decide) (by decide) (by decide) dX11_peels_1 (fun r58 Q59 h60 => ?_)
  obtain ⟨rfl, h60⟩ := h60
  rcases h60 with ⟨rfl, h60⟩ | ⟨rfl, h60⟩
  · refine b_if_eq C 22 dX11_peels_4 (by decide) (fun h => absurd h (by decide)) (fun _ => ?_)
    refine g_aload_n C dX11_peels_7 rfl 0 rfl ?_
    refine g_iload_n C dX11_peels_8 rfl 2 rfl ?_
    refine g_callVI (rest := []) C mv_X11_97 [.int p1] (c_X11_isTold ⟨hx, hxK, ok, z1, z6, z9, zt, zh, zm⟩) hx hxK rfl rfl (by decide) (by decide) (by decide) dX11_peels_9 (fun r61 Q62 h63 => ?_)
    obtain ⟨rfl, rfl⟩ := h63
    refine b_if_eq C 22 dX11_peels_12 (by decide) (fun _ => ?_) (fun h => absurd h (by decide))
    refine g_iconst (v := (-1)) C dX11_peels_22 (by decide) ?_
    exact ret _ _ _ _ _ _ dX11_peels_23 rfl (by decide) (by decide) (rfl)
  · refine b_if_eq C 22 dX11_peels_4 (by decide) (fun _ => ?_) (fun h => absurd h (by decide))
    refine g_iconst (v := (-1)) C dX11_peels_22 (by decide) ?_
    exact ret _ _ _ _ _ _ dX11_peels_23 rfl (by decide) (by decide) (rfl)
theorem dX11_solves_0 : decode cX11_solves 0 = .ok (.iload_n 1, 1) := by decide +kernel
theorem dX11_solves_1 : decode cX11_solves 1 = .ok (.invokestatic 158, 3) := by decide +kernel
theorem dX11_solves_4 : decode cX11_solves 4 = .ok (.ifCond .eq 18, 3) := by decide +kernel
theorem dX11_solves_7 : decode cX11_solves 7 = .ok (.aload_n 0, 1) := by decide +kernel
theorem dX11_solves_8 : decode cX11_solves 8 = .ok (.iload_n 2, 1) := by decide +kernel
theorem dX11_solves_9 : decode cX11_solves 9 = .ok (.invokevirtual 97, 3) := by decide +kernel
theorem dX11_solves_12 : decode cX11_solves 12 = .ok (.ifCond .eq 10, 3) := by decide +kernel
theorem dX11_solves_22 : decode cX11_solves 22 = .ok (.iconst (-1), 1) := by decide +kernel
theorem dX11_solves_23 : decode cX11_solves 23 = .ok (.ireturn, 1) := by decide +kernel
set_option maxHeartbeats 4000000 in
set_option maxRecDepth 100000 in
theorem c_X11_solves {P : PP} {x : Nat} {p0 : Int32} {p1 : Int32} {p2 : Int32} {p3 : Int32} (F : FC P x) : CtrI yX11_solves cX11_solves 7 (some Jvm.ClassFile.FieldType.int) ({ frames := 4, cells := 0, slots := 0, locals := 256 } : Room) 0 0 P [.ref x, .int p0, .int p1, .int p2, .int p3] (fun r _ => r = -1) := by
  obtain ⟨hx, hxK, ok, z1, z6, z9, zt, zh, zm⟩ := F
  refine enI (lv := [(0, .ref x), (1, .int p0), (2, .int p1), (3, .int p2), (4, .int p3)]) (by decide) (Nat.le_of_ble_eq_true rfl) rfl (fun E D cy C Ci0 ret => ?_)
  refine g_iload_n C dX11_solves_0 rfl 1 rfl ?_
  refine g_callSI (b := 0) (ci := 0) (rest := []) C ms_X11_158 [.int p0] (c_X11_isQuarter) rfl rfl (by decide) (by decide) (by decide) dX11_solves_1 (fun r64 Q65 h66 => ?_)
  obtain ⟨rfl, h66⟩ := h66
  rcases h66 with ⟨rfl, h66⟩ | ⟨rfl, h66⟩
  · refine b_if_eq C 22 dX11_solves_4 (by decide) (fun h => absurd h (by decide)) (fun _ => ?_)
    refine g_aload_n C dX11_solves_7 rfl 0 rfl ?_
    refine g_iload_n C dX11_solves_8 rfl 2 rfl ?_
    refine g_callVI (rest := []) C mv_X11_97 [.int p1] (c_X11_isTold ⟨hx, hxK, ok, z1, z6, z9, zt, zh, zm⟩) hx hxK rfl rfl (by decide) (by decide) (by decide) dX11_solves_9 (fun r67 Q68 h69 => ?_)
    obtain ⟨rfl, rfl⟩ := h69
    refine b_if_eq C 22 dX11_solves_12 (by decide) (fun _ => ?_) (fun h => absurd h (by decide))
    refine g_iconst (v := (-1)) C dX11_solves_22 (by decide) ?_
    exact ret _ _ _ _ _ _ dX11_solves_23 rfl (by decide) (by decide) (rfl)
  · refine b_if_eq C 22 dX11_solves_4 (by decide) (fun _ => ?_) (fun h => absurd h (by decide))
    refine g_iconst (v := (-1)) C dX11_solves_22 (by decide) ?_
    exact ret _ _ _ _ _ _ dX11_solves_23 rfl (by decide) (by decide) (rfl)
theorem dX11_read_0 : decode cX11_read 0 = .ok (.iload_n 1, 1) := by decide +kernel
theorem dX11_read_1 : decode cX11_read 1 = .ok (.invokestatic 158, 3) := by decide +kernel
theorem dX11_read_4 : decode cX11_read 4 = .ok (.ifCond .eq 20, 3) := by decide +kernel
theorem dX11_read_7 : decode cX11_read 7 = .ok (.aload_n 0, 1) := by decide +kernel
theorem dX11_read_8 : decode cX11_read 8 = .ok (.iload_n 2, 1) := by decide +kernel
theorem dX11_read_9 : decode cX11_read 9 = .ok (.iload_n 3, 1) := by decide +kernel
theorem dX11_read_10 : decode cX11_read 10 = .ok (.invokevirtual 155, 3) := by decide +kernel
theorem dX11_read_13 : decode cX11_read 13 = .ok (.ifCond .eq 11, 3) := by decide +kernel
theorem dX11_read_24 : decode cX11_read 24 = .ok (.iconst (-1), 1) := by decide +kernel
theorem dX11_read_25 : decode cX11_read 25 = .ok (.ireturn, 1) := by decide +kernel
set_option maxHeartbeats 4000000 in
set_option maxRecDepth 100000 in
theorem c_X11_read {P : PP} {x : Nat} {p0 : Int32} {p1 : Int32} {p2 : Int32} {p3 : Int32} (F : FC P x) : CtrI yX11_read cX11_read 7 (some Jvm.ClassFile.FieldType.int) ({ frames := 4, cells := 0, slots := 0, locals := 256 } : Room) 0 0 P [.ref x, .int p0, .int p1, .int p2, .int p3] (fun r _ => r = -1) := by
  obtain ⟨hx, hxK, ok, z1, z6, z9, zt, zh, zm⟩ := F
  refine enI (lv := [(0, .ref x), (1, .int p0), (2, .int p1), (3, .int p2), (4, .int p3)]) (by decide) (Nat.le_of_ble_eq_true rfl) rfl (fun E D cy C Ci0 ret => ?_)
  refine g_iload_n C dX11_read_0 rfl 1 rfl ?_
  refine g_callSI (b := 0) (ci := 0) (rest := []) C ms_X11_158 [.int p0] (c_X11_isQuarter) rfl rfl (by decide) (by decide) (by decide) dX11_read_1 (fun r70 Q71 h72 => ?_)
  obtain ⟨rfl, h72⟩ := h72
  rcases h72 with ⟨rfl, h72⟩ | ⟨rfl, h72⟩
  · refine b_if_eq C 24 dX11_read_4 (by decide) (fun h => absurd h (by decide)) (fun _ => ?_)
    refine g_aload_n C dX11_read_7 rfl 0 rfl ?_
    refine g_iload_n C dX11_read_8 rfl 2 rfl ?_
    refine g_iload_n C dX11_read_9 rfl 3 rfl ?_
    refine g_callVI (rest := []) C mv_X11_155 [.int p1, .int p2] (c_X11_isPageOf ⟨hx, hxK, ok, z1, z6, z9, zt, zh, zm⟩) hx hxK rfl rfl (by decide) (by decide) (by decide) dX11_read_10 (fun r73 Q74 h75 => ?_)
    obtain ⟨rfl, rfl⟩ := h75
    refine b_if_eq C 24 dX11_read_13 (by decide) (fun _ => ?_) (fun h => absurd h (by decide))
    refine g_iconst (v := (-1)) C dX11_read_24 (by decide) ?_
    exact ret _ _ _ _ _ _ dX11_read_25 rfl (by decide) (by decide) (rfl)
  · refine b_if_eq C 24 dX11_read_4 (by decide) (fun _ => ?_) (fun h => absurd h (by decide))
    refine g_iconst (v := (-1)) C dX11_read_24 (by decide) ?_
    exact ret _ _ _ _ _ _ dX11_read_25 rfl (by decide) (by decide) (rfl)
theorem dX11_soon_0 : decode cX11_soon 0 = .ok (.iload_n 1, 1) := by decide +kernel
theorem dX11_soon_1 : decode cX11_soon 1 = .ok (.invokestatic 158, 3) := by decide +kernel
theorem dX11_soon_4 : decode cX11_soon 4 = .ok (.ifCond .eq 20, 3) := by decide +kernel
theorem dX11_soon_7 : decode cX11_soon 7 = .ok (.aload_n 0, 1) := by decide +kernel
theorem dX11_soon_8 : decode cX11_soon 8 = .ok (.iload_n 2, 1) := by decide +kernel
theorem dX11_soon_9 : decode cX11_soon 9 = .ok (.iload_n 3, 1) := by decide +kernel
theorem dX11_soon_10 : decode cX11_soon 10 = .ok (.invokevirtual 155, 3) := by decide +kernel
theorem dX11_soon_13 : decode cX11_soon 13 = .ok (.ifCond .eq 11, 3) := by decide +kernel
theorem dX11_soon_24 : decode cX11_soon 24 = .ok (.iconst (-1), 1) := by decide +kernel
theorem dX11_soon_25 : decode cX11_soon 25 = .ok (.ireturn, 1) := by decide +kernel
set_option maxHeartbeats 4000000 in
set_option maxRecDepth 100000 in
theorem c_X11_soon {P : PP} {x : Nat} {p0 : Int32} {p1 : Int32} {p2 : Int32} {p3 : Int32} (F : FC P x) : CtrI yX11_soon cX11_soon 5 (some Jvm.ClassFile.FieldType.int) ({ frames := 4, cells := 0, slots := 0, locals := 256 } : Room) 0 0 P [.ref x, .int p0, .int p1, .int p2, .int p3] (fun r _ => r = -1) := by
  obtain ⟨hx, hxK, ok, z1, z6, z9, zt, zh, zm⟩ := F
  refine enI (lv := [(0, .ref x), (1, .int p0), (2, .int p1), (3, .int p2), (4, .int p3)]) (by decide) (Nat.le_of_ble_eq_true rfl) rfl (fun E D cy C Ci0 ret => ?_)
  refine g_iload_n C dX11_soon_0 rfl 1 rfl ?_
  refine g_callSI (b := 0) (ci := 0) (rest := []) C ms_X11_158 [.int p0] (c_X11_isQuarter) rfl rfl (by decide) (by decide) (by decide) dX11_soon_1 (fun r76 Q77 h78 => ?_)
  obtain ⟨rfl, h78⟩ := h78
  rcases h78 with ⟨rfl, h78⟩ | ⟨rfl, h78⟩
  · refine b_if_eq C 24 dX11_soon_4 (by decide) (fun h => absurd h (by decide)) (fun _ => ?_)
    refine g_aload_n C dX11_soon_7 rfl 0 rfl ?_
    refine g_iload_n C dX11_soon_8 rfl 2 rfl ?_
    refine g_iload_n C dX11_soon_9 rfl 3 rfl ?_
    refine g_callVI (rest := []) C mv_X11_155 [.int p1, .int p2] (c_X11_isPageOf ⟨hx, hxK, ok, z1, z6, z9, zt, zh, zm⟩) hx hxK rfl rfl (by decide) (by decide) (by decide) dX11_soon_10 (fun r79 Q80 h81 => ?_)
    obtain ⟨rfl, rfl⟩ := h81
    refine b_if_eq C 24 dX11_soon_13 (by decide) (fun _ => ?_) (fun h => absurd h (by decide))
    refine g_iconst (v := (-1)) C dX11_soon_24 (by decide) ?_
    exact ret _ _ _ _ _ _ dX11_soon_25 rfl (by decide) (by decide) (rfl)
  · refine b_if_eq C 24 dX11_soon_4 (by decide) (fun _ => ?_) (fun h => absurd h (by decide))
    refine g_iconst (v := (-1)) C dX11_soon_24 (by decide) ?_
    exact ret _ _ _ _ _ _ dX11_soon_25 rfl (by decide) (by decide) (rfl)
theorem dX11_slipped_0 : decode cX11_slipped 0 = .ok (.iload_n 1, 1) := by decide +kernel
theorem dX11_slipped_1 : decode cX11_slipped 1 = .ok (.invokestatic 158, 3) := by decide +kernel
theorem dX11_slipped_4 : decode cX11_slipped 4 = .ok (.ifCond .eq 29, 3) := by decide +kernel
theorem dX11_slipped_7 : decode cX11_slipped 7 = .ok (.aload_n 0, 1) := by decide +kernel
theorem dX11_slipped_8 : decode cX11_slipped 8 = .ok (.iload_n 2, 1) := by decide +kernel
theorem dX11_slipped_9 : decode cX11_slipped 9 = .ok (.invokevirtual 97, 3) := by decide +kernel
theorem dX11_slipped_12 : decode cX11_slipped 12 = .ok (.ifCond .eq 21, 3) := by decide +kernel
theorem dX11_slipped_33 : decode cX11_slipped 33 = .ok (.iconst (-1), 1) := by decide +kernel
theorem dX11_slipped_34 : decode cX11_slipped 34 = .ok (.ireturn, 1) := by decide +kernel
set_option maxHeartbeats 4000000 in
set_option maxRecDepth 100000 in
theorem c_X11_slipped {P : PP} {x : Nat} {p0 : Int32} {p1 : Int32} {p2 : Int32} {p3 : Int32} (F : FC P x) : CtrI yX11_slipped cX11_slipped 10 (some Jvm.ClassFile.FieldType.int) ({ frames := 4, cells := 0, slots := 0, locals := 256 } : Room) 0 0 P [.ref x, .int p0, .int p1, .int p2, .int p3] (fun r _ => r = -1) := by
  obtain ⟨hx, hxK, ok, z1, z6, z9, zt, zh, zm⟩ := F
  refine enI (lv := [(0, .ref x), (1, .int p0), (2, .int p1), (3, .int p2), (4, .int p3)]) (by decide) (Nat.le_of_ble_eq_true rfl) rfl (fun E D cy C Ci0 ret => ?_)
  refine g_iload_n C dX11_slipped_0 rfl 1 rfl ?_
  refine g_callSI (b := 0) (ci := 0) (rest := []) C ms_X11_158 [.int p0] (c_X11_isQuarter) rfl rfl (by decide) (by decide) (by decide) dX11_slipped_1 (fun r82 Q83 h84 => ?_)
  obtain ⟨rfl, h84⟩ := h84
  rcases h84 with ⟨rfl, h84⟩ | ⟨rfl, h84⟩
  · refine b_if_eq C 33 dX11_slipped_4 (by decide) (fun h => absurd h (by decide)) (fun _ => ?_)
    refine g_aload_n C dX11_slipped_7 rfl 0 rfl ?_
    refine g_iload_n C dX11_slipped_8 rfl 2 rfl ?_
    refine g_callVI (rest := []) C mv_X11_97 [.int p1] (c_X11_isTold ⟨hx, hxK, ok, z1, z6, z9, zt, zh, zm⟩) hx hxK rfl rfl (by decide) (by decide) (by decide) dX11_slipped_9 (fun r85 Q86 h87 => ?_)
    obtain ⟨rfl, rfl⟩ := h87
    refine b_if_eq C 33 dX11_slipped_12 (by decide) (fun _ => ?_) (fun h => absurd h (by decide))
    refine g_iconst (v := (-1)) C dX11_slipped_33 (by decide) ?_
    exact ret _ _ _ _ _ _ dX11_slipped_34 rfl (by decide) (by decide) (rfl)
  · refine b_if_eq C 33 dX11_slipped_4 (by decide) (fun _ => ?_) (fun h => absurd h (by decide))
    refine g_iconst (v := (-1)) C dX11_slipped_33 (by decide) ?_
    exact ret _ _ _ _ _ _ dX11_slipped_34 rfl (by decide) (by decide) (rfl)
theorem dX11_right_0 : decode cX11_right 0 = .ok (.iload_n 1, 1) := by decide +kernel
theorem dX11_right_1 : decode cX11_right 1 = .ok (.invokestatic 158, 3) := by decide +kernel
theorem dX11_right_4 : decode cX11_right 4 = .ok (.ifCond .eq 20, 3) := by decide +kernel
theorem dX11_right_7 : decode cX11_right 7 = .ok (.aload_n 0, 1) := by decide +kernel
theorem dX11_right_8 : decode cX11_right 8 = .ok (.iload_n 2, 1) := by decide +kernel
theorem dX11_right_9 : decode cX11_right 9 = .ok (.iload 4, 2) := by decide +kernel
theorem dX11_right_11 : decode cX11_right 11 = .ok (.invokevirtual 155, 3) := by decide +kernel
theorem dX11_right_14 : decode cX11_right 14 = .ok (.ifCond .eq 10, 3) := by decide +kernel
theorem dX11_right_24 : decode cX11_right 24 = .ok (.iconst (-1), 1) := by decide +kernel
theorem dX11_right_25 : decode cX11_right 25 = .ok (.ireturn, 1) := by decide +kernel
set_option maxHeartbeats 4000000 in
set_option maxRecDepth 100000 in
theorem c_X11_right {P : PP} {x : Nat} {p0 : Int32} {p1 : Int32} {p2 : Int32} {p3 : Int32} (F : FC P x) : CtrI yX11_right cX11_right 10 (some Jvm.ClassFile.FieldType.int) ({ frames := 4, cells := 0, slots := 0, locals := 256 } : Room) 0 0 P [.ref x, .int p0, .int p1, .int p2, .int p3] (fun r _ => r = -1) := by
  obtain ⟨hx, hxK, ok, z1, z6, z9, zt, zh, zm⟩ := F
  refine enI (lv := [(0, .ref x), (1, .int p0), (2, .int p1), (3, .int p2), (4, .int p3)]) (by decide) (Nat.le_of_ble_eq_true rfl) rfl (fun E D cy C Ci0 ret => ?_)
  refine g_iload_n C dX11_right_0 rfl 1 rfl ?_
  refine g_callSI (b := 0) (ci := 0) (rest := []) C ms_X11_158 [.int p0] (c_X11_isQuarter) rfl rfl (by decide) (by decide) (by decide) dX11_right_1 (fun r88 Q89 h90 => ?_)
  obtain ⟨rfl, h90⟩ := h90
  rcases h90 with ⟨rfl, h90⟩ | ⟨rfl, h90⟩
  · refine b_if_eq C 24 dX11_right_4 (by decide) (fun h => absurd h (by decide)) (fun _ => ?_)
    refine g_aload_n C dX11_right_7 rfl 0 rfl ?_
    refine g_iload_n C dX11_right_8 rfl 2 rfl ?_
    refine g_iload C dX11_right_9 4 rfl ?_
    refine g_callVI (rest := []) C mv_X11_155 [.int p1, .int p3] (c_X11_isPageOf ⟨hx, hxK, ok, z1, z6, z9, zt, zh, zm⟩) hx hxK rfl rfl (by decide) (by decide) (by decide) dX11_right_11 (fun r91 Q92 h93 => ?_)
    obtain ⟨rfl, rfl⟩ := h93
    refine b_if_eq C 24 dX11_right_14 (by decide) (fun _ => ?_) (fun h => absurd h (by decide))
    refine g_iconst (v := (-1)) C dX11_right_24 (by decide) ?_
    exact ret _ _ _ _ _ _ dX11_right_25 rfl (by decide) (by decide) (rfl)
  · refine b_if_eq C 24 dX11_right_4 (by decide) (fun _ => ?_) (fun h => absurd h (by decide))
    refine g_iconst (v := (-1)) C dX11_right_24 (by decide) ?_
    exact ret _ _ _ _ _ _ dX11_right_25 rfl (by decide) (by decide) (rfl)
theorem dX11_doubles_0 : decode cX11_doubles 0 = .ok (.iload_n 1, 1) := by decide +kernel
theorem dX11_doubles_1 : decode cX11_doubles 1 = .ok (.invokestatic 158, 3) := by decide +kernel
theorem dX11_doubles_4 : decode cX11_doubles 4 = .ok (.ifCond .eq 18, 3) := by decide +kernel
theorem dX11_doubles_7 : decode cX11_doubles 7 = .ok (.aload_n 0, 1) := by decide +kernel
theorem dX11_doubles_8 : decode cX11_doubles 8 = .ok (.iload_n 2, 1) := by decide +kernel
theorem dX11_doubles_9 : decode cX11_doubles 9 = .ok (.invokevirtual 97, 3) := by decide +kernel
theorem dX11_doubles_12 : decode cX11_doubles 12 = .ok (.ifCond .eq 10, 3) := by decide +kernel
theorem dX11_doubles_22 : decode cX11_doubles 22 = .ok (.iconst (-1), 1) := by decide +kernel
theorem dX11_doubles_23 : decode cX11_doubles 23 = .ok (.ireturn, 1) := by decide +kernel
set_option maxHeartbeats 4000000 in
set_option maxRecDepth 100000 in
theorem c_X11_doubles {P : PP} {x : Nat} {p0 : Int32} {p1 : Int32} {p2 : Int32} (F : FC P x) : CtrI yX11_doubles cX11_doubles 9 (some Jvm.ClassFile.FieldType.int) ({ frames := 4, cells := 0, slots := 0, locals := 256 } : Room) 0 0 P [.ref x, .int p0, .int p1, .int p2] (fun r _ => r = -1) := by
  obtain ⟨hx, hxK, ok, z1, z6, z9, zt, zh, zm⟩ := F
  refine enI (lv := [(0, .ref x), (1, .int p0), (2, .int p1), (3, .int p2)]) (by decide) (Nat.le_of_ble_eq_true rfl) rfl (fun E D cy C Ci0 ret => ?_)
  refine g_iload_n C dX11_doubles_0 rfl 1 rfl ?_
  refine g_callSI (b := 0) (ci := 0) (rest := []) C ms_X11_158 [.int p0] (c_X11_isQuarter) rfl rfl (by decide) (by decide) (by decide) dX11_doubles_1 (fun r94 Q95 h96 => ?_)
  obtain ⟨rfl, h96⟩ := h96
  rcases h96 with ⟨rfl, h96⟩ | ⟨rfl, h96⟩
  · refine b_if_eq C 22 dX11_doubles_4 (by decide) (fun h => absurd h (by decide)) (fun _ => ?_)
    refine g_aload_n C dX11_doubles_7 rfl 0 rfl ?_
    refine g_iload_n C dX11_doubles_8 rfl 2 rfl ?_
    refine g_callVI (rest := []) C mv_X11_97 [.int p1] (c_X11_isTold ⟨hx, hxK, ok, z1, z6, z9, zt, zh, zm⟩) hx hxK rfl rfl (by decide) (by decide) (by decide) dX11_doubles_9 (fun r97 Q98 h99 => ?_)
    obtain ⟨rfl, rfl⟩ := h99
    refine b_if_eq C 22 dX11_doubles_12 (by decide) (fun _ => ?_) (fun h => absurd h (by decide))
    refine g_iconst (v := (-1)) C dX11_doubles_22 (by decide) ?_
    exact ret _ _ _ _ _ _ dX11_doubles_23 rfl (by decide) (by decide) (rfl)
  · refine b_if_eq C 22 dX11_doubles_4 (by decide) (fun _ => ?_) (fun h => absurd h (by decide))
    refine g_iconst (v := (-1)) C dX11_doubles_22 (by decide) ?_
    exact ret _ _ _ _ _ _ dX11_doubles_23 rfl (by decide) (by decide) (rfl)
theorem dX11_guard_0 : decode cX11_guard 0 = .ok (.iload_n 1, 1) := by decide +kernel
theorem dX11_guard_1 : decode cX11_guard 1 = .ok (.invokestatic 158, 3) := by decide +kernel
theorem dX11_guard_4 : decode cX11_guard 4 = .ok (.ifCond .eq 20, 3) := by decide +kernel
theorem dX11_guard_7 : decode cX11_guard 7 = .ok (.aload_n 0, 1) := by decide +kernel
theorem dX11_guard_8 : decode cX11_guard 8 = .ok (.iload_n 2, 1) := by decide +kernel
theorem dX11_guard_9 : decode cX11_guard 9 = .ok (.iload 4, 2) := by decide +kernel
theorem dX11_guard_11 : decode cX11_guard 11 = .ok (.invokevirtual 155, 3) := by decide +kernel
theorem dX11_guard_14 : decode cX11_guard 14 = .ok (.ifCond .eq 10, 3) := by decide +kernel
theorem dX11_guard_24 : decode cX11_guard 24 = .ok (.iconst (-1), 1) := by decide +kernel
theorem dX11_guard_25 : decode cX11_guard 25 = .ok (.ireturn, 1) := by decide +kernel
set_option maxHeartbeats 4000000 in
set_option maxRecDepth 100000 in
theorem c_X11_guard {P : PP} {x : Nat} {p0 : Int32} {p1 : Int32} {p2 : Int32} {p3 : Int32} (F : FC P x) : CtrI yX11_guard cX11_guard 8 (some Jvm.ClassFile.FieldType.int) ({ frames := 4, cells := 0, slots := 0, locals := 256 } : Room) 0 0 P [.ref x, .int p0, .int p1, .int p2, .int p3] (fun r _ => r = -1) := by
  obtain ⟨hx, hxK, ok, z1, z6, z9, zt, zh, zm⟩ := F
  refine enI (lv := [(0, .ref x), (1, .int p0), (2, .int p1), (3, .int p2), (4, .int p3)]) (by decide) (Nat.le_of_ble_eq_true rfl) rfl (fun E D cy C Ci0 ret => ?_)
  refine g_iload_n C dX11_guard_0 rfl 1 rfl ?_
  refine g_callSI (b := 0) (ci := 0) (rest := []) C ms_X11_158 [.int p0] (c_X11_isQuarter) rfl rfl (by decide) (by decide) (by decide) dX11_guard_1 (fun r100 Q101 h102 => ?_)
  obtain ⟨rfl, h102⟩ := h102
  rcases h102 with ⟨rfl, h102⟩ | ⟨rfl, h102⟩
  · refine b_if_eq C 24 dX11_guard_4 (by decide) (fun h => absurd h (by decide)) (fun _ => ?_)
    refine g_aload_n C dX11_guard_7 rfl 0 rfl ?_
    refine g_iload_n C dX11_guard_8 rfl 2 rfl ?_
    refine g_iload C dX11_guard_9 4 rfl ?_
    refine g_callVI (rest := []) C mv_X11_155 [.int p1, .int p3] (c_X11_isPageOf ⟨hx, hxK, ok, z1, z6, z9, zt, zh, zm⟩) hx hxK rfl rfl (by decide) (by decide) (by decide) dX11_guard_11 (fun r103 Q104 h105 => ?_)
    obtain ⟨rfl, rfl⟩ := h105
    refine b_if_eq C 24 dX11_guard_14 (by decide) (fun _ => ?_) (fun h => absurd h (by decide))
    refine g_iconst (v := (-1)) C dX11_guard_24 (by decide) ?_
    exact ret _ _ _ _ _ _ dX11_guard_25 rfl (by decide) (by decide) (rfl)
  · refine b_if_eq C 24 dX11_guard_4 (by decide) (fun _ => ?_) (fun h => absurd h (by decide))
    refine g_iconst (v := (-1)) C dX11_guard_24 (by decide) ?_
    exact ret _ _ _ _ _ _ dX11_guard_25 rfl (by decide) (by decide) (rfl)
theorem dX11_tocome_0 : decode cX11_tocome 0 = .ok (.iload_n 1, 1) := by decide +kernel
theorem dX11_tocome_1 : decode cX11_tocome 1 = .ok (.invokestatic 158, 3) := by decide +kernel
theorem dX11_tocome_4 : decode cX11_tocome 4 = .ok (.ifCond .eq 20, 3) := by decide +kernel
theorem dX11_tocome_7 : decode cX11_tocome 7 = .ok (.aload_n 0, 1) := by decide +kernel
theorem dX11_tocome_8 : decode cX11_tocome 8 = .ok (.iload_n 2, 1) := by decide +kernel
theorem dX11_tocome_9 : decode cX11_tocome 9 = .ok (.invokevirtual 97, 3) := by decide +kernel
theorem dX11_tocome_12 : decode cX11_tocome 12 = .ok (.ifCond .eq 12, 3) := by decide +kernel
theorem dX11_tocome_24 : decode cX11_tocome 24 = .ok (.iconst (-1), 1) := by decide +kernel
theorem dX11_tocome_25 : decode cX11_tocome 25 = .ok (.ireturn, 1) := by decide +kernel
set_option maxHeartbeats 4000000 in
set_option maxRecDepth 100000 in
theorem c_X11_tocome {P : PP} {x : Nat} {p0 : Int32} {p1 : Int32} {p2 : Int32} (F : FC P x) : CtrI yX11_tocome cX11_tocome 6 (some Jvm.ClassFile.FieldType.int) ({ frames := 4, cells := 0, slots := 0, locals := 256 } : Room) 0 0 P [.ref x, .int p0, .int p1, .int p2] (fun r _ => r = -1) := by
  obtain ⟨hx, hxK, ok, z1, z6, z9, zt, zh, zm⟩ := F
  refine enI (lv := [(0, .ref x), (1, .int p0), (2, .int p1), (3, .int p2)]) (by decide) (Nat.le_of_ble_eq_true rfl) rfl (fun E D cy C Ci0 ret => ?_)
  refine g_iload_n C dX11_tocome_0 rfl 1 rfl ?_
  refine g_callSI (b := 0) (ci := 0) (rest := []) C ms_X11_158 [.int p0] (c_X11_isQuarter) rfl rfl (by decide) (by decide) (by decide) dX11_tocome_1 (fun r106 Q107 h108 => ?_)
  obtain ⟨rfl, h108⟩ := h108
  rcases h108 with ⟨rfl, h108⟩ | ⟨rfl, h108⟩
  · refine b_if_eq C 24 dX11_tocome_4 (by decide) (fun h => absurd h (by decide)) (fun _ => ?_)
    refine g_aload_n C dX11_tocome_7 rfl 0 rfl ?_
    refine g_iload_n C dX11_tocome_8 rfl 2 rfl ?_
    refine g_callVI (rest := []) C mv_X11_97 [.int p1] (c_X11_isTold ⟨hx, hxK, ok, z1, z6, z9, zt, zh, zm⟩) hx hxK rfl rfl (by decide) (by decide) (by decide) dX11_tocome_9 (fun r109 Q110 h111 => ?_)
    obtain ⟨rfl, rfl⟩ := h111
    refine b_if_eq C 24 dX11_tocome_12 (by decide) (fun _ => ?_) (fun h => absurd h (by decide))
    refine g_iconst (v := (-1)) C dX11_tocome_24 (by decide) ?_
    exact ret _ _ _ _ _ _ dX11_tocome_25 rfl (by decide) (by decide) (rfl)
  · refine b_if_eq C 24 dX11_tocome_4 (by decide) (fun _ => ?_) (fun h => absurd h (by decide))
    refine g_iconst (v := (-1)) C dX11_tocome_24 (by decide) ?_
    exact ret _ _ _ _ _ _ dX11_tocome_25 rfl (by decide) (by decide) (rfl)
theorem dX11_chances_0 : decode cX11_chances 0 = .ok (.aload_n 0, 1) := by decide +kernel
theorem dX11_chances_1 : decode cX11_chances 1 = .ok (.iload_n 1, 1) := by decide +kernel
theorem dX11_chances_2 : decode cX11_chances 2 = .ok (.invokevirtual 97, 3) := by decide +kernel
theorem dX11_chances_5 : decode cX11_chances 5 = .ok (.ifCond .eq 19, 3) := by decide +kernel
theorem dX11_chances_24 : decode cX11_chances 24 = .ok (.iconst (-1), 1) := by decide +kernel
theorem dX11_chances_25 : decode cX11_chances 25 = .ok (.ireturn, 1) := by decide +kernel
set_option maxHeartbeats 4000000 in
set_option maxRecDepth 100000 in
theorem c_X11_chances {P : PP} {x : Nat} {p0 : Int32} {p1 : Int32} {p2 : Int32} {p3 : Int32} (F : FC P x) : CtrI yX11_chances cX11_chances 5 (some Jvm.ClassFile.FieldType.int) ({ frames := 4, cells := 0, slots := 0, locals := 256 } : Room) 0 0 P [.ref x, .int p0, .int p1, .int p2, .int p3] (fun r _ => r = -1) := by
  obtain ⟨hx, hxK, ok, z1, z6, z9, zt, zh, zm⟩ := F
  refine enI (lv := [(0, .ref x), (1, .int p0), (2, .int p1), (3, .int p2), (4, .int p3)]) (by decide) (Nat.le_of_ble_eq_true rfl) rfl (fun E D cy C Ci0 ret => ?_)
  refine g_aload_n C dX11_chances_0 rfl 0 rfl ?_
  refine g_iload_n C dX11_chances_1 rfl 1 rfl ?_
  refine g_callVI (rest := []) C mv_X11_97 [.int p0] (c_X11_isTold ⟨hx, hxK, ok, z1, z6, z9, zt, zh, zm⟩) hx hxK rfl rfl (by decide) (by decide) (by decide) dX11_chances_2 (fun r112 Q113 h114 => ?_)
  obtain ⟨rfl, rfl⟩ := h114
  refine b_if_eq C 24 dX11_chances_5 (by decide) (fun _ => ?_) (fun h => absurd h (by decide))
  refine g_iconst (v := (-1)) C dX11_chances_24 (by decide) ?_
  exact ret _ _ _ _ _ _ dX11_chances_25 rfl (by decide) (by decide) (rfl)
theorem dX11_enough_0 : decode cX11_enough 0 = .ok (.aload_n 0, 1) := by decide +kernel
theorem dX11_enough_1 : decode cX11_enough 1 = .ok (.iload_n 1, 1) := by decide +kernel
theorem dX11_enough_2 : decode cX11_enough 2 = .ok (.invokevirtual 97, 3) := by decide +kernel
theorem dX11_enough_5 : decode cX11_enough 5 = .ok (.ifCond .eq 18, 3) := by decide +kernel
theorem dX11_enough_23 : decode cX11_enough 23 = .ok (.iconst (-1), 1) := by decide +kernel
theorem dX11_enough_24 : decode cX11_enough 24 = .ok (.ireturn, 1) := by decide +kernel
set_option maxHeartbeats 4000000 in
set_option maxRecDepth 100000 in
theorem c_X11_enough {P : PP} {x : Nat} {p0 : Int32} {p1 : Int32} {p2 : Int32} {p3 : Int32} (F : FC P x) : CtrI yX11_enough cX11_enough 8 (some Jvm.ClassFile.FieldType.int) ({ frames := 4, cells := 0, slots := 0, locals := 256 } : Room) 0 0 P [.ref x, .int p0, .int p1, .int p2, .int p3] (fun r _ => r = -1) := by
  obtain ⟨hx, hxK, ok, z1, z6, z9, zt, zh, zm⟩ := F
  refine enI (lv := [(0, .ref x), (1, .int p0), (2, .int p1), (3, .int p2), (4, .int p3)]) (by decide) (Nat.le_of_ble_eq_true rfl) rfl (fun E D cy C Ci0 ret => ?_)
  refine g_aload_n C dX11_enough_0 rfl 0 rfl ?_
  refine g_iload_n C dX11_enough_1 rfl 1 rfl ?_
  refine g_callVI (rest := []) C mv_X11_97 [.int p0] (c_X11_isTold ⟨hx, hxK, ok, z1, z6, z9, zt, zh, zm⟩) hx hxK rfl rfl (by decide) (by decide) (by decide) dX11_enough_2 (fun r115 Q116 h117 => ?_)
  obtain ⟨rfl, rfl⟩ := h117
  refine b_if_eq C 23 dX11_enough_5 (by decide) (fun _ => ?_) (fun h => absurd h (by decide))
  refine g_iconst (v := (-1)) C dX11_enough_23 (by decide) ?_
  exact ret _ _ _ _ _ _ dX11_enough_24 rfl (by decide) (by decide) (rfl)
theorem dX11_degree_0 : decode cX11_degree 0 = .ok (.aload_n 0, 1) := by decide +kernel
theorem dX11_degree_1 : decode cX11_degree 1 = .ok (.iload_n 1, 1) := by decide +kernel
theorem dX11_degree_2 : decode cX11_degree 2 = .ok (.invokevirtual 97, 3) := by decide +kernel
theorem dX11_degree_5 : decode cX11_degree 5 = .ok (.ifCond .eq 19, 3) := by decide +kernel
theorem dX11_degree_24 : decode cX11_degree 24 = .ok (.iconst (-1), 1) := by decide +kernel
theorem dX11_degree_25 : decode cX11_degree 25 = .ok (.ireturn, 1) := by decide +kernel
set_option maxHeartbeats 4000000 in
set_option maxRecDepth 100000 in
theorem c_X11_degree {P : PP} {x : Nat} {p0 : Int32} {p1 : Int32} {p2 : Int32} {p3 : Int32} (F : FC P x) : CtrI yX11_degree cX11_degree 10 (some Jvm.ClassFile.FieldType.int) ({ frames := 4, cells := 0, slots := 0, locals := 256 } : Room) 0 0 P [.ref x, .int p0, .int p1, .int p2, .int p3] (fun r _ => r = -1) := by
  obtain ⟨hx, hxK, ok, z1, z6, z9, zt, zh, zm⟩ := F
  refine enI (lv := [(0, .ref x), (1, .int p0), (2, .int p1), (3, .int p2), (4, .int p3)]) (by decide) (Nat.le_of_ble_eq_true rfl) rfl (fun E D cy C Ci0 ret => ?_)
  refine g_aload_n C dX11_degree_0 rfl 0 rfl ?_
  refine g_iload_n C dX11_degree_1 rfl 1 rfl ?_
  refine g_callVI (rest := []) C mv_X11_97 [.int p0] (c_X11_isTold ⟨hx, hxK, ok, z1, z6, z9, zt, zh, zm⟩) hx hxK rfl rfl (by decide) (by decide) (by decide) dX11_degree_2 (fun r118 Q119 h120 => ?_)
  obtain ⟨rfl, rfl⟩ := h120
  refine b_if_eq C 24 dX11_degree_5 (by decide) (fun _ => ?_) (fun h => absurd h (by decide))
  refine g_iconst (v := (-1)) C dX11_degree_24 (by decide) ?_
  exact ret _ _ _ _ _ _ dX11_degree_25 rfl (by decide) (by decide) (rfl)
theorem dX11_apart_0 : decode cX11_apart 0 = .ok (.aload_n 0, 1) := by decide +kernel
theorem dX11_apart_1 : decode cX11_apart 1 = .ok (.iload_n 1, 1) := by decide +kernel
theorem dX11_apart_2 : decode cX11_apart 2 = .ok (.iload_n 2, 1) := by decide +kernel
theorem dX11_apart_3 : decode cX11_apart 3 = .ok (.invokevirtual 185, 3) := by decide +kernel
theorem dX11_apart_6 : decode cX11_apart 6 = .ok (.astore_n 3, 1) := by decide +kernel
theorem dX11_apart_7 : decode cX11_apart 7 = .ok (.aload_n 3, 1) := by decide +kernel
theorem dX11_apart_8 : decode cX11_apart 8 = .ok (.ifnull 27, 3) := by decide +kernel
theorem dX11_apart_35 : decode cX11_apart 35 = .ok (.iconst (-1), 1) := by decide +kernel
theorem dX11_apart_36 : decode cX11_apart 36 = .ok (.ireturn, 1) := by decide +kernel
set_option maxHeartbeats 4000000 in
set_option maxRecDepth 100000 in
theorem c_X11_apart {P : PP} {x : Nat} {p0 : Int32} {p1 : Int32} (F : FC P x) : CtrI yX11_apart cX11_apart 6 (some Jvm.ClassFile.FieldType.int) ({ frames := 4, cells := 0, slots := 0, locals := 256 } : Room) 0 0 P [.ref x, .int p0, .int p1] (fun r _ => r = -1) := by
  obtain ⟨hx, hxK, ok, z1, z6, z9, zt, zh, zm⟩ := F
  refine enI (lv := [(0, .ref x), (1, .int p0), (2, .int p1)]) (by decide) (Nat.le_of_ble_eq_true rfl) rfl (fun E D cy C Ci0 ret => ?_)
  refine g_aload_n C dX11_apart_0 rfl 0 rfl ?_
  refine g_iload_n C dX11_apart_1 rfl 1 rfl ?_
  refine g_iload_n C dX11_apart_2 rfl 2 rfl ?_
  refine g_callVQ (rest := []) C mv_X11_185 [.int p0, .int p1] (c_X11_paperAt ⟨hx, hxK, ok, z1, z6, z9, zt, zh, zm⟩) hx hxK rfl rfl (by decide) (by decide) (by decide) dX11_apart_3 (fun r121 Q122 h123 => ?_)
  obtain ⟨rfl, rfl⟩ := h123
  refine g_astore_nN (lv' := [(3, .null), (0, .ref x), (1, .int p0), (2, .int p1)]) C dX11_apart_6 rfl (by decide) rfl ?_
  refine g_aload_nN C dX11_apart_7 rfl 0 rfl ?_
  refine g_ifnullN C 35 dX11_apart_8 (by decide) ?_
  refine g_iconst (v := (-1)) C dX11_apart_35 (by decide) ?_
  exact ret _ _ _ _ _ _ dX11_apart_36 rfl (by decide) (by decide) (rfl)
theorem dX11_scatter_0 : decode cX11_scatter 0 = .ok (.aload_n 0, 1) := by decide +kernel
theorem dX11_scatter_1 : decode cX11_scatter 1 = .ok (.iload_n 1, 1) := by decide +kernel
theorem dX11_scatter_2 : decode cX11_scatter 2 = .ok (.iload_n 2, 1) := by decide +kernel
theorem dX11_scatter_3 : decode cX11_scatter 3 = .ok (.invokevirtual 136, 3) := by decide +kernel
theorem dX11_scatter_6 : decode cX11_scatter 6 = .ok (.ifCond .eq 23, 3) := by decide +kernel
theorem dX11_scatter_29 : decode cX11_scatter 29 = .ok (.iconst (-1), 1) := by decide +kernel
theorem dX11_scatter_30 : decode cX11_scatter 30 = .ok (.ireturn, 1) := by decide +kernel
set_option maxHeartbeats 4000000 in
set_option maxRecDepth 100000 in
theorem c_X11_scatter {P : PP} {x : Nat} {p0 : Int32} {p1 : Int32} {p2 : Int32} (F : FC P x) : CtrI yX11_scatter cX11_scatter 6 (some Jvm.ClassFile.FieldType.int) ({ frames := 4, cells := 0, slots := 0, locals := 256 } : Room) 0 0 P [.ref x, .int p0, .int p1, .int p2] (fun r _ => r = -1) := by
  obtain ⟨hx, hxK, ok, z1, z6, z9, zt, zh, zm⟩ := F
  refine enI (lv := [(0, .ref x), (1, .int p0), (2, .int p1), (3, .int p2)]) (by decide) (Nat.le_of_ble_eq_true rfl) rfl (fun E D cy C Ci0 ret => ?_)
  refine g_aload_n C dX11_scatter_0 rfl 0 rfl ?_
  refine g_iload_n C dX11_scatter_1 rfl 1 rfl ?_
  refine g_iload_n C dX11_scatter_2 rfl 2 rfl ?_
  refine g_callVI (rest := []) C mv_X11_136 [.int p0, .int p1] (c_X11_isLeaflet ⟨hx, hxK, ok, z1, z6, z9, zt, zh, zm⟩) hx hxK rfl rfl (by decide) (by decide) (by decide) dX11_scatter_3 (fun r124 Q125 h126 => ?_)
  obtain ⟨rfl, rfl⟩ := h126
  refine b_if_eq C 29 dX11_scatter_6 (by decide) (fun _ => ?_) (fun h => absurd h (by decide))
  refine g_iconst (v := (-1)) C dX11_scatter_29 (by decide) ?_
  exact ret _ _ _ _ _ _ dX11_scatter_30 rfl (by decide) (by decide) (rfl)
theorem dX11_needs_0 : decode cX11_needs 0 = .ok (.iload_n 1, 1) := by decide +kernel
theorem dX11_needs_1 : decode cX11_needs 1 = .ok (.invokestatic 158, 3) := by decide +kernel
theorem dX11_needs_4 : decode cX11_needs 4 = .ok (.ifCond .eq 11, 3) := by decide +kernel
theorem dX11_needs_7 : decode cX11_needs 7 = .ok (.aload_n 0, 1) := by decide +kernel
theorem dX11_needs_8 : decode cX11_needs 8 = .ok (.iload_n 2, 1) := by decide +kernel
theorem dX11_needs_9 : decode cX11_needs 9 = .ok (.invokevirtual 97, 3) := by decide +kernel
theorem dX11_needs_12 : decode cX11_needs 12 = .ok (.ifCond .ne 5, 3) := by decide +kernel
theorem dX11_needs_15 : decode cX11_needs 15 = .ok (.iconst (-1), 1) := by decide +kernel
theorem dX11_needs_16 : decode cX11_needs 16 = .ok (.ireturn, 1) := by decide +kernel
set_option maxHeartbeats 4000000 in
set_option maxRecDepth 100000 in
theorem c_X11_needs {P : PP} {x : Nat} {p0 : Int32} {p1 : Int32} (F : FC P x) : CtrI yX11_needs cX11_needs 3 (some Jvm.ClassFile.FieldType.int) ({ frames := 4, cells := 0, slots := 0, locals := 256 } : Room) 0 0 P [.ref x, .int p0, .int p1] (fun r _ => r = -1) := by
  obtain ⟨hx, hxK, ok, z1, z6, z9, zt, zh, zm⟩ := F
  refine enI (lv := [(0, .ref x), (1, .int p0), (2, .int p1)]) (by decide) (Nat.le_of_ble_eq_true rfl) rfl (fun E D cy C Ci0 ret => ?_)
  refine g_iload_n C dX11_needs_0 rfl 1 rfl ?_
  refine g_callSI (b := 0) (ci := 0) (rest := []) C ms_X11_158 [.int p0] (c_X11_isQuarter) rfl rfl (by decide) (by decide) (by decide) dX11_needs_1 (fun r127 Q128 h129 => ?_)
  obtain ⟨rfl, h129⟩ := h129
  rcases h129 with ⟨rfl, h129⟩ | ⟨rfl, h129⟩
  · refine b_if_eq C 15 dX11_needs_4 (by decide) (fun h => absurd h (by decide)) (fun _ => ?_)
    refine g_aload_n C dX11_needs_7 rfl 0 rfl ?_
    refine g_iload_n C dX11_needs_8 rfl 2 rfl ?_
    refine g_callVI (rest := []) C mv_X11_97 [.int p1] (c_X11_isTold ⟨hx, hxK, ok, z1, z6, z9, zt, zh, zm⟩) hx hxK rfl rfl (by decide) (by decide) (by decide) dX11_needs_9 (fun r130 Q131 h132 => ?_)
    obtain ⟨rfl, rfl⟩ := h132
    refine b_if_ne C 17 dX11_needs_12 (by decide) (fun h => absurd h (by decide)) (fun _ => ?_)
    refine g_iconst (v := (-1)) C dX11_needs_15 (by decide) ?_
    exact ret _ _ _ _ _ _ dX11_needs_16 rfl (by decide) (by decide) (rfl)
  · refine b_if_eq C 15 dX11_needs_4 (by decide) (fun _ => ?_) (fun h => absurd h (by decide))
    refine g_iconst (v := (-1)) C dX11_needs_15 (by decide) ?_
    exact ret _ _ _ _ _ _ dX11_needs_16 rfl (by decide) (by decide) (rfl)
theorem dX11_town_0 : decode cX11_town 0 = .ok (.aload_n 0, 1) := by decide +kernel
theorem dX11_town_1 : decode cX11_town 1 = .ok (.iload_n 1, 1) := by decide +kernel
theorem dX11_town_2 : decode cX11_town 2 = .ok (.invokevirtual 97, 3) := by decide +kernel
theorem dX11_town_5 : decode cX11_town 5 = .ok (.ifCond .eq 13, 3) := by decide +kernel
theorem dX11_town_18 : decode cX11_town 18 = .ok (.iconst (-1), 1) := by decide +kernel
theorem dX11_town_19 : decode cX11_town 19 = .ok (.ireturn, 1) := by decide +kernel
set_option maxHeartbeats 4000000 in
set_option maxRecDepth 100000 in
theorem c_X11_town {P : PP} {x : Nat} {p0 : Int32} {p1 : Int32} (F : FC P x) : CtrI yX11_town cX11_town 5 (some Jvm.ClassFile.FieldType.int) ({ frames := 4, cells := 0, slots := 0, locals := 256 } : Room) 0 0 P [.ref x, .int p0, .int p1] (fun r _ => r = -1) := by
  obtain ⟨hx, hxK, ok, z1, z6, z9, zt, zh, zm⟩ := F
  refine enI (lv := [(0, .ref x), (1, .int p0), (2, .int p1)]) (by decide) (Nat.le_of_ble_eq_true rfl) rfl (fun E D cy C Ci0 ret => ?_)
  refine g_aload_n C dX11_town_0 rfl 0 rfl ?_
  refine g_iload_n C dX11_town_1 rfl 1 rfl ?_
  refine g_callVI (rest := []) C mv_X11_97 [.int p0] (c_X11_isTold ⟨hx, hxK, ok, z1, z6, z9, zt, zh, zm⟩) hx hxK rfl rfl (by decide) (by decide) (by decide) dX11_town_2 (fun r133 Q134 h135 => ?_)
  obtain ⟨rfl, rfl⟩ := h135
  refine b_if_eq C 18 dX11_town_5 (by decide) (fun _ => ?_) (fun h => absurd h (by decide))
  refine g_iconst (v := (-1)) C dX11_town_18 (by decide) ?_
  exact ret _ _ _ _ _ _ dX11_town_19 rfl (by decide) (by decide) (rfl)
theorem dX11_average_0 : decode cX11_average 0 = .ok (.aload_n 0, 1) := by decide +kernel
theorem dX11_average_1 : decode cX11_average 1 = .ok (.iload_n 1, 1) := by decide +kernel
theorem dX11_average_2 : decode cX11_average 2 = .ok (.invokevirtual 97, 3) := by decide +kernel
theorem dX11_average_5 : decode cX11_average 5 = .ok (.ifCond .eq 29, 3) := by decide +kernel
theorem dX11_average_34 : decode cX11_average 34 = .ok (.ldc2_w 302, 3) := by decide +kernel
theorem dX11_average_37 : decode cX11_average 37 = .ok (.lreturn, 1) := by decide +kernel
set_option maxHeartbeats 4000000 in
set_option maxRecDepth 100000 in
theorem c_X11_average {P : PP} {x : Nat} {p0 : Int32} {p1 : Int32} {p2 : Int32} {p3 : Int32} (F : FC P x) : CtrL yX11_average cX11_average 14 (some Jvm.ClassFile.FieldType.long) ({ frames := 4, cells := 0, slots := 0, locals := 256 } : Room) 0 0 P [.ref x, .int p0, .int p1, .int p2, .int p3] (fun r _ => r = -1) := by
  obtain ⟨hx, hxK, ok, z1, z6, z9, zt, zh, zm⟩ := F
  refine enL (lv := [(0, .ref x), (1, .int p0), (2, .int p1), (3, .int p2), (4, .int p3)]) (by decide) (Nat.le_of_ble_eq_true rfl) rfl (fun E D cy C Ci0 ret => ?_)
  refine g_aload_n C dX11_average_0 rfl 0 rfl ?_
  refine g_iload_n C dX11_average_1 rfl 1 rfl ?_
  refine g_callVI (rest := []) C mv_X11_97 [.int p0] (c_X11_isTold ⟨hx, hxK, ok, z1, z6, z9, zt, zh, zm⟩) hx hxK rfl rfl (by decide) (by decide) (by decide) dX11_average_2 (fun r136 Q137 h138 => ?_)
  obtain ⟨rfl, rfl⟩ := h138
  refine b_if_eq C 34 dX11_average_5 (by decide) (fun _ => ?_) (fun h => absurd h (by decide))
  refine g_ldc2 (v := -1) C kl_X11_302 dX11_average_34 ?_
  exact ret _ _ _ _ _ _ dX11_average_37 (by decide) (by decide) (rfl)
theorem dX11_page_0 : decode cX11_page 0 = .ok (.aload_n 0, 1) := by decide +kernel
theorem dX11_page_1 : decode cX11_page 1 = .ok (.iload_n 1, 1) := by decide +kernel
theorem dX11_page_2 : decode cX11_page 2 = .ok (.invokevirtual 97, 3) := by decide +kernel
theorem dX11_page_5 : decode cX11_page 5 = .ok (.ifCond .eq 20, 3) := by decide +kernel
theorem dX11_page_25 : decode cX11_page 25 = .ok (.iconst 0, 1) := by decide +kernel
theorem dX11_page_26 : decode cX11_page 26 = .ok (.ireturn, 1) := by decide +kernel
set_option maxHeartbeats 4000000 in
set_option maxRecDepth 100000 in
theorem c_X11_page {P : PP} {x : Nat} {p0 : Int32} {p1 : Int32} {p2 : Int32} (F : FC P x) : CtrI yX11_page cX11_page 4 (some Jvm.ClassFile.FieldType.boolean) ({ frames := 4, cells := 0, slots := 0, locals := 256 } : Room) 0 0 P [.ref x, .int p0, .int p1, .int p2] (fun r _ => r = 0) := by
  obtain ⟨hx, hxK, ok, z1, z6, z9, zt, zh, zm⟩ := F
  refine enI (lv := [(0, .ref x), (1, .int p0), (2, .int p1), (3, .int p2)]) (by decide) (Nat.le_of_ble_eq_true rfl) rfl (fun E D cy C Ci0 ret => ?_)
  refine g_aload_n C dX11_page_0 rfl 0 rfl ?_
  refine g_iload_n C dX11_page_1 rfl 1 rfl ?_
  refine g_callVI (rest := []) C mv_X11_97 [.int p0] (c_X11_isTold ⟨hx, hxK, ok, z1, z6, z9, zt, zh, zm⟩) hx hxK rfl rfl (by decide) (by decide) (by decide) dX11_page_2 (fun r139 Q140 h141 => ?_)
  obtain ⟨rfl, rfl⟩ := h141
  refine b_if_eq C 25 dX11_page_5 (by decide) (fun _ => ?_) (fun h => absurd h (by decide))
  refine g_iconst (v := 0) C dX11_page_25 (by decide) ?_
  exact ret _ _ _ _ _ _ dX11_page_26 rfl (by decide) (by decide) (rfl)
theorem dX11_away_0 : decode cX11_away 0 = .ok (.aload_n 0, 1) := by decide +kernel
theorem dX11_away_1 : decode cX11_away 1 = .ok (.iload_n 1, 1) := by decide +kernel
theorem dX11_away_2 : decode cX11_away 2 = .ok (.iload_n 2, 1) := by decide +kernel
theorem dX11_away_3 : decode cX11_away 3 = .ok (.invokevirtual 185, 3) := by decide +kernel
theorem dX11_away_6 : decode cX11_away 6 = .ok (.ifnonnull 5, 3) := by decide +kernel
theorem dX11_away_9 : decode cX11_away 9 = .ok (.iconst 0, 1) := by decide +kernel
theorem dX11_away_10 : decode cX11_away 10 = .ok (.ireturn, 1) := by decide +kernel
set_option maxHeartbeats 4000000 in
set_option maxRecDepth 100000 in
theorem c_X11_away {P : PP} {x : Nat} {p0 : Int32} {p1 : Int32} (F : FC P x) : CtrI yX11_away cX11_away 3 (some Jvm.ClassFile.FieldType.boolean) ({ frames := 4, cells := 0, slots := 0, locals := 256 } : Room) 0 0 P [.ref x, .int p0, .int p1] (fun r _ => r = 0) := by
  obtain ⟨hx, hxK, ok, z1, z6, z9, zt, zh, zm⟩ := F
  refine enI (lv := [(0, .ref x), (1, .int p0), (2, .int p1)]) (by decide) (Nat.le_of_ble_eq_true rfl) rfl (fun E D cy C Ci0 ret => ?_)
  refine g_aload_n C dX11_away_0 rfl 0 rfl ?_
  refine g_iload_n C dX11_away_1 rfl 1 rfl ?_
  refine g_iload_n C dX11_away_2 rfl 2 rfl ?_
  refine g_callVQ (rest := []) C mv_X11_185 [.int p0, .int p1] (c_X11_paperAt ⟨hx, hxK, ok, z1, z6, z9, zt, zh, zm⟩) hx hxK rfl rfl (by decide) (by decide) (by decide) dX11_away_3 (fun r142 Q143 h144 => ?_)
  obtain ⟨rfl, rfl⟩ := h144
  refine g_ifnonnullN C dX11_away_6 ?_
  refine g_iconst (v := 0) C dX11_away_9 (by decide) ?_
  exact ret _ _ _ _ _ _ dX11_away_10 rfl (by decide) (by decide) (rfl)
end
section
theorem FM.other {P : PP} {x k b : Nat} {v : Int32} (F : FM P x) {f : Nat} {kd n : Nat} (hs : shp 12 f = some (kd, n)) (h13 : 13 ≤ kd) (hb : pR P x f = some b) : pI (pSI P x k v) b = pI P b := by
  obtain ⟨hx, hxK, ok, -⟩ := F
  obtain ⟨b2, h1, h2, h3, h4⟩ := xFd.at (ok x hx) hxK f kd n hs
  rw [hb] at h1; cases h1
  have hne : b ≠ x := fun e => by rw [e, hxK] at h3; omega
  simp [pSI, pI, va_up, hne]
theorem FM.thrown {P : PP} {x : Nat} {v : Int32} (F : FM P x) : FM (pSI P x 0 v) x := by
  have F0 := F
  obtain ⟨hx, hxK, ok, inj, zp, zs, zm, zt, zo, zh⟩ := F
  refine ⟨hx, hxK, ok, inj, fun b hb j => ?_, fun b hb j => ?_, fun b hb j => ?_, ?_, ?_, fun b hb j hj => ?_⟩
  · rw [F0.other (f := 10) rfl (by decide) hb]; exact zp b hb j
  · rw [F0.other (f := 20) rfl (by decide) hb]; exact zs b hb j
  · rw [F0.other (f := 26) rfl (by decide) hb]; exact zm b hb j
  · rw [← zt]; simp [pSI, pI, va_up]
  · rw [← zo]; simp [pSI, pI, va_up]
  · rw [F0.other (f := 46) rfl (by decide) hb]; exact zh b hb j hj
theorem dX12_within_0 : decode cX12_within 0 = .ok (.iload_n 0, 1) := by decide +kernel
theorem dX12_within_1 : decode cX12_within 1 = .ok (.iload_n 1, 1) := by decide +kernel
theorem dX12_within_2 : decode cX12_within 2 = .ok (.if_icmp .lt 12, 3) := by decide +kernel
theorem dX12_within_5 : decode cX12_within 5 = .ok (.iload_n 0, 1) := by decide +kernel
theorem dX12_within_6 : decode cX12_within 6 = .ok (.iload_n 2, 1) := by decide +kernel
theorem dX12_within_7 : decode cX12_within 7 = .ok (.if_icmp .gt 7, 3) := by decide +kernel
theorem dX12_within_10 : decode cX12_within 10 = .ok (.iconst 1, 1) := by decide +kernel
theorem dX12_within_11 : decode cX12_within 11 = .ok (.goto 4, 3) := by decide +kernel
theorem dX12_within_14 : decode cX12_within 14 = .ok (.iconst 0, 1) := by decide +kernel
theorem dX12_within_15 : decode cX12_within 15 = .ok (.ireturn, 1) := by decide +kernel
set_option maxHeartbeats 4000000 in
set_option maxRecDepth 100000 in
theorem c_X12_within {P : PP} {v : Int32} {a : Int32} {b : Int32}  : CtrI yX12_within cX12_within 3 (some Jvm.ClassFile.FieldType.boolean) ({ frames := 1, cells := 0, slots := 0, locals := 64 } : Room) 0 0 P [.int v, .int a, .int b] (fun r P2 => P = P2 ∧ ((r = 1 ∧ (a.toInt ≤ v.toInt ∧ v.toInt ≤ b.toInt)) ∨ (r = 0 ∧ ¬ (a.toInt ≤ v.toInt ∧ v.toInt ≤ b.toInt)))) := by
  refine enI (lv := [(0, .int v), (1, .int a), (2, .int b)]) (by decide) (Nat.le_of_ble_eq_true rfl) rfl (fun E D cy C Ci0 ret => ?_)
  refine g_iload_n C dX12_within_0 rfl 0 rfl ?_
  refine g_iload_n C dX12_within_1 rfl 1 rfl ?_
  refine b_icmp_lt C 14 dX12_within_2 (by decide) (fun h1 => ?_) (fun h1 => ?_)
  · have h1 : v.toInt < a.toInt := h1
    refine g_iconst (v := 0) C dX12_within_14 (by decide) ?_
    exact ret _ _ _ _ _ _ dX12_within_15 rfl (by decide) (by decide) (⟨rfl, Or.inr ⟨rfl, by first | omega | (intro h9; omega)⟩⟩)
  · have h1 : a.toInt ≤ v.toInt := h1
    refine g_iload_n C dX12_within_5 rfl 0 rfl ?_
    refine g_iload_n C dX12_within_6 rfl 2 rfl ?_
    refine b_icmp_gt C 14 dX12_within_7 (by decide) (fun h2 => ?_) (fun h2 => ?_)
    · have h2 : b.toInt < v.toInt := h2
      refine g_iconst (v := 0) C dX12_within_14 (by decide) ?_
      exact ret _ _ _ _ _ _ dX12_within_15 rfl (by decide) (by decide) (⟨rfl, Or.inr ⟨rfl, by first | omega | (intro h9; omega)⟩⟩)
    · have h2 : v.toInt ≤ b.toInt := h2
      refine g_iconst (v := 1) C dX12_within_10 (by decide) ?_
      refine g_goto C 15 dX12_within_11 (by decide) ?_
      exact ret _ _ _ _ _ _ dX12_within_15 rfl (by decide) (by decide) (⟨rfl, Or.inl ⟨rfl, by first | omega | (intro h9; omega)⟩⟩)
theorem dX12_isNumber_0 : decode cX12_isNumber 0 = .ok (.iload_n 0, 1) := by decide +kernel
theorem dX12_isNumber_1 : decode cX12_isNumber 1 = .ok (.iconst 0, 1) := by decide +kernel
theorem dX12_isNumber_2 : decode cX12_isNumber 2 = .ok (.sipush 9999, 3) := by decide +kernel
theorem dX12_isNumber_5 : decode cX12_isNumber 5 = .ok (.invokestatic 178, 3) := by decide +kernel
theorem dX12_isNumber_8 : decode cX12_isNumber 8 = .ok (.ireturn, 1) := by decide +kernel
set_option maxHeartbeats 4000000 in
set_option maxRecDepth 100000 in
theorem c_X12_isNumber {P : PP} {q : Int32}  : CtrI yX12_isNumber cX12_isNumber 1 (some Jvm.ClassFile.FieldType.boolean) ({ frames := 2, cells := 0, slots := 0, locals := 128 } : Room) 0 0 P [.int q] (fun r P2 => P = P2 ∧ ((r = 1 ∧ (0 ≤ q.toInt ∧ q.toInt ≤ 9999)) ∨ (r = 0 ∧ ¬ (0 ≤ q.toInt ∧ q.toInt ≤ 9999)))) := by
  refine enI (lv := [(0, .int q)]) (by decide) (Nat.le_of_ble_eq_true rfl) rfl (fun E D cy C Ci0 ret => ?_)
  refine g_iload_n C dX12_isNumber_0 rfl 0 rfl ?_
  refine g_iconst (v := 0) C dX12_isNumber_1 (by decide) ?_
  refine g_sipush (v := 9999) C dX12_isNumber_2 (by decide) ?_
  refine g_callSI (b := 0) (ci := 0) (rest := []) C ms_X12_178 [.int q, .int 0, .int 9999] (c_X12_within) rfl rfl (by decide) (by decide) (by decide) dX12_isNumber_5 (fun r3 Q4 h5 => ?_)
  obtain ⟨rfl, h5⟩ := h5
  rcases h5 with ⟨rfl, h5⟩ | ⟨rfl, h5⟩
  · have h5 : 0 ≤ q.toInt ∧ q.toInt ≤ 9999 := h5
    exact ret _ _ _ _ _ _ dX12_isNumber_8 rfl (by decide) (by decide) (⟨rfl, Or.inl ⟨rfl, by first | omega | (intro h9; omega)⟩⟩)
  · have h5 : ¬ (0 ≤ q.toInt ∧ q.toInt ≤ 9999) := h5
    exact ret _ _ _ _ _ _ dX12_isNumber_8 rfl (by decide) (by decide) (⟨rfl, Or.inr ⟨rfl, by first | omega | (intro h9; omega)⟩⟩)
theorem dX12_isQuarter_0 : decode cX12_isQuarter 0 = .ok (.iload_n 0, 1) := by decide +kernel
theorem dX12_isQuarter_1 : decode cX12_isQuarter 1 = .ok (.iconst 0, 1) := by decide +kernel
theorem dX12_isQuarter_2 : decode cX12_isQuarter 2 = .ok (.iconst 3, 1) := by decide +kernel
theorem dX12_isQuarter_3 : decode cX12_isQuarter 3 = .ok (.invokestatic 178, 3) := by decide +kernel
theorem dX12_isQuarter_6 : decode cX12_isQuarter 6 = .ok (.ireturn, 1) := by decide +kernel
set_option maxHeartbeats 4000000 in
set_option maxRecDepth 100000 in
theorem c_X12_isQuarter {P : PP} {q : Int32}  : CtrI yX12_isQuarter cX12_isQuarter 1 (some Jvm.ClassFile.FieldType.boolean) ({ frames := 2, cells := 0, slots := 0, locals := 128 } : Room) 0 0 P [.int q] (fun r P2 => P = P2 ∧ ((r = 1 ∧ (0 ≤ q.toInt ∧ q.toInt ≤ 3)) ∨ (r = 0 ∧ ¬ (0 ≤ q.toInt ∧ q.toInt ≤ 3)))) := by
  refine enI (lv := [(0, .int q)]) (by decide) (Nat.le_of_ble_eq_true rfl) rfl (fun E D cy C Ci0 ret => ?_)
  refine g_iload_n C dX12_isQuarter_0 rfl 0 rfl ?_
  refine g_iconst (v := 0) C dX12_isQuarter_1 (by decide) ?_
  refine g_iconst (v := 3) C dX12_isQuarter_2 (by decide) ?_
  refine g_callSI (b := 0) (ci := 0) (rest := []) C ms_X12_178 [.int q, .int 0, .int 3] (c_X12_within) rfl rfl (by decide) (by decide) (by decide) dX12_isQuarter_3 (fun r6 Q7 h8 => ?_)
  obtain ⟨rfl, h8⟩ := h8
  rcases h8 with ⟨rfl, h8⟩ | ⟨rfl, h8⟩
  · have h8 : 0 ≤ q.toInt ∧ q.toInt ≤ 3 := h8
    exact ret _ _ _ _ _ _ dX12_isQuarter_6 rfl (by decide) (by decide) (⟨rfl, Or.inl ⟨rfl, by first | omega | (intro h9; omega)⟩⟩)
  · have h8 : ¬ (0 ≤ q.toInt ∧ q.toInt ≤ 3) := h8
    exact ret _ _ _ _ _ _ dX12_isQuarter_6 rfl (by decide) (by decide) (⟨rfl, Or.inr ⟨rfl, by first | omega | (intro h9; omega)⟩⟩)
theorem dX12_isBook_0 : decode cX12_isBook 0 = .ok (.iload_n 1, 1) := by decide +kernel
theorem dX12_isBook_1 : decode cX12_isBook 1 = .ok (.iconst 0, 1) := by decide +kernel
theorem dX12_isBook_2 : decode cX12_isBook 2 = .ok (.iconst 1, 1) := by decide +kernel
theorem dX12_isBook_3 : decode cX12_isBook 3 = .ok (.invokestatic 178, 3) := by decide +kernel
theorem dX12_isBook_6 : decode cX12_isBook 6 = .ok (.ifCond .eq 16, 3) := by decide +kernel
theorem dX12_isBook_9 : decode cX12_isBook 9 = .ok (.aload_n 0, 1) := by decide +kernel
theorem dX12_isBook_10 : decode cX12_isBook 10 = .ok (.getfield 45, 3) := by decide +kernel
theorem dX12_isBook_13 : decode cX12_isBook 13 = .ok (.iload_n 1, 1) := by decide +kernel
theorem dX12_isBook_14 : decode cX12_isBook 14 = .ok (.iaload, 1) := by decide +kernel
theorem dX12_isBook_15 : decode cX12_isBook 15 = .ok (.ifCond .le 7, 3) := by decide +kernel
theorem dX12_isBook_22 : decode cX12_isBook 22 = .ok (.iconst 0, 1) := by decide +kernel
theorem dX12_isBook_23 : decode cX12_isBook 23 = .ok (.ireturn, 1) := by decide +kernel
set_option maxHeartbeats 4000000 in
set_option maxRecDepth 100000 in
theorem c_X12_isBook {P : PP} {x : Nat} {b : Int32} (F : FM P x) : CtrI yX12_isBook cX12_isBook 2 (some Jvm.ClassFile.FieldType.boolean) ({ frames := 3, cells := 0, slots := 0, locals := 192 } : Room) 0 0 P [.ref x, .int b] (fun r P2 => P = P2 ∧ r = 0) := by
  obtain ⟨hx, hxK, ok, inj, zp, zs, zm, zt, zo, zh⟩ := F
  refine enI (lv := [(0, .ref x), (1, .int b)]) (by decide) (Nat.le_of_ble_eq_true rfl) rfl (fun E D cy C Ci0 ret => ?_)
  refine g_iload_n C dX12_isBook_0 rfl 1 rfl ?_
  refine g_iconst (v := 0) C dX12_isBook_1 (by decide) ?_
  refine g_iconst (v := 1) C dX12_isBook_2 (by decide) ?_
  refine g_callSI (b := 0) (ci := 0) (rest := []) C ms_X12_178 [.int b, .int 0, .int 1] (c_X12_within) rfl rfl (by decide) (by decide) (by decide) dX12_isBook_3 (fun r9 Q10 h11 => ?_)
  obtain ⟨rfl, h11⟩ := h11
  rcases h11 with ⟨rfl, h11⟩ | ⟨rfl, h11⟩
  · have h11 : 0 ≤ b.toInt ∧ b.toInt ≤ 1 := h11
    refine b_if_eq C 22 dX12_isBook_6 (by decide) (fun h => absurd h (by decide)) (fun _ => ?_)
    refine g_aload_n C dX12_isBook_9 rfl 0 rfl ?_
    obtain ⟨b12, h13⟩ := xFd.at (ok x hx) hxK 10 13 2 rfl
    refine g_getR C fi_X12_45 rfl h13.1 hx hxK dX12_isBook_10 ?_
    refine g_iload_n C dX12_isBook_13 rfl 1 rfl ?_
    refine g_iald (j := (b.toInt.toNat)) C h13.2.1 h13.2.2.1 (IX.intn (i := b) h13.2.2.2 (by omega) (by omega)) dX12_isBook_14 ?_
    rw [show pI P b12 ((b.toInt.toNat)) = 0 from zp _ h13.1 _]
    refine b_if_le C 22 dX12_isBook_15 (by decide) (fun _ => ?_) (fun h => absurd h (by decide))
    refine g_iconst (v := 0) C dX12_isBook_22 (by decide) ?_
    exact ret _ _ _ _ _ _ dX12_isBook_23 rfl (by decide) (by decide) (⟨rfl, rfl⟩)
  · have h11 : ¬ (0 ≤ b.toInt ∧ b.toInt ≤ 1) := h11
    refine b_if_eq C 22 dX12_isBook_6 (by decide) (fun _ => ?_) (fun h => absurd h (by decide))
    refine g_iconst (v := 0) C dX12_isBook_22 (by decide) ?_
    exact ret _ _ _ _ _ _ dX12_isBook_23 rfl (by decide) (by decide) (⟨rfl, rfl⟩)
theorem dX12_isPaper_0 : decode cX12_isPaper 0 = .ok (.iload_n 1, 1) := by decide +kernel
theorem dX12_isPaper_1 : decode cX12_isPaper 1 = .ok (.invokestatic 278, 3) := by decide +kernel
theorem dX12_isPaper_4 : decode cX12_isPaper 4 = .ok (.ifCond .eq 21, 3) := by decide +kernel
theorem dX12_isPaper_7 : decode cX12_isPaper 7 = .ok (.iload_n 2, 1) := by decide +kernel
theorem dX12_isPaper_8 : decode cX12_isPaper 8 = .ok (.ifCond .lt 17, 3) := by decide +kernel
theorem dX12_isPaper_11 : decode cX12_isPaper 11 = .ok (.iload_n 2, 1) := by decide +kernel
theorem dX12_isPaper_12 : decode cX12_isPaper 12 = .ok (.aload_n 0, 1) := by decide +kernel
theorem dX12_isPaper_13 : decode cX12_isPaper 13 = .ok (.getfield 69, 3) := by decide +kernel
theorem dX12_isPaper_16 : decode cX12_isPaper 16 = .ok (.iload_n 1, 1) := by decide +kernel
theorem dX12_isPaper_17 : decode cX12_isPaper 17 = .ok (.iaload, 1) := by decide +kernel
theorem dX12_isPaper_18 : decode cX12_isPaper 18 = .ok (.if_icmp .ge 7, 3) := by decide +kernel
theorem dX12_isPaper_25 : decode cX12_isPaper 25 = .ok (.iconst 0, 1) := by decide +kernel
theorem dX12_isPaper_26 : decode cX12_isPaper 26 = .ok (.ireturn, 1) := by decide +kernel
set_option maxHeartbeats 4000000 in
set_option maxRecDepth 100000 in
theorem c_X12_isPaper {P : PP} {x : Nat} {q : Int32} {k : Int32} (F : FM P x) : CtrI yX12_isPaper cX12_isPaper 3 (some Jvm.ClassFile.FieldType.boolean) ({ frames := 4, cells := 0, slots := 0, locals := 256 } : Room) 0 0 P [.ref x, .int q, .int k] (fun r P2 => P = P2 ∧ r = 0) := by
  obtain ⟨hx, hxK, ok, inj, zp, zs, zm, zt, zo, zh⟩ := F
  refine enI (lv := [(0, .ref x), (1, .int q), (2, .int k)]) (by decide) (Nat.le_of_ble_eq_true rfl) rfl (fun E D cy C Ci0 ret => ?_)
  refine g_iload_n C dX12_isPaper_0 rfl 1 rfl ?_
  refine g_callSI (b := 0) (ci := 0) (rest := []) C ms_X12_278 [.int q] (c_X12_isQuarter) rfl rfl (by decide) (by decide) (by decide) dX12_isPaper_1 (fun r14 Q15 h16 => ?_)
  obtain ⟨rfl, h16⟩ := h16
  rcases h16 with ⟨rfl, h16⟩ | ⟨rfl, h16⟩
  · have h16 : 0 ≤ q.toInt ∧ q.toInt ≤ 3 := h16
    refine b_if_eq C 25 dX12_isPaper_4 (by decide) (fun h => absurd h (by decide)) (fun _ => ?_)
    refine g_iload_n C dX12_isPaper_7 rfl 2 rfl ?_
    refine b_if_lt C 25 dX12_isPaper_8 (by decide) (fun h17 => ?_) (fun h17 => ?_)
    · have h17 : k.toInt < 0 := h17
      refine g_iconst (v := 0) C dX12_isPaper_25 (by decide) ?_
      exact ret _ _ _ _ _ _ dX12_isPaper_26 rfl (by decide) (by decide) (⟨rfl, rfl⟩)
    · have h17 : 0 ≤ k.toInt := h17
      refine g_iload_n C dX12_isPaper_11 rfl 2 rfl ?_
      refine g_aload_n C dX12_isPaper_12 rfl 0 rfl ?_
      obtain ⟨b18, h19⟩ := xFd.at (ok x hx) hxK 20 13 20 rfl
      refine g_getR C fi_X12_69 rfl h19.1 hx hxK dX12_isPaper_13 ?_
      refine g_iload_n C dX12_isPaper_16 rfl 1 rfl ?_
      refine g_iald (j := (q.toInt.toNat)) C h19.2.1 h19.2.2.1 (IX.intn (i := q) h19.2.2.2 (by omega) (by omega)) dX12_isPaper_17 ?_
      rw [show pI P b18 ((q.toInt.toNat)) = 0 from zs _ h19.1 _]
      refine b_icmp_ge C 25 dX12_isPaper_18 (by decide) (fun h20 => ?_) (fun h20 => ?_)
      · have h20 : 0 ≤ k.toInt := h20
        refine g_iconst (v := 0) C dX12_isPaper_25 (by decide) ?_
        exact ret _ _ _ _ _ _ dX12_isPaper_26 rfl (by decide) (by decide) (⟨rfl, rfl⟩)
      · have h20 : k.toInt < 0 := h20
        omega
  · have h16 : ¬ (0 ≤ q.toInt ∧ q.toInt ≤ 3) := h16
    refine b_if_eq C 25 dX12_isPaper_4 (by decide) (fun _ => ?_) (fun h => absurd h (by decide))
    refine g_iconst (v := 0) C dX12_isPaper_25 (by decide) ?_
    exact ret _ _ _ _ _ _ dX12_isPaper_26 rfl (by decide) (by decide) (⟨rfl, rfl⟩)
theorem dX12_isAsked_0 : decode cX12_isAsked 0 = .ok (.iload_n 1, 1) := by decide +kernel
theorem dX12_isAsked_1 : decode cX12_isAsked 1 = .ok (.invokestatic 278, 3) := by decide +kernel
theorem dX12_isAsked_4 : decode cX12_isAsked 4 = .ok (.ifCond .eq 24, 3) := by decide +kernel
theorem dX12_isAsked_7 : decode cX12_isAsked 7 = .ok (.aload_n 0, 1) := by decide +kernel
theorem dX12_isAsked_8 : decode cX12_isAsked 8 = .ok (.iload_n 2, 1) := by decide +kernel
theorem dX12_isAsked_9 : decode cX12_isAsked 9 = .ok (.invokevirtual 192, 3) := by decide +kernel
theorem dX12_isAsked_12 : decode cX12_isAsked 12 = .ok (.ifCond .eq 16, 3) := by decide +kernel
theorem dX12_isAsked_28 : decode cX12_isAsked 28 = .ok (.iconst 0, 1) := by decide +kernel
theorem dX12_isAsked_29 : decode cX12_isAsked 29 = .ok (.ireturn, 1) := by decide +kernel
set_option maxHeartbeats 4000000 in
set_option maxRecDepth 100000 in
theorem c_X12_isAsked {P : PP} {x : Nat} {q : Int32} {b : Int32} {o : Int32} (F : FM P x) : CtrI yX12_isAsked cX12_isAsked 4 (some Jvm.ClassFile.FieldType.boolean) ({ frames := 4, cells := 0, slots := 0, locals := 256 } : Room) 0 0 P [.ref x, .int q, .int b, .int o] (fun r P2 => P = P2 ∧ r = 0) := by
  obtain ⟨hx, hxK, ok, inj, zp, zs, zm, zt, zo, zh⟩ := F
  refine enI (lv := [(0, .ref x), (1, .int q), (2, .int b), (3, .int o)]) (by decide) (Nat.le_of_ble_eq_true rfl) rfl (fun E D cy C Ci0 ret => ?_)
  refine g_iload_n C dX12_isAsked_0 rfl 1 rfl ?_
  refine g_callSI (b := 0) (ci := 0) (rest := []) C ms_X12_278 [.int q] (c_X12_isQuarter) rfl rfl (by decide) (by decide) (by decide) dX12_isAsked_1 (fun r21 Q22 h23 => ?_)
  obtain ⟨rfl, h23⟩ := h23
  rcases h23 with ⟨rfl, h23⟩ | ⟨rfl, h23⟩
  · have h23 : 0 ≤ q.toInt ∧ q.toInt ≤ 3 := h23
    refine b_if_eq C 28 dX12_isAsked_4 (by decide) (fun h => absurd h (by decide)) (fun _ => ?_)
    refine g_aload_n C dX12_isAsked_7 rfl 0 rfl ?_
    refine g_iload_n C dX12_isAsked_8 rfl 2 rfl ?_
    refine g_callVI (rest := []) C mv_X12_192 [.int b] (c_X12_isBook ⟨hx, hxK, ok, inj, zp, zs, zm, zt, zo, zh⟩) hx hxK rfl rfl (by decide) (by decide) (by decide) dX12_isAsked_9 (fun r24 Q25 h26 => ?_)
    obtain ⟨rfl, rfl⟩ := h26
    refine b_if_eq C 28 dX12_isAsked_12 (by decide) (fun _ => ?_) (fun h => absurd h (by decide))
    refine g_iconst (v := 0) C dX12_isAsked_28 (by decide) ?_
    exact ret _ _ _ _ _ _ dX12_isAsked_29 rfl (by decide) (by decide) (⟨rfl, rfl⟩)
  · have h23 : ¬ (0 ≤ q.toInt ∧ q.toInt ≤ 3) := h23
    refine b_if_eq C 28 dX12_isAsked_4 (by decide) (fun _ => ?_) (fun h => absurd h (by decide))
    refine g_iconst (v := 0) C dX12_isAsked_28 (by decide) ?_
    exact ret _ _ _ _ _ _ dX12_isAsked_29 rfl (by decide) (by decide) (⟨rfl, rfl⟩)
theorem dX12_areChances_0 : decode cX12_areChances 0 = .ok (.aload_n 0, 1) := by decide +kernel
theorem dX12_areChances_1 : decode cX12_areChances 1 = .ok (.iload_n 1, 1) := by decide +kernel
theorem dX12_areChances_2 : decode cX12_areChances 2 = .ok (.invokevirtual 192, 3) := by decide +kernel
theorem dX12_areChances_5 : decode cX12_areChances 5 = .ok (.ifCond .eq 26, 3) := by decide +kernel
theorem dX12_areChances_31 : decode cX12_areChances 31 = .ok (.iconst 0, 1) := by decide +kernel
theorem dX12_areChances_32 : decode cX12_areChances 32 = .ok (.ireturn, 1) := by decide +kernel
set_option maxHeartbeats 4000000 in
set_option maxRecDepth 100000 in
theorem c_X12_areChances {P : PP} {x : Nat} {q : Int32} {b : Int32} {o : Int32} (F : FM P x) : CtrI yX12_areChances cX12_areChances 4 (some Jvm.ClassFile.FieldType.boolean) ({ frames := 4, cells := 0, slots := 0, locals := 256 } : Room) 0 0 P [.ref x, .int q, .int b, .int o] (fun r P2 => P = P2 ∧ r = 0) := by
  obtain ⟨hx, hxK, ok, inj, zp, zs, zm, zt, zo, zh⟩ := F
  refine enI (lv := [(0, .ref x), (1, .int q), (2, .int b), (3, .int o)]) (by decide) (Nat.le_of_ble_eq_true rfl) rfl (fun E D cy C Ci0 ret => ?_)
  refine g_aload_n C dX12_areChances_0 rfl 0 rfl ?_
  refine g_iload_n C dX12_areChances_1 rfl 1 rfl ?_
  refine g_callVI (rest := []) C mv_X12_192 [.int q] (c_X12_isBook ⟨hx, hxK, ok, inj, zp, zs, zm, zt, zo, zh⟩) hx hxK rfl rfl (by decide) (by decide) (by decide) dX12_areChances_2 (fun r27 Q28 h29 => ?_)
  obtain ⟨rfl, rfl⟩ := h29
  refine b_if_eq C 31 dX12_areChances_5 (by decide) (fun _ => ?_) (fun h => absurd h (by decide))
  refine g_iconst (v := 0) C dX12_areChances_31 (by decide) ?_
  exact ret _ _ _ _ _ _ dX12_areChances_32 rfl (by decide) (by decide) (⟨rfl, rfl⟩)
theorem dX12_leaflet_0 : decode cX12_leaflet 0 = .ok (.aload_n 0, 1) := by decide +kernel
theorem dX12_leaflet_1 : decode cX12_leaflet 1 = .ok (.iconst 0, 1) := by decide +kernel
theorem dX12_leaflet_2 : decode cX12_leaflet 2 = .ok (.putfield 1, 3) := by decide +kernel
theorem dX12_leaflet_5 : decode cX12_leaflet 5 = .ok (.aload_n 0, 1) := by decide +kernel
theorem dX12_leaflet_6 : decode cX12_leaflet 6 = .ok (.iload_n 1, 1) := by decide +kernel
theorem dX12_leaflet_7 : decode cX12_leaflet 7 = .ok (.invokevirtual 192, 3) := by decide +kernel
theorem dX12_leaflet_10 : decode cX12_leaflet 10 = .ok (.ifCond .eq 19, 3) := by decide +kernel
theorem dX12_leaflet_29 : decode cX12_leaflet 29 = .ok (.iconst (-1), 1) := by decide +kernel
theorem dX12_leaflet_30 : decode cX12_leaflet 30 = .ok (.ireturn, 1) := by decide +kernel
set_option maxHeartbeats 4000000 in
set_option maxRecDepth 100000 in
theorem c_X12_leaflet {P : PP} {x : Nat} {p0 : Int32} {p1 : Int32} {p2 : Int32} (F : FM P x) : CtrI yX12_leaflet cX12_leaflet 5 (some Jvm.ClassFile.FieldType.int) ({ frames := 5, cells := 0, slots := 0, locals := 320 } : Room) 0 0 P [.ref x, .int p0, .int p1, .int p2] (fun r _ => r = -1) := by
  refine enI (lv := [(0, .ref x), (1, .int p0), (2, .int p1), (3, .int p2)]) (by decide) (Nat.le_of_ble_eq_true rfl) rfl (fun E D cy C Ci0 ret => ?_)
  refine g_aload_n C dX12_leaflet_0 rfl 0 rfl ?_
  refine g_iconst (v := 0) C dX12_leaflet_1 (by decide) ?_
  refine g_putI C fi_X12_1 rfl F.1 F.2.1 dX12_leaflet_2 ?_
  have F := F.thrown (v := 0)
  generalize pSI P x 0 0 = P1 at F ⊢
  obtain ⟨hx, hxK, ok, inj, zp, zs, zm, zt, zo, zh⟩ := F
  refine g_aload_n C dX12_leaflet_5 rfl 0 rfl ?_
  refine g_iload_n C dX12_leaflet_6 rfl 1 rfl ?_
  refine g_callVI (rest := []) C mv_X12_192 [.int p0] (c_X12_isBook ⟨hx, hxK, ok, inj, zp, zs, zm, zt, zo, zh⟩) hx hxK rfl rfl (by decide) (by decide) (by decide) dX12_leaflet_7 (fun r30 Q31 h32 => ?_)
  obtain ⟨rfl, rfl⟩ := h32
  refine b_if_eq C 29 dX12_leaflet_10 (by decide) (fun _ => ?_) (fun h => absurd h (by decide))
  refine g_iconst (v := (-1)) C dX12_leaflet_29 (by decide) ?_
  exact ret _ _ _ _ _ _ dX12_leaflet_30 rfl (by decide) (by decide) (rfl)
theorem dX12_told_0 : decode cX12_told 0 = .ok (.aload_n 0, 1) := by decide +kernel
theorem dX12_told_1 : decode cX12_told 1 = .ok (.iconst 0, 1) := by decide +kernel
theorem dX12_told_2 : decode cX12_told 2 = .ok (.putfield 1, 3) := by decide +kernel
theorem dX12_told_5 : decode cX12_told 5 = .ok (.aload_n 0, 1) := by decide +kernel
theorem dX12_told_6 : decode cX12_told 6 = .ok (.iload_n 1, 1) := by decide +kernel
theorem dX12_told_7 : decode cX12_told 7 = .ok (.invokevirtual 192, 3) := by decide +kernel
theorem dX12_told_10 : decode cX12_told 10 = .ok (.ifCond .eq 27, 3) := by decide +kernel
theorem dX12_told_37 : decode cX12_told 37 = .ok (.iconst (-1), 1) := by decide +kernel
theorem dX12_told_38 : decode cX12_told 38 = .ok (.ireturn, 1) := by decide +kernel
set_option maxHeartbeats 4000000 in
set_option maxRecDepth 100000 in
theorem c_X12_told {P : PP} {x : Nat} {p0 : Int32} {p1 : Int32} (F : FM P x) : CtrI yX12_told cX12_told 3 (some Jvm.ClassFile.FieldType.int) ({ frames := 5, cells := 0, slots := 0, locals := 320 } : Room) 0 0 P [.ref x, .int p0, .int p1] (fun r _ => r = -1) := by
  refine enI (lv := [(0, .ref x), (1, .int p0), (2, .int p1)]) (by decide) (Nat.le_of_ble_eq_true rfl) rfl (fun E D cy C Ci0 ret => ?_)
  refine g_aload_n C dX12_told_0 rfl 0 rfl ?_
  refine g_iconst (v := 0) C dX12_told_1 (by decide) ?_
  refine g_putI C fi_X12_1 rfl F.1 F.2.1 dX12_told_2 ?_
  have F := F.thrown (v := 0)
  generalize pSI P x 0 0 = P1 at F ⊢
  obtain ⟨hx, hxK, ok, inj, zp, zs, zm, zt, zo, zh⟩ := F
  refine g_aload_n C dX12_told_5 rfl 0 rfl ?_
  refine g_iload_n C dX12_told_6 rfl 1 rfl ?_
  refine g_callVI (rest := []) C mv_X12_192 [.int p0] (c_X12_isBook ⟨hx, hxK, ok, inj, zp, zs, zm, zt, zo, zh⟩) hx hxK rfl rfl (by decide) (by decide) (by decide) dX12_told_7 (fun r33 Q34 h35 => ?_)
  obtain ⟨rfl, rfl⟩ := h35
  refine b_if_eq C 37 dX12_told_10 (by decide) (fun _ => ?_) (fun h => absurd h (by decide))
  refine g_iconst (v := (-1)) C dX12_told_37 (by decide) ?_
  exact ret _ _ _ _ _ _ dX12_told_38 rfl (by decide) (by decide) (rfl)
theorem dX12_comes_0 : decode cX12_comes 0 = .ok (.aload_n 0, 1) := by decide +kernel
theorem dX12_comes_1 : decode cX12_comes 1 = .ok (.iconst 0, 1) := by decide +kernel
theorem dX12_comes_2 : decode cX12_comes 2 = .ok (.putfield 1, 3) := by decide +kernel
theorem dX12_comes_5 : decode cX12_comes 5 = .ok (.iload_n 1, 1) := by decide +kernel
theorem dX12_comes_6 : decode cX12_comes 6 = .ok (.invokestatic 278, 3) := by decide +kernel
theorem dX12_comes_9 : decode cX12_comes 9 = .ok (.ifCond .eq 39, 3) := by decide +kernel
theorem dX12_comes_12 : decode cX12_comes 12 = .ok (.aload_n 0, 1) := by decide +kernel
theorem dX12_comes_13 : decode cX12_comes 13 = .ok (.iload_n 2, 1) := by decide +kernel
theorem dX12_comes_14 : decode cX12_comes 14 = .ok (.invokevirtual 192, 3) := by decide +kernel
theorem dX12_comes_17 : decode cX12_comes 17 = .ok (.ifCond .eq 31, 3) := by decide +kernel
theorem dX12_comes_48 : decode cX12_comes 48 = .ok (.iconst (-1), 1) := by decide +kernel
theorem dX12_comes_49 : decode cX12_comes 49 = .ok (.ireturn, 1) := by decide +kernel
set_option maxHeartbeats 4000000 in
set_option maxRecDepth 100000 in
theorem c_X12_comes {P : PP} {x : Nat} {p0 : Int32} {p1 : Int32} {p2 : Int32} {p3 : Int32} (F : FM P x) : CtrI yX12_comes cX12_comes 6 (some Jvm.ClassFile.FieldType.int) ({ frames := 5, cells := 0, slots := 0, locals := 320 } : Room) 0 0 P [.ref x, .int p0, .int p1, .int p2, .int p3] (fun r _ => r = -1) := by
  refine enI (lv := [(0, .ref x), (1, .int p0), (2, .int p1), (3, .int p2), (4, .int p3)]) (by decide) (Nat.le_of_ble_eq_true rfl) rfl (fun E D cy C Ci0 ret => ?_)
  refine g_aload_n C dX12_comes_0 rfl 0 rfl ?_
  refine g_iconst (v := 0) C dX12_comes_1 (by decide) ?_
  refine g_putI C fi_X12_1 rfl F.1 F.2.1 dX12_comes_2 ?_
  have F := F.thrown (v := 0)
  generalize pSI P x 0 0 = P1 at F ⊢
  obtain ⟨hx, hxK, ok, inj, zp, zs, zm, zt, zo, zh⟩ := F
  refine g_iload_n C dX12_comes_5 rfl 1 rfl ?_
  refine g_callSI (b := 0) (ci := 0) (rest := []) C ms_X12_278 [.int p0] (c_X12_isQuarter) rfl rfl (by decide) (by decide) (by decide) dX12_comes_6 (fun r36 Q37 h38 => ?_)
  obtain ⟨rfl, h38⟩ := h38
  rcases h38 with ⟨rfl, h38⟩ | ⟨rfl, h38⟩
  · have h38 : 0 ≤ p0.toInt ∧ p0.toInt ≤ 3 := h38
    refine b_if_eq C 48 dX12_comes_9 (by decide) (fun h => absurd h (by decide)) (fun _ => ?_)
    refine g_aload_n C dX12_comes_12 rfl 0 rfl ?_
    refine g_iload_n C dX12_comes_13 rfl 2 rfl ?_
    refine g_callVI (rest := []) C mv_X12_192 [.int p1] (c_X12_isBook ⟨hx, hxK, ok, inj, zp, zs, zm, zt, zo, zh⟩) hx hxK rfl rfl (by decide) (by decide) (by decide) dX12_comes_14 (fun r39 Q40 h41 => ?_)
    obtain ⟨rfl, rfl⟩ := h41
    refine b_if_eq C 48 dX12_comes_17 (by decide) (fun _ => ?_) (fun h => absurd h (by decide))
    refine g_iconst (v := (-1)) C dX12_comes_48 (by decide) ?_
    exact ret _ _ _ _ _ _ dX12_comes_49 rfl (by decide) (by decide) (rfl)
  · have h38 : ¬ (0 ≤ p0.toInt ∧ p0.toInt ≤ 3) := h38
    refine b_if_eq C 48 dX12_comes_9 (by decide) (fun _ => ?_) (fun h => absurd h (by decide))
    refine g_iconst (v := (-1)) C dX12_comes_48 (by decide) ?_
    exact ret _ _ _ _ _ _ dX12_comes_49 rfl (by decide) (by decide) (rfl)
theorem dX12_slip_0 : decode cX12_slip 0 = .ok (.aload_n 0, 1) := by decide +kernel
theorem dX12_slip_1 : decode cX12_slip 1 = .ok (.iconst 0, 1) := by decide +kernel
theorem dX12_slip_2 : decode cX12_slip 2 = .ok (.putfield 1, 3) := by decide +kernel
theorem dX12_slip_5 : decode cX12_slip 5 = .ok (.iload_n 1, 1) := by decide +kernel
theorem dX12_slip_6 : decode cX12_slip 6 = .ok (.invokestatic 278, 3) := by decide +kernel
theorem dX12_slip_9 : decode cX12_slip 9 = .ok (.ifCond .eq 40, 3) := by decide +kernel
theorem dX12_slip_12 : decode cX12_slip 12 = .ok (.aload_n 0, 1) := by decide +kernel
theorem dX12_slip_13 : decode cX12_slip 13 = .ok (.iload_n 2, 1) := by decide +kernel
theorem dX12_slip_14 : decode cX12_slip 14 = .ok (.invokevirtual 192, 3) := by decide +kernel
theorem dX12_slip_17 : decode cX12_slip 17 = .ok (.ifCond .eq 32, 3) := by decide +kernel
theorem dX12_slip_49 : decode cX12_slip 49 = .ok (.iconst (-1), 1) := by decide +kernel
theorem dX12_slip_50 : decode cX12_slip 50 = .ok (.ireturn, 1) := by decide +kernel
set_option maxHeartbeats 4000000 in
set_option maxRecDepth 100000 in
theorem c_X12_slip {P : PP} {x : Nat} {p0 : Int32} {p1 : Int32} {p2 : Int32} {p3 : Int32} (F : FM P x) : CtrI yX12_slip cX12_slip 6 (some Jvm.ClassFile.FieldType.int) ({ frames := 5, cells := 0, slots := 0, locals := 320 } : Room) 0 0 P [.ref x, .int p0, .int p1, .int p2, .int p3] (fun r _ => r = -1) := by
  refine enI (lv := [(0, .ref x), (1, .int p0), (2, .int p1), (3, .int p2), (4, .int p3)]) (by decide) (Nat.le_of_ble_eq_true rfl) rfl (fun E D cy C Ci0 ret => ?_)
  refine g_aload_n C dX12_slip_0 rfl 0 rfl ?_
  refine g_iconst (v := 0) C dX12_slip_1 (by decide) ?_
  refine g_putI C fi_X12_1 rfl F.1 F.2.1 dX12_slip_2 ?_
  have F := F.thrown (v := 0)
  generalize pSI P x 0 0 = P1 at F ⊢
  obtain ⟨hx, hxK, ok, inj, zp, zs, zm, zt, zo, zh⟩ := F
  refine g_iload_n C dX12_slip_5 rfl 1 rfl ?_
  refine g_callSI (b := 0) (ci := 0) (rest := []) C ms_X12_278 [.int p0] (c_X12_isQuarter) rfl rfl (by decide) (by decide) (by decide) dX12_slip_6 (fun r42 Q43 h44 => ?_)
  obtain ⟨rfl, h44⟩ := h44
  rcases h44 with ⟨rfl, h44⟩ | ⟨rfl, h44⟩
  · have h44 : 0 ≤ p0.toInt ∧ p0.toInt ≤ 3 := h44
    refine b_if_eq C 49 dX12_slip_9 (by decide) (fun h => absurd h (by decide)) (fun _ => ?_)
    refine g_aload_n C dX12_slip_12 rfl 0 rfl ?_
    refine g_iload_n C dX12_slip_13 rfl 2 rfl ?_
    refine g_callVI (rest := []) C mv_X12_192 [.int p1] (c_X12_isBook ⟨hx, hxK, ok, inj, zp, zs, zm, zt, zo, zh⟩) hx hxK rfl rfl (by decide) (by decide) (by decide) dX12_slip_14 (fun r45 Q46 h47 => ?_)
    obtain ⟨rfl, rfl⟩ := h47
    refine b_if_eq C 49 dX12_slip_17 (by decide) (fun _ => ?_) (fun h => absurd h (by decide))
    refine g_iconst (v := (-1)) C dX12_slip_49 (by decide) ?_
    exact ret _ _ _ _ _ _ dX12_slip_50 rfl (by decide) (by decide) (rfl)
  · have h44 : ¬ (0 ≤ p0.toInt ∧ p0.toInt ≤ 3) := h44
    refine b_if_eq C 49 dX12_slip_9 (by decide) (fun _ => ?_) (fun h => absurd h (by decide))
    refine g_iconst (v := (-1)) C dX12_slip_49 (by decide) ?_
    exact ret _ _ _ _ _ _ dX12_slip_50 rfl (by decide) (by decide) (rfl)
theorem dX12_forged_0 : decode cX12_forged 0 = .ok (.aload_n 0, 1) := by decide +kernel
theorem dX12_forged_1 : decode cX12_forged 1 = .ok (.iconst 0, 1) := by decide +kernel
theorem dX12_forged_2 : decode cX12_forged 2 = .ok (.putfield 1, 3) := by decide +kernel
theorem dX12_forged_5 : decode cX12_forged 5 = .ok (.iload_n 1, 1) := by decide +kernel
theorem dX12_forged_6 : decode cX12_forged 6 = .ok (.invokestatic 278, 3) := by decide +kernel
theorem dX12_forged_9 : decode cX12_forged 9 = .ok (.ifCond .eq 45, 3) := by decide +kernel
theorem dX12_forged_12 : decode cX12_forged 12 = .ok (.aload_n 0, 1) := by decide +kernel
theorem dX12_forged_13 : decode cX12_forged 13 = .ok (.iload_n 2, 1) := by decide +kernel
theorem dX12_forged_14 : decode cX12_forged 14 = .ok (.invokevirtual 192, 3) := by decide +kernel
theorem dX12_forged_17 : decode cX12_forged 17 = .ok (.ifCond .eq 37, 3) := by decide +kernel
theorem dX12_forged_54 : decode cX12_forged 54 = .ok (.iconst 0, 1) := by decide +kernel
theorem dX12_forged_55 : decode cX12_forged 55 = .ok (.istore 6, 2) := by decide +kernel
theorem dX12_forged_57 : decode cX12_forged 57 = .ok (.iload 6, 2) := by decide +kernel
theorem dX12_forged_59 : decode cX12_forged 59 = .ok (.ifCond .eq 28, 3) := by decide +kernel
theorem dX12_forged_87 : decode cX12_forged 87 = .ok (.iconst (-1), 1) := by decide +kernel
theorem dX12_forged_88 : decode cX12_forged 88 = .ok (.ireturn, 1) := by decide +kernel
set_option maxHeartbeats 4000000 in
set_option maxRecDepth 100000 in
theorem c_X12_forged {P : PP} {x : Nat} {p0 : Int32} {p1 : Int32} {p2 : Int32} {p3 : Int32} {p4 : Int32} (F : FM P x) : CtrI yX12_forged cX12_forged 7 (some Jvm.ClassFile.FieldType.int) ({ frames := 5, cells := 0, slots := 0, locals := 320 } : Room) 0 0 P [.ref x, .int p0, .int p1, .int p2, .int p3, .int p4] (fun r _ => r = -1) := by
  refine enI (lv := [(0, .ref x), (1, .int p0), (2, .int p1), (3, .int p2), (4, .int p3), (5, .int p4)]) (by decide) (Nat.le_of_ble_eq_true rfl) rfl (fun E D cy C Ci0 ret => ?_)
  refine g_aload_n C dX12_forged_0 rfl 0 rfl ?_
  refine g_iconst (v := 0) C dX12_forged_1 (by decide) ?_
  refine g_putI C fi_X12_1 rfl F.1 F.2.1 dX12_forged_2 ?_
  have F := F.thrown (v := 0)
  generalize pSI P x 0 0 = P1 at F ⊢
  obtain ⟨hx, hxK, ok, inj, zp, zs, zm, zt, zo, zh⟩ := F
  refine g_iload_n C dX12_forged_5 rfl 1 rfl ?_
  refine g_callSI (b := 0) (ci := 0) (rest := []) C ms_X12_278 [.int p0] (c_X12_isQuarter) rfl rfl (by decide) (by decide) (by decide) dX12_forged_6 (fun r48 Q49 h50 => ?_)
  obtain ⟨rfl, h50⟩ := h50
  rcases h50 with ⟨rfl, h50⟩ | ⟨rfl, h50⟩
  · have h50 : 0 ≤ p0.toInt ∧ p0.toInt ≤ 3 := h50
    refine b_if_eq C 54 dX12_forged_9 (by decide) (fun h => absurd h (by decide)) (fun _ => ?_)
    refine g_aload_n C dX12_forged_12 rfl 0 rfl ?_
    refine g_iload_n C dX12_forged_13 rfl 2 rfl ?_
    refine g_callVI (rest := []) C mv_X12_192 [.int p1] (c_X12_isBook ⟨hx, hxK, ok, inj, zp, zs, zm, zt, zo, zh⟩) hx hxK rfl rfl (by decide) (by decide) (by decide) dX12_forged_14 (fun r51 Q52 h53 => ?_)
    obtain ⟨rfl, rfl⟩ := h53
    refine b_if_eq C 54 dX12_forged_17 (by decide) (fun _ => ?_) (fun h => absurd h (by decide))
    refine g_iconst (v := 0) C dX12_forged_54 (by decide) ?_
    refine g_istore (lv' := [(6, .int 0), (0, .ref x), (1, .int p0), (2, .int p1), (3, .int p2), (4, .int p3), (5, .int p4)]) C dX12_forged_55 (by decide) rfl ?_
    refine g_iload C dX12_forged_57 0 rfl ?_
    refine b_if_eq C 87 dX12_forged_59 (by decide) (fun _ => ?_) (fun h => absurd h (by decide))
    refine g_iconst (v := (-1)) C dX12_forged_87 (by decide) ?_
    exact ret _ _ _ _ _ _ dX12_forged_88 rfl (by decide) (by decide) (rfl)
  · have h50 : ¬ (0 ≤ p0.toInt ∧ p0.toInt ≤ 3) := h50
    refine b_if_eq C 54 dX12_forged_9 (by decide) (fun _ => ?_) (fun h => absurd h (by decide))
    refine g_iconst (v := 0) C dX12_forged_54 (by decide) ?_
    refine g_istore (lv' := [(6, .int 0), (0, .ref x), (1, .int p0), (2, .int p1), (3, .int p2), (4, .int p3), (5, .int p4)]) C dX12_forged_55 (by decide) rfl ?_
    refine g_iload C dX12_forged_57 0 rfl ?_
    refine b_if_eq C 87 dX12_forged_59 (by decide) (fun _ => ?_) (fun h => absurd h (by decide))
    refine g_iconst (v := (-1)) C dX12_forged_87 (by decide) ?_
    exact ret _ _ _ _ _ _ dX12_forged_88 rfl (by decide) (by decide) (rfl)
theorem dX12_peels_0 : decode cX12_peels 0 = .ok (.aload_n 0, 1) := by decide +kernel
theorem dX12_peels_1 : decode cX12_peels 1 = .ok (.iconst 0, 1) := by decide +kernel
theorem dX12_peels_2 : decode cX12_peels 2 = .ok (.putfield 1, 3) := by decide +kernel
theorem dX12_peels_5 : decode cX12_peels 5 = .ok (.aload_n 0, 1) := by decide +kernel
theorem dX12_peels_6 : decode cX12_peels 6 = .ok (.iload_n 1, 1) := by decide +kernel
theorem dX12_peels_7 : decode cX12_peels 7 = .ok (.iload_n 2, 1) := by decide +kernel
theorem dX12_peels_8 : decode cX12_peels 8 = .ok (.iload_n 3, 1) := by decide +kernel
theorem dX12_peels_9 : decode cX12_peels 9 = .ok (.invokevirtual 333, 3) := by decide +kernel
theorem dX12_peels_12 : decode cX12_peels 12 = .ok (.ifCond .eq 13, 3) := by decide +kernel
theorem dX12_peels_25 : decode cX12_peels 25 = .ok (.iconst (-1), 1) := by decide +kernel
theorem dX12_peels_26 : decode cX12_peels 26 = .ok (.ireturn, 1) := by decide +kernel
set_option maxHeartbeats 4000000 in
set_option maxRecDepth 100000 in
theorem c_X12_peels {P : PP} {x : Nat} {p0 : Int32} {p1 : Int32} {p2 : Int32} {p3 : Int32} (F : FM P x) : CtrI yX12_peels cX12_peels 8 (some Jvm.ClassFile.FieldType.int) ({ frames := 5, cells := 0, slots := 0, locals := 320 } : Room) 0 0 P [.ref x, .int p0, .int p1, .int p2, .int p3] (fun r _ => r = -1) := by
  refine enI (lv := [(0, .ref x), (1, .int p0), (2, .int p1), (3, .int p2), (4, .int p3)]) (by decide) (Nat.le_of_ble_eq_true rfl) rfl (fun E D cy C Ci0 ret => ?_)
  refine g_aload_n C dX12_peels_0 rfl 0 rfl ?_
  refine g_iconst (v := 0) C dX12_peels_1 (by decide) ?_
  refine g_putI C fi_X12_1 rfl F.1 F.2.1 dX12_peels_2 ?_
  have F := F.thrown (v := 0)
  generalize pSI P x 0 0 = P1 at F ⊢
  obtain ⟨hx, hxK, ok, inj, zp, zs, zm, zt, zo, zh⟩ := F
  refine g_aload_n C dX12_peels_5 rfl 0 rfl ?_
  refine g_iload_n C dX12_peels_6 rfl 1 rfl ?_
  refine g_iload_n C dX12_peels_7 rfl 2 rfl ?_
  refine g_iload_n C dX12_peels_8 rfl 3 rfl ?_
  refine g_callVI (rest := []) C mv_X12_333 [.int p0, .int p1, .int p2] (c_X12_isAsked ⟨hx, hxK, ok, inj, zp, zs, zm, zt, zo, zh⟩) hx hxK rfl rfl (by decide) (by decide) (by decide) dX12_peels_9 (fun r54 Q55 h56 => ?_)
  obtain ⟨rfl, rfl⟩ := h56
  refine b_if_eq C 25 dX12_peels_12 (by decide) (fun _ => ?_) (fun h => absurd h (by decide))
  refine g_iconst (v := (-1)) C dX12_peels_25 (by decide) ?_
  exact ret _ _ _ _ _ _ dX12_peels_26 rfl (by decide) (by decide) (rfl)
theorem dX12_solves_0 : decode cX12_solves 0 = .ok (.aload_n 0, 1) := by decide +kernel
theorem dX12_solves_1 : decode cX12_solves 1 = .ok (.iconst 0, 1) := by decide +kernel
theorem dX12_solves_2 : decode cX12_solves 2 = .ok (.putfield 1, 3) := by decide +kernel
theorem dX12_solves_5 : decode cX12_solves 5 = .ok (.aload_n 0, 1) := by decide +kernel
theorem dX12_solves_6 : decode cX12_solves 6 = .ok (.iload_n 1, 1) := by decide +kernel
theorem dX12_solves_7 : decode cX12_solves 7 = .ok (.iload_n 2, 1) := by decide +kernel
theorem dX12_solves_8 : decode cX12_solves 8 = .ok (.iload_n 3, 1) := by decide +kernel
theorem dX12_solves_9 : decode cX12_solves 9 = .ok (.invokevirtual 333, 3) := by decide +kernel
theorem dX12_solves_12 : decode cX12_solves 12 = .ok (.ifCond .eq 13, 3) := by decide +kernel
theorem dX12_solves_25 : decode cX12_solves 25 = .ok (.iconst (-1), 1) := by decide +kernel
theorem dX12_solves_26 : decode cX12_solves 26 = .ok (.ireturn, 1) := by decide +kernel
set_option maxHeartbeats 4000000 in
set_option maxRecDepth 100000 in
theorem c_X12_solves {P : PP} {x : Nat} {p0 : Int32} {p1 : Int32} {p2 : Int32} {p3 : Int32} (F : FM P x) : CtrI yX12_solves cX12_solves 5 (some Jvm.ClassFile.FieldType.int) ({ frames := 5, cells := 0, slots := 0, locals := 320 } : Room) 0 0 P [.ref x, .int p0, .int p1, .int p2, .int p3] (fun r _ => r = -1) := by
  refine enI (lv := [(0, .ref x), (1, .int p0), (2, .int p1), (3, .int p2), (4, .int p3)]) (by decide) (Nat.le_of_ble_eq_true rfl) rfl (fun E D cy C Ci0 ret => ?_)
  refine g_aload_n C dX12_solves_0 rfl 0 rfl ?_
  refine g_iconst (v := 0) C dX12_solves_1 (by decide) ?_
  refine g_putI C fi_X12_1 rfl F.1 F.2.1 dX12_solves_2 ?_
  have F := F.thrown (v := 0)
  generalize pSI P x 0 0 = P1 at F ⊢
  obtain ⟨hx, hxK, ok, inj, zp, zs, zm, zt, zo, zh⟩ := F
  refine g_aload_n C dX12_solves_5 rfl 0 rfl ?_
  refine g_iload_n C dX12_solves_6 rfl 1 rfl ?_
  refine g_iload_n C dX12_solves_7 rfl 2 rfl ?_
  refine g_iload_n C dX12_solves_8 rfl 3 rfl ?_
  refine g_callVI (rest := []) C mv_X12_333 [.int p0, .int p1, .int p2] (c_X12_isAsked ⟨hx, hxK, ok, inj, zp, zs, zm, zt, zo, zh⟩) hx hxK rfl rfl (by decide) (by decide) (by decide) dX12_solves_9 (fun r57 Q58 h59 => ?_)
  obtain ⟨rfl, rfl⟩ := h59
  refine b_if_eq C 25 dX12_solves_12 (by decide) (fun _ => ?_) (fun h => absurd h (by decide))
  refine g_iconst (v := (-1)) C dX12_solves_25 (by decide) ?_
  exact ret _ _ _ _ _ _ dX12_solves_26 rfl (by decide) (by decide) (rfl)
theorem dX12_read_0 : decode cX12_read 0 = .ok (.aload_n 0, 1) := by decide +kernel
theorem dX12_read_1 : decode cX12_read 1 = .ok (.iconst 0, 1) := by decide +kernel
theorem dX12_read_2 : decode cX12_read 2 = .ok (.putfield 1, 3) := by decide +kernel
theorem dX12_read_5 : decode cX12_read 5 = .ok (.iload_n 1, 1) := by decide +kernel
theorem dX12_read_6 : decode cX12_read 6 = .ok (.invokestatic 278, 3) := by decide +kernel
theorem dX12_read_9 : decode cX12_read 9 = .ok (.ifCond .eq 30, 3) := by decide +kernel
theorem dX12_read_12 : decode cX12_read 12 = .ok (.aload_n 0, 1) := by decide +kernel
theorem dX12_read_13 : decode cX12_read 13 = .ok (.iload_n 2, 1) := by decide +kernel
theorem dX12_read_14 : decode cX12_read 14 = .ok (.invokevirtual 192, 3) := by decide +kernel
theorem dX12_read_17 : decode cX12_read 17 = .ok (.ifCond .eq 22, 3) := by decide +kernel
theorem dX12_read_39 : decode cX12_read 39 = .ok (.iconst (-1), 1) := by decide +kernel
theorem dX12_read_40 : decode cX12_read 40 = .ok (.ireturn, 1) := by decide +kernel
set_option maxHeartbeats 4000000 in
set_option maxRecDepth 100000 in
theorem c_X12_read {P : PP} {x : Nat} {p0 : Int32} {p1 : Int32} {p2 : Int32} {p3 : Int32} (F : FM P x) : CtrI yX12_read cX12_read 5 (some Jvm.ClassFile.FieldType.int) ({ frames := 5, cells := 0, slots := 0, locals := 320 } : Room) 0 0 P [.ref x, .int p0, .int p1, .int p2, .int p3] (fun r _ => r = -1) := by
  refine enI (lv := [(0, .ref x), (1, .int p0), (2, .int p1), (3, .int p2), (4, .int p3)]) (by decide) (Nat.le_of_ble_eq_true rfl) rfl (fun E D cy C Ci0 ret => ?_)
  refine g_aload_n C dX12_read_0 rfl 0 rfl ?_
  refine g_iconst (v := 0) C dX12_read_1 (by decide) ?_
  refine g_putI C fi_X12_1 rfl F.1 F.2.1 dX12_read_2 ?_
  have F := F.thrown (v := 0)
  generalize pSI P x 0 0 = P1 at F ⊢
  obtain ⟨hx, hxK, ok, inj, zp, zs, zm, zt, zo, zh⟩ := F
  refine g_iload_n C dX12_read_5 rfl 1 rfl ?_
  refine g_callSI (b := 0) (ci := 0) (rest := []) C ms_X12_278 [.int p0] (c_X12_isQuarter) rfl rfl (by decide) (by decide) (by decide) dX12_read_6 (fun r60 Q61 h62 => ?_)
  obtain ⟨rfl, h62⟩ := h62
  rcases h62 with ⟨rfl, h62⟩ | ⟨rfl, h62⟩
  · have h62 : 0 ≤ p0.toInt ∧ p0.toInt ≤ 3 := h62
    refine b_if_eq C 39 dX12_read_9 (by decide) (fun h => absurd h (by decide)) (fun _ => ?_)
    refine g_aload_n C dX12_read_12 rfl 0 rfl ?_
    refine g_iload_n C dX12_read_13 rfl 2 rfl ?_
    refine g_callVI (rest := []) C mv_X12_192 [.int p1] (c_X12_isBook ⟨hx, hxK, ok, inj, zp, zs, zm, zt, zo, zh⟩) hx hxK rfl rfl (by decide) (by decide) (by decide) dX12_read_14 (fun r63 Q64 h65 => ?_)
    obtain ⟨rfl, rfl⟩ := h65
    refine b_if_eq C 39 dX12_read_17 (by decide) (fun _ => ?_) (fun h => absurd h (by decide))
    refine g_iconst (v := (-1)) C dX12_read_39 (by decide) ?_
    exact ret _ _ _ _ _ _ dX12_read_40 rfl (by decide) (by decide) (rfl)
  · have h62 : ¬ (0 ≤ p0.toInt ∧ p0.toInt ≤ 3) := h62
    refine b_if_eq C 39 dX12_read_9 (by decide) (fun _ => ?_) (fun h => absurd h (by decide))
    refine g_iconst (v := (-1)) C dX12_read_39 (by decide) ?_
    exact ret _ _ _ _ _ _ dX12_read_40 rfl (by decide) (by decide) (rfl)
theorem dX12_soon_0 : decode cX12_soon 0 = .ok (.aload_n 0, 1) := by decide +kernel
theorem dX12_soon_1 : decode cX12_soon 1 = .ok (.iconst 0, 1) := by decide +kernel
theorem dX12_soon_2 : decode cX12_soon 2 = .ok (.putfield 1, 3) := by decide +kernel
theorem dX12_soon_5 : decode cX12_soon 5 = .ok (.iload_n 1, 1) := by decide +kernel
theorem dX12_soon_6 : decode cX12_soon 6 = .ok (.invokestatic 278, 3) := by decide +kernel
theorem dX12_soon_9 : decode cX12_soon 9 = .ok (.ifCond .eq 30, 3) := by decide +kernel
theorem dX12_soon_12 : decode cX12_soon 12 = .ok (.aload_n 0, 1) := by decide +kernel
theorem dX12_soon_13 : decode cX12_soon 13 = .ok (.iload_n 2, 1) := by decide +kernel
theorem dX12_soon_14 : decode cX12_soon 14 = .ok (.invokevirtual 192, 3) := by decide +kernel
theorem dX12_soon_17 : decode cX12_soon 17 = .ok (.ifCond .eq 22, 3) := by decide +kernel
theorem dX12_soon_39 : decode cX12_soon 39 = .ok (.iconst (-1), 1) := by decide +kernel
theorem dX12_soon_40 : decode cX12_soon 40 = .ok (.ireturn, 1) := by decide +kernel
set_option maxHeartbeats 4000000 in
set_option maxRecDepth 100000 in
theorem c_X12_soon {P : PP} {x : Nat} {p0 : Int32} {p1 : Int32} {p2 : Int32} {p3 : Int32} (F : FM P x) : CtrI yX12_soon cX12_soon 6 (some Jvm.ClassFile.FieldType.int) ({ frames := 5, cells := 0, slots := 0, locals := 320 } : Room) 0 0 P [.ref x, .int p0, .int p1, .int p2, .int p3] (fun r _ => r = -1) := by
  refine enI (lv := [(0, .ref x), (1, .int p0), (2, .int p1), (3, .int p2), (4, .int p3)]) (by decide) (Nat.le_of_ble_eq_true rfl) rfl (fun E D cy C Ci0 ret => ?_)
  refine g_aload_n C dX12_soon_0 rfl 0 rfl ?_
  refine g_iconst (v := 0) C dX12_soon_1 (by decide) ?_
  refine g_putI C fi_X12_1 rfl F.1 F.2.1 dX12_soon_2 ?_
  have F := F.thrown (v := 0)
  generalize pSI P x 0 0 = P1 at F ⊢
  obtain ⟨hx, hxK, ok, inj, zp, zs, zm, zt, zo, zh⟩ := F
  refine g_iload_n C dX12_soon_5 rfl 1 rfl ?_
  refine g_callSI (b := 0) (ci := 0) (rest := []) C ms_X12_278 [.int p0] (c_X12_isQuarter) rfl rfl (by decide) (by decide) (by decide) dX12_soon_6 (fun r66 Q67 h68 => ?_)
  obtain ⟨rfl, h68⟩ := h68
  rcases h68 with ⟨rfl, h68⟩ | ⟨rfl, h68⟩
  · have h68 : 0 ≤ p0.toInt ∧ p0.toInt ≤ 3 := h68
    refine b_if_eq C 39 dX12_soon_9 (by decide) (fun h => absurd h (by decide)) (fun _ => ?_)
    refine g_aload_n C dX12_soon_12 rfl 0 rfl ?_
    refine g_iload_n C dX12_soon_13 rfl 2 rfl ?_
    refine g_callVI (rest := []) C mv_X12_192 [.int p1] (c_X12_isBook ⟨hx, hxK, ok, inj, zp, zs, zm, zt, zo, zh⟩) hx hxK rfl rfl (by decide) (by decide) (by decide) dX12_soon_14 (fun r69 Q70 h71 => ?_)
    obtain ⟨rfl, rfl⟩ := h71
    refine b_if_eq C 39 dX12_soon_17 (by decide) (fun _ => ?_) (fun h => absurd h (by decide))
    refine g_iconst (v := (-1)) C dX12_soon_39 (by decide) ?_
    exact ret _ _ _ _ _ _ dX12_soon_40 rfl (by decide) (by decide) (rfl)
  · have h68 : ¬ (0 ≤ p0.toInt ∧ p0.toInt ≤ 3) := h68
    refine b_if_eq C 39 dX12_soon_9 (by decide) (fun _ => ?_) (fun h => absurd h (by decide))
    refine g_iconst (v := (-1)) C dX12_soon_39 (by decide) ?_
    exact ret _ _ _ _ _ _ dX12_soon_40 rfl (by decide) (by decide) (rfl)
theorem dX12_slipped_0 : decode cX12_slipped 0 = .ok (.aload_n 0, 1) := by decide +kernel
theorem dX12_slipped_1 : decode cX12_slipped 1 = .ok (.iconst 0, 1) := by decide +kernel
theorem dX12_slipped_2 : decode cX12_slipped 2 = .ok (.putfield 1, 3) := by decide +kernel
theorem dX12_slipped_5 : decode cX12_slipped 5 = .ok (.aload_n 0, 1) := by decide +kernel
theorem dX12_slipped_6 : decode cX12_slipped 6 = .ok (.iload_n 1, 1) := by decide +kernel
theorem dX12_slipped_7 : decode cX12_slipped 7 = .ok (.iload_n 2, 1) := by decide +kernel
theorem dX12_slipped_8 : decode cX12_slipped 8 = .ok (.iload_n 3, 1) := by decide +kernel
theorem dX12_slipped_9 : decode cX12_slipped 9 = .ok (.invokevirtual 333, 3) := by decide +kernel
theorem dX12_slipped_12 : decode cX12_slipped 12 = .ok (.ifCond .eq 23, 3) := by decide +kernel
theorem dX12_slipped_35 : decode cX12_slipped 35 = .ok (.iconst (-1), 1) := by decide +kernel
theorem dX12_slipped_36 : decode cX12_slipped 36 = .ok (.ireturn, 1) := by decide +kernel
set_option maxHeartbeats 4000000 in
set_option maxRecDepth 100000 in
theorem c_X12_slipped {P : PP} {x : Nat} {p0 : Int32} {p1 : Int32} {p2 : Int32} {p3 : Int32} (F : FM P x) : CtrI yX12_slipped cX12_slipped 5 (some Jvm.ClassFile.FieldType.int) ({ frames := 5, cells := 0, slots := 0, locals := 320 } : Room) 0 0 P [.ref x, .int p0, .int p1, .int p2, .int p3] (fun r _ => r = -1) := by
  refine enI (lv := [(0, .ref x), (1, .int p0), (2, .int p1), (3, .int p2), (4, .int p3)]) (by decide) (Nat.le_of_ble_eq_true rfl) rfl (fun E D cy C Ci0 ret => ?_)
  refine g_aload_n C dX12_slipped_0 rfl 0 rfl ?_
  refine g_iconst (v := 0) C dX12_slipped_1 (by decide) ?_
  refine g_putI C fi_X12_1 rfl F.1 F.2.1 dX12_slipped_2 ?_
  have F := F.thrown (v := 0)
  generalize pSI P x 0 0 = P1 at F ⊢
  obtain ⟨hx, hxK, ok, inj, zp, zs, zm, zt, zo, zh⟩ := F
  refine g_aload_n C dX12_slipped_5 rfl 0 rfl ?_
  refine g_iload_n C dX12_slipped_6 rfl 1 rfl ?_
  refine g_iload_n C dX12_slipped_7 rfl 2 rfl ?_
  refine g_iload_n C dX12_slipped_8 rfl 3 rfl ?_
  refine g_callVI (rest := []) C mv_X12_333 [.int p0, .int p1, .int p2] (c_X12_isAsked ⟨hx, hxK, ok, inj, zp, zs, zm, zt, zo, zh⟩) hx hxK rfl rfl (by decide) (by decide) (by decide) dX12_slipped_9 (fun r72 Q73 h74 => ?_)
  obtain ⟨rfl, rfl⟩ := h74
  refine b_if_eq C 35 dX12_slipped_12 (by decide) (fun _ => ?_) (fun h => absurd h (by decide))
  refine g_iconst (v := (-1)) C dX12_slipped_35 (by decide) ?_
  exact ret _ _ _ _ _ _ dX12_slipped_36 rfl (by decide) (by decide) (rfl)
theorem dX12_right_0 : decode cX12_right 0 = .ok (.aload_n 0, 1) := by decide +kernel
theorem dX12_right_1 : decode cX12_right 1 = .ok (.iconst 0, 1) := by decide +kernel
theorem dX12_right_2 : decode cX12_right 2 = .ok (.putfield 1, 3) := by decide +kernel
theorem dX12_right_5 : decode cX12_right 5 = .ok (.aload_n 0, 1) := by decide +kernel
theorem dX12_right_6 : decode cX12_right 6 = .ok (.iload_n 1, 1) := by decide +kernel
theorem dX12_right_7 : decode cX12_right 7 = .ok (.iload_n 2, 1) := by decide +kernel
theorem dX12_right_8 : decode cX12_right 8 = .ok (.iload_n 3, 1) := by decide +kernel
theorem dX12_right_9 : decode cX12_right 9 = .ok (.invokevirtual 333, 3) := by decide +kernel
theorem dX12_right_12 : decode cX12_right 12 = .ok (.ifCond .eq 23, 3) := by decide +kernel
theorem dX12_right_35 : decode cX12_right 35 = .ok (.iconst (-1), 1) := by decide +kernel
theorem dX12_right_36 : decode cX12_right 36 = .ok (.ireturn, 1) := by decide +kernel
set_option maxHeartbeats 4000000 in
set_option maxRecDepth 100000 in
theorem c_X12_right {P : PP} {x : Nat} {p0 : Int32} {p1 : Int32} {p2 : Int32} {p3 : Int32} (F : FM P x) : CtrI yX12_right cX12_right 7 (some Jvm.ClassFile.FieldType.int) ({ frames := 5, cells := 0, slots := 0, locals := 320 } : Room) 0 0 P [.ref x, .int p0, .int p1, .int p2, .int p3] (fun r _ => r = -1) := by
  refine enI (lv := [(0, .ref x), (1, .int p0), (2, .int p1), (3, .int p2), (4, .int p3)]) (by decide) (Nat.le_of_ble_eq_true rfl) rfl (fun E D cy C Ci0 ret => ?_)
  refine g_aload_n C dX12_right_0 rfl 0 rfl ?_
  refine g_iconst (v := 0) C dX12_right_1 (by decide) ?_
  refine g_putI C fi_X12_1 rfl F.1 F.2.1 dX12_right_2 ?_
  have F := F.thrown (v := 0)
  generalize pSI P x 0 0 = P1 at F ⊢
  obtain ⟨hx, hxK, ok, inj, zp, zs, zm, zt, zo, zh⟩ := F
  refine g_aload_n C dX12_right_5 rfl 0 rfl ?_
  refine g_iload_n C dX12_right_6 rfl 1 rfl ?_
  refine g_iload_n C dX12_right_7 rfl 2 rfl ?_
  refine g_iload_n C dX12_right_8 rfl 3 rfl ?_
  refine g_callVI (rest := []) C mv_X12_333 [.int p0, .int p1, .int p2] (c_X12_isAsked ⟨hx, hxK, ok, inj, zp, zs, zm, zt, zo, zh⟩) hx hxK rfl rfl (by decide) (by decide) (by decide) dX12_right_9 (fun r75 Q76 h77 => ?_)
  obtain ⟨rfl, rfl⟩ := h77
  refine b_if_eq C 35 dX12_right_12 (by decide) (fun _ => ?_) (fun h => absurd h (by decide))
  refine g_iconst (v := (-1)) C dX12_right_35 (by decide) ?_
  exact ret _ _ _ _ _ _ dX12_right_36 rfl (by decide) (by decide) (rfl)
theorem dX12_doubles_0 : decode cX12_doubles 0 = .ok (.aload_n 0, 1) := by decide +kernel
theorem dX12_doubles_1 : decode cX12_doubles 1 = .ok (.iconst 0, 1) := by decide +kernel
theorem dX12_doubles_2 : decode cX12_doubles 2 = .ok (.putfield 1, 3) := by decide +kernel
theorem dX12_doubles_5 : decode cX12_doubles 5 = .ok (.aload_n 0, 1) := by decide +kernel
theorem dX12_doubles_6 : decode cX12_doubles 6 = .ok (.iload_n 1, 1) := by decide +kernel
theorem dX12_doubles_7 : decode cX12_doubles 7 = .ok (.iload_n 2, 1) := by decide +kernel
theorem dX12_doubles_8 : decode cX12_doubles 8 = .ok (.iload_n 3, 1) := by decide +kernel
theorem dX12_doubles_9 : decode cX12_doubles 9 = .ok (.invokevirtual 333, 3) := by decide +kernel
theorem dX12_doubles_12 : decode cX12_doubles 12 = .ok (.ifCond .ne 5, 3) := by decide +kernel
theorem dX12_doubles_15 : decode cX12_doubles 15 = .ok (.iconst (-1), 1) := by decide +kernel
theorem dX12_doubles_16 : decode cX12_doubles 16 = .ok (.ireturn, 1) := by decide +kernel
set_option maxHeartbeats 4000000 in
set_option maxRecDepth 100000 in
theorem c_X12_doubles {P : PP} {x : Nat} {p0 : Int32} {p1 : Int32} {p2 : Int32} (F : FM P x) : CtrI yX12_doubles cX12_doubles 8 (some Jvm.ClassFile.FieldType.int) ({ frames := 5, cells := 0, slots := 0, locals := 320 } : Room) 0 0 P [.ref x, .int p0, .int p1, .int p2] (fun r _ => r = -1) := by
  refine enI (lv := [(0, .ref x), (1, .int p0), (2, .int p1), (3, .int p2)]) (by decide) (Nat.le_of_ble_eq_true rfl) rfl (fun E D cy C Ci0 ret => ?_)
  refine g_aload_n C dX12_doubles_0 rfl 0 rfl ?_
  refine g_iconst (v := 0) C dX12_doubles_1 (by decide) ?_
  refine g_putI C fi_X12_1 rfl F.1 F.2.1 dX12_doubles_2 ?_
  have F := F.thrown (v := 0)
  generalize pSI P x 0 0 = P1 at F ⊢
  obtain ⟨hx, hxK, ok, inj, zp, zs, zm, zt, zo, zh⟩ := F
  refine g_aload_n C dX12_doubles_5 rfl 0 rfl ?_
  refine g_iload_n C dX12_doubles_6 rfl 1 rfl ?_
  refine g_iload_n C dX12_doubles_7 rfl 2 rfl ?_
  refine g_iload_n C dX12_doubles_8 rfl 3 rfl ?_
  refine g_callVI (rest := []) C mv_X12_333 [.int p0, .int p1, .int p2] (c_X12_isAsked ⟨hx, hxK, ok, inj, zp, zs, zm, zt, zo, zh⟩) hx hxK rfl rfl (by decide) (by decide) (by decide) dX12_doubles_9 (fun r78 Q79 h80 => ?_)
  obtain ⟨rfl, rfl⟩ := h80
  refine b_if_ne C 17 dX12_doubles_12 (by decide) (fun h => absurd h (by decide)) (fun _ => ?_)
  refine g_iconst (v := (-1)) C dX12_doubles_15 (by decide) ?_
  exact ret _ _ _ _ _ _ dX12_doubles_16 rfl (by decide) (by decide) (rfl)
theorem dX12_guard_0 : decode cX12_guard 0 = .ok (.aload_n 0, 1) := by decide +kernel
theorem dX12_guard_1 : decode cX12_guard 1 = .ok (.iconst 0, 1) := by decide +kernel
theorem dX12_guard_2 : decode cX12_guard 2 = .ok (.putfield 1, 3) := by decide +kernel
theorem dX12_guard_5 : decode cX12_guard 5 = .ok (.aload_n 0, 1) := by decide +kernel
theorem dX12_guard_6 : decode cX12_guard 6 = .ok (.iload_n 1, 1) := by decide +kernel
theorem dX12_guard_7 : decode cX12_guard 7 = .ok (.iload_n 2, 1) := by decide +kernel
theorem dX12_guard_8 : decode cX12_guard 8 = .ok (.iload_n 3, 1) := by decide +kernel
theorem dX12_guard_9 : decode cX12_guard 9 = .ok (.invokevirtual 333, 3) := by decide +kernel
theorem dX12_guard_12 : decode cX12_guard 12 = .ok (.ifCond .eq 13, 3) := by decide +kernel
theorem dX12_guard_25 : decode cX12_guard 25 = .ok (.iconst (-1), 1) := by decide +kernel
theorem dX12_guard_26 : decode cX12_guard 26 = .ok (.ireturn, 1) := by decide +kernel
set_option maxHeartbeats 4000000 in
set_option maxRecDepth 100000 in
theorem c_X12_guard {P : PP} {x : Nat} {p0 : Int32} {p1 : Int32} {p2 : Int32} {p3 : Int32} (F : FM P x) : CtrI yX12_guard cX12_guard 9 (some Jvm.ClassFile.FieldType.int) ({ frames := 5, cells := 0, slots := 0, locals := 320 } : Room) 0 0 P [.ref x, .int p0, .int p1, .int p2, .int p3] (fun r _ => r = -1) := by
  refine enI (lv := [(0, .ref x), (1, .int p0), (2, .int p1), (3, .int p2), (4, .int p3)]) (by decide) (Nat.le_of_ble_eq_true rfl) rfl (fun E D cy C Ci0 ret => ?_)
  refine g_aload_n C dX12_guard_0 rfl 0 rfl ?_
  refine g_iconst (v := 0) C dX12_guard_1 (by decide) ?_
  refine g_putI C fi_X12_1 rfl F.1 F.2.1 dX12_guard_2 ?_
  have F := F.thrown (v := 0)
  generalize pSI P x 0 0 = P1 at F ⊢
  obtain ⟨hx, hxK, ok, inj, zp, zs, zm, zt, zo, zh⟩ := F
  refine g_aload_n C dX12_guard_5 rfl 0 rfl ?_
  refine g_iload_n C dX12_guard_6 rfl 1 rfl ?_
  refine g_iload_n C dX12_guard_7 rfl 2 rfl ?_
  refine g_iload_n C dX12_guard_8 rfl 3 rfl ?_
  refine g_callVI (rest := []) C mv_X12_333 [.int p0, .int p1, .int p2] (c_X12_isAsked ⟨hx, hxK, ok, inj, zp, zs, zm, zt, zo, zh⟩) hx hxK rfl rfl (by decide) (by decide) (by decide) dX12_guard_9 (fun r81 Q82 h83 => ?_)
  obtain ⟨rfl, rfl⟩ := h83
  refine b_if_eq C 25 dX12_guard_12 (by decide) (fun _ => ?_) (fun h => absurd h (by decide))
  refine g_iconst (v := (-1)) C dX12_guard_25 (by decide) ?_
  exact ret _ _ _ _ _ _ dX12_guard_26 rfl (by decide) (by decide) (rfl)
theorem dX12_tocome_0 : decode cX12_tocome 0 = .ok (.aload_n 0, 1) := by decide +kernel
theorem dX12_tocome_1 : decode cX12_tocome 1 = .ok (.iconst 0, 1) := by decide +kernel
theorem dX12_tocome_2 : decode cX12_tocome 2 = .ok (.putfield 1, 3) := by decide +kernel
theorem dX12_tocome_5 : decode cX12_tocome 5 = .ok (.iload_n 1, 1) := by decide +kernel
theorem dX12_tocome_6 : decode cX12_tocome 6 = .ok (.invokestatic 278, 3) := by decide +kernel
theorem dX12_tocome_9 : decode cX12_tocome 9 = .ok (.ifCond .eq 20, 3) := by decide +kernel
theorem dX12_tocome_12 : decode cX12_tocome 12 = .ok (.aload_n 0, 1) := by decide +kernel
theorem dX12_tocome_13 : decode cX12_tocome 13 = .ok (.iload_n 2, 1) := by decide +kernel
theorem dX12_tocome_14 : decode cX12_tocome 14 = .ok (.invokevirtual 192, 3) := by decide +kernel
theorem dX12_tocome_17 : decode cX12_tocome 17 = .ok (.ifCond .eq 12, 3) := by decide +kernel
theorem dX12_tocome_29 : decode cX12_tocome 29 = .ok (.iconst (-1), 1) := by decide +kernel
theorem dX12_tocome_30 : decode cX12_tocome 30 = .ok (.ireturn, 1) := by decide +kernel
set_option maxHeartbeats 4000000 in
set_option maxRecDepth 100000 in
theorem c_X12_tocome {P : PP} {x : Nat} {p0 : Int32} {p1 : Int32} {p2 : Int32} (F : FM P x) : CtrI yX12_tocome cX12_tocome 6 (some Jvm.ClassFile.FieldType.int) ({ frames := 5, cells := 0, slots := 0, locals := 320 } : Room) 0 0 P [.ref x, .int p0, .int p1, .int p2] (fun r _ => r = -1) := by
  refine enI (lv := [(0, .ref x), (1, .int p0), (2, .int p1), (3, .int p2)]) (by decide) (Nat.le_of_ble_eq_true rfl) rfl (fun E D cy C Ci0 ret => ?_)
  refine g_aload_n C dX12_tocome_0 rfl 0 rfl ?_
  refine g_iconst (v := 0) C dX12_tocome_1 (by decide) ?_
  refine g_putI C fi_X12_1 rfl F.1 F.2.1 dX12_tocome_2 ?_
  have F := F.thrown (v := 0)
  generalize pSI P x 0 0 = P1 at F ⊢
  obtain ⟨hx, hxK, ok, inj, zp, zs, zm, zt, zo, zh⟩ := F
  refine g_iload_n C dX12_tocome_5 rfl 1 rfl ?_
  refine g_callSI (b := 0) (ci := 0) (rest := []) C ms_X12_278 [.int p0] (c_X12_isQuarter) rfl rfl (by decide) (by decide) (by decide) dX12_tocome_6 (fun r84 Q85 h86 => ?_)
  obtain ⟨rfl, h86⟩ := h86
  rcases h86 with ⟨rfl, h86⟩ | ⟨rfl, h86⟩
  · have h86 : 0 ≤ p0.toInt ∧ p0.toInt ≤ 3 := h86
    refine b_if_eq C 29 dX12_tocome_9 (by decide) (fun h => absurd h (by decide)) (fun _ => ?_)
    refine g_aload_n C dX12_tocome_12 rfl 0 rfl ?_
    refine g_iload_n C dX12_tocome_13 rfl 2 rfl ?_
    refine g_callVI (rest := []) C mv_X12_192 [.int p1] (c_X12_isBook ⟨hx, hxK, ok, inj, zp, zs, zm, zt, zo, zh⟩) hx hxK rfl rfl (by decide) (by decide) (by decide) dX12_tocome_14 (fun r87 Q88 h89 => ?_)
    obtain ⟨rfl, rfl⟩ := h89
    refine b_if_eq C 29 dX12_tocome_17 (by decide) (fun _ => ?_) (fun h => absurd h (by decide))
    refine g_iconst (v := (-1)) C dX12_tocome_29 (by decide) ?_
    exact ret _ _ _ _ _ _ dX12_tocome_30 rfl (by decide) (by decide) (rfl)
  · have h86 : ¬ (0 ≤ p0.toInt ∧ p0.toInt ≤ 3) := h86
    refine b_if_eq C 29 dX12_tocome_9 (by decide) (fun _ => ?_) (fun h => absurd h (by decide))
    refine g_iconst (v := (-1)) C dX12_tocome_29 (by decide) ?_
    exact ret _ _ _ _ _ _ dX12_tocome_30 rfl (by decide) (by decide) (rfl)
theorem dX12_chances_0 : decode cX12_chances 0 = .ok (.aload_n 0, 1) := by decide +kernel
theorem dX12_chances_1 : decode cX12_chances 1 = .ok (.iconst 0, 1) := by decide +kernel
theorem dX12_chances_2 : decode cX12_chances 2 = .ok (.putfield 1, 3) := by decide +kernel
theorem dX12_chances_5 : decode cX12_chances 5 = .ok (.aload_n 0, 1) := by decide +kernel
theorem dX12_chances_6 : decode cX12_chances 6 = .ok (.iload_n 1, 1) := by decide +kernel
theorem dX12_chances_7 : decode cX12_chances 7 = .ok (.iload_n 2, 1) := by decide +kernel
theorem dX12_chances_8 : decode cX12_chances 8 = .ok (.iload 4, 2) := by decide +kernel
theorem dX12_chances_10 : decode cX12_chances 10 = .ok (.invokevirtual 377, 3) := by decide +kernel
theorem dX12_chances_13 : decode cX12_chances 13 = .ok (.ifCond .eq 12, 3) := by decide +kernel
theorem dX12_chances_25 : decode cX12_chances 25 = .ok (.iconst (-1), 1) := by decide +kernel
theorem dX12_chances_26 : decode cX12_chances 26 = .ok (.ireturn, 1) := by decide +kernel
set_option maxHeartbeats 4000000 in
set_option maxRecDepth 100000 in
theorem c_X12_chances {P : PP} {x : Nat} {p0 : Int32} {p1 : Int32} {p2 : Int32} {p3 : Int32} (F : FM P x) : CtrI yX12_chances cX12_chances 5 (some Jvm.ClassFile.FieldType.int) ({ frames := 5, cells := 0, slots := 0, locals := 320 } : Room) 0 0 P [.ref x, .int p0, .int p1, .int p2, .int p3] (fun r _ => r = -1) := by
  refine enI (lv := [(0, .ref x), (1, .int p0), (2, .int p1), (3, .int p2), (4, .int p3)]) (by decide) (Nat.le_of_ble_eq_true rfl) rfl (fun E D cy C Ci0 ret => ?_)
  refine g_aload_n C dX12_chances_0 rfl 0 rfl ?_
  refine g_iconst (v := 0) C dX12_chances_1 (by decide) ?_
  refine g_putI C fi_X12_1 rfl F.1 F.2.1 dX12_chances_2 ?_
  have F := F.thrown (v := 0)
  generalize pSI P x 0 0 = P1 at F ⊢
  obtain ⟨hx, hxK, ok, inj, zp, zs, zm, zt, zo, zh⟩ := F
  refine g_aload_n C dX12_chances_5 rfl 0 rfl ?_
  refine g_iload_n C dX12_chances_6 rfl 1 rfl ?_
  refine g_iload_n C dX12_chances_7 rfl 2 rfl ?_
  refine g_iload C dX12_chances_8 4 rfl ?_
  refine g_callVI (rest := []) C mv_X12_377 [.int p0, .int p1, .int p3] (c_X12_areChances ⟨hx, hxK, ok, inj, zp, zs, zm, zt, zo, zh⟩) hx hxK rfl rfl (by decide) (by decide) (by decide) dX12_chances_10 (fun r90 Q91 h92 => ?_)
  obtain ⟨rfl, rfl⟩ := h92
  refine b_if_eq C 25 dX12_chances_13 (by decide) (fun _ => ?_) (fun h => absurd h (by decide))
  refine g_iconst (v := (-1)) C dX12_chances_25 (by decide) ?_
  exact ret _ _ _ _ _ _ dX12_chances_26 rfl (by decide) (by decide) (rfl)
theorem dX12_enough_0 : decode cX12_enough 0 = .ok (.aload_n 0, 1) := by decide +kernel
theorem dX12_enough_1 : decode cX12_enough 1 = .ok (.iconst 0, 1) := by decide +kernel
theorem dX12_enough_2 : decode cX12_enough 2 = .ok (.putfield 1, 3) := by decide +kernel
theorem dX12_enough_5 : decode cX12_enough 5 = .ok (.aload_n 0, 1) := by decide +kernel
theorem dX12_enough_6 : decode cX12_enough 6 = .ok (.iload_n 1, 1) := by decide +kernel
theorem dX12_enough_7 : decode cX12_enough 7 = .ok (.iload_n 2, 1) := by decide +kernel
theorem dX12_enough_8 : decode cX12_enough 8 = .ok (.iload_n 3, 1) := by decide +kernel
theorem dX12_enough_9 : decode cX12_enough 9 = .ok (.invokevirtual 377, 3) := by decide +kernel
theorem dX12_enough_12 : decode cX12_enough 12 = .ok (.ifCond .ne 5, 3) := by decide +kernel
theorem dX12_enough_15 : decode cX12_enough 15 = .ok (.iconst (-1), 1) := by decide +kernel
theorem dX12_enough_16 : decode cX12_enough 16 = .ok (.ireturn, 1) := by decide +kernel
set_option maxHeartbeats 4000000 in
set_option maxRecDepth 100000 in
theorem c_X12_enough {P : PP} {x : Nat} {p0 : Int32} {p1 : Int32} {p2 : Int32} {p3 : Int32} (F : FM P x) : CtrI yX12_enough cX12_enough 7 (some Jvm.ClassFile.FieldType.int) ({ frames := 5, cells := 0, slots := 0, locals := 320 } : Room) 0 0 P [.ref x, .int p0, .int p1, .int p2, .int p3] (fun r _ => r = -1) := by
  refine enI (lv := [(0, .ref x), (1, .int p0), (2, .int p1), (3, .int p2), (4, .int p3)]) (by decide) (Nat.le_of_ble_eq_true rfl) rfl (fun E D cy C Ci0 ret => ?_)
  refine g_aload_n C dX12_enough_0 rfl 0 rfl ?_
  refine g_iconst (v := 0) C dX12_enough_1 (by decide) ?_
  refine g_putI C fi_X12_1 rfl F.1 F.2.1 dX12_enough_2 ?_
  have F := F.thrown (v := 0)
  generalize pSI P x 0 0 = P1 at F ⊢
  obtain ⟨hx, hxK, ok, inj, zp, zs, zm, zt, zo, zh⟩ := F
  refine g_aload_n C dX12_enough_5 rfl 0 rfl ?_
  refine g_iload_n C dX12_enough_6 rfl 1 rfl ?_
  refine g_iload_n C dX12_enough_7 rfl 2 rfl ?_
  refine g_iload_n C dX12_enough_8 rfl 3 rfl ?_
  refine g_callVI (rest := []) C mv_X12_377 [.int p0, .int p1, .int p2] (c_X12_areChances ⟨hx, hxK, ok, inj, zp, zs, zm, zt, zo, zh⟩) hx hxK rfl rfl (by decide) (by decide) (by decide) dX12_enough_9 (fun r93 Q94 h95 => ?_)
  obtain ⟨rfl, rfl⟩ := h95
  refine b_if_ne C 17 dX12_enough_12 (by decide) (fun h => absurd h (by decide)) (fun _ => ?_)
  refine g_iconst (v := (-1)) C dX12_enough_15 (by decide) ?_
  exact ret _ _ _ _ _ _ dX12_enough_16 rfl (by decide) (by decide) (rfl)
theorem dX12_degree_0 : decode cX12_degree 0 = .ok (.aload_n 0, 1) := by decide +kernel
theorem dX12_degree_1 : decode cX12_degree 1 = .ok (.iconst 0, 1) := by decide +kernel
theorem dX12_degree_2 : decode cX12_degree 2 = .ok (.putfield 1, 3) := by decide +kernel
theorem dX12_degree_5 : decode cX12_degree 5 = .ok (.aload_n 0, 1) := by decide +kernel
theorem dX12_degree_6 : decode cX12_degree 6 = .ok (.iload_n 1, 1) := by decide +kernel
theorem dX12_degree_7 : decode cX12_degree 7 = .ok (.iload_n 2, 1) := by decide +kernel
theorem dX12_degree_8 : decode cX12_degree 8 = .ok (.iload 4, 2) := by decide +kernel
theorem dX12_degree_10 : decode cX12_degree 10 = .ok (.invokevirtual 377, 3) := by decide +kernel
theorem dX12_degree_13 : decode cX12_degree 13 = .ok (.ifCond .eq 12, 3) := by decide +kernel
theorem dX12_degree_25 : decode cX12_degree 25 = .ok (.iconst (-1), 1) := by decide +kernel
theorem dX12_degree_26 : decode cX12_degree 26 = .ok (.ireturn, 1) := by decide +kernel
set_option maxHeartbeats 4000000 in
set_option maxRecDepth 100000 in
theorem c_X12_degree {P : PP} {x : Nat} {p0 : Int32} {p1 : Int32} {p2 : Int32} {p3 : Int32} (F : FM P x) : CtrI yX12_degree cX12_degree 9 (some Jvm.ClassFile.FieldType.int) ({ frames := 5, cells := 0, slots := 0, locals := 320 } : Room) 0 0 P [.ref x, .int p0, .int p1, .int p2, .int p3] (fun r _ => r = -1) := by
  refine enI (lv := [(0, .ref x), (1, .int p0), (2, .int p1), (3, .int p2), (4, .int p3)]) (by decide) (Nat.le_of_ble_eq_true rfl) rfl (fun E D cy C Ci0 ret => ?_)
  refine g_aload_n C dX12_degree_0 rfl 0 rfl ?_
  refine g_iconst (v := 0) C dX12_degree_1 (by decide) ?_
  refine g_putI C fi_X12_1 rfl F.1 F.2.1 dX12_degree_2 ?_
  have F := F.thrown (v := 0)
  generalize pSI P x 0 0 = P1 at F ⊢
  obtain ⟨hx, hxK, ok, inj, zp, zs, zm, zt, zo, zh⟩ := F
  refine g_aload_n C dX12_degree_5 rfl 0 rfl ?_
  refine g_iload_n C dX12_degree_6 rfl 1 rfl ?_
  refine g_iload_n C dX12_degree_7 rfl 2 rfl ?_
  refine g_iload C dX12_degree_8 4 rfl ?_
  refine g_callVI (rest := []) C mv_X12_377 [.int p0, .int p1, .int p3] (c_X12_areChances ⟨hx, hxK, ok, inj, zp, zs, zm, zt, zo, zh⟩) hx hxK rfl rfl (by decide) (by decide) (by decide) dX12_degree_10 (fun r96 Q97 h98 => ?_)
  obtain ⟨rfl, rfl⟩ := h98
  refine b_if_eq C 25 dX12_degree_13 (by decide) (fun _ => ?_) (fun h => absurd h (by decide))
  refine g_iconst (v := (-1)) C dX12_degree_25 (by decide) ?_
  exact ret _ _ _ _ _ _ dX12_degree_26 rfl (by decide) (by decide) (rfl)
theorem dX12_apart_0 : decode cX12_apart 0 = .ok (.aload_n 0, 1) := by decide +kernel
theorem dX12_apart_1 : decode cX12_apart 1 = .ok (.iconst 0, 1) := by decide +kernel
theorem dX12_apart_2 : decode cX12_apart 2 = .ok (.putfield 1, 3) := by decide +kernel
theorem dX12_apart_5 : decode cX12_apart 5 = .ok (.aload_n 0, 1) := by decide +kernel
theorem dX12_apart_6 : decode cX12_apart 6 = .ok (.iload_n 1, 1) := by decide +kernel
theorem dX12_apart_7 : decode cX12_apart 7 = .ok (.iload_n 2, 1) := by decide +kernel
theorem dX12_apart_8 : decode cX12_apart 8 = .ok (.invokevirtual 298, 3) := by decide +kernel
theorem dX12_apart_11 : decode cX12_apart 11 = .ok (.ifCond .eq 33, 3) := by decide +kernel
theorem dX12_apart_44 : decode cX12_apart 44 = .ok (.iconst (-1), 1) := by decide +kernel
theorem dX12_apart_45 : decode cX12_apart 45 = .ok (.ireturn, 1) := by decide +kernel
set_option maxHeartbeats 4000000 in
set_option maxRecDepth 100000 in
theorem c_X12_apart {P : PP} {x : Nat} {p0 : Int32} {p1 : Int32} (F : FM P x) : CtrI yX12_apart cX12_apart 7 (some Jvm.ClassFile.FieldType.int) ({ frames := 5, cells := 0, slots := 0, locals := 320 } : Room) 0 0 P [.ref x, .int p0, .int p1] (fun r _ => r = -1) := by
  refine enI (lv := [(0, .ref x), (1, .int p0), (2, .int p1)]) (by decide) (Nat.le_of_ble_eq_true rfl) rfl (fun E D cy C Ci0 ret => ?_)
  refine g_aload_n C dX12_apart_0 rfl 0 rfl ?_
  refine g_iconst (v := 0) C dX12_apart_1 (by decide) ?_
  refine g_putI C fi_X12_1 rfl F.1 F.2.1 dX12_apart_2 ?_
  have F := F.thrown (v := 0)
  generalize pSI P x 0 0 = P1 at F ⊢
  obtain ⟨hx, hxK, ok, inj, zp, zs, zm, zt, zo, zh⟩ := F
  refine g_aload_n C dX12_apart_5 rfl 0 rfl ?_
  refine g_iload_n C dX12_apart_6 rfl 1 rfl ?_
  refine g_iload_n C dX12_apart_7 rfl 2 rfl ?_
  refine g_callVI (rest := []) C mv_X12_298 [.int p0, .int p1] (c_X12_isPaper ⟨hx, hxK, ok, inj, zp, zs, zm, zt, zo, zh⟩) hx hxK rfl rfl (by decide) (by decide) (by decide) dX12_apart_8 (fun r99 Q100 h101 => ?_)
  obtain ⟨rfl, rfl⟩ := h101
  refine b_if_eq C 44 dX12_apart_11 (by decide) (fun _ => ?_) (fun h => absurd h (by decide))
  refine g_iconst (v := (-1)) C dX12_apart_44 (by decide) ?_
  exact ret _ _ _ _ _ _ dX12_apart_45 rfl (by decide) (by decide) (rfl)
theorem dX12_scatter_0 : decode cX12_scatter 0 = .ok (.aload_n 0, 1) := by decide +kernel
theorem dX12_scatter_1 : decode cX12_scatter 1 = .ok (.iconst 0, 1) := by decide +kernel
theorem dX12_scatter_2 : decode cX12_scatter 2 = .ok (.putfield 1, 3) := by decide +kernel
theorem dX12_scatter_5 : decode cX12_scatter 5 = .ok (.aload_n 0, 1) := by decide +kernel
theorem dX12_scatter_6 : decode cX12_scatter 6 = .ok (.iload_n 1, 1) := by decide +kernel
theorem dX12_scatter_7 : decode cX12_scatter 7 = .ok (.invokevirtual 192, 3) := by decide +kernel
theorem dX12_scatter_10 : decode cX12_scatter 10 = .ok (.ifCond .eq 30, 3) := by decide +kernel
theorem dX12_scatter_40 : decode cX12_scatter 40 = .ok (.iconst (-1), 1) := by decide +kernel
theorem dX12_scatter_41 : decode cX12_scatter 41 = .ok (.ireturn, 1) := by decide +kernel
set_option maxHeartbeats 4000000 in
set_option maxRecDepth 100000 in
theorem c_X12_scatter {P : PP} {x : Nat} {p0 : Int32} {p1 : Int32} {p2 : Int32} (F : FM P x) : CtrI yX12_scatter cX12_scatter 9 (some Jvm.ClassFile.FieldType.int) ({ frames := 5, cells := 0, slots := 0, locals := 320 } : Room) 0 0 P [.ref x, .int p0, .int p1, .int p2] (fun r _ => r = -1) := by
  refine enI (lv := [(0, .ref x), (1, .int p0), (2, .int p1), (3, .int p2)]) (by decide) (Nat.le_of_ble_eq_true rfl) rfl (fun E D cy C Ci0 ret => ?_)
  refine g_aload_n C dX12_scatter_0 rfl 0 rfl ?_
  refine g_iconst (v := 0) C dX12_scatter_1 (by decide) ?_
  refine g_putI C fi_X12_1 rfl F.1 F.2.1 dX12_scatter_2 ?_
  have F := F.thrown (v := 0)
  generalize pSI P x 0 0 = P1 at F ⊢
  obtain ⟨hx, hxK, ok, inj, zp, zs, zm, zt, zo, zh⟩ := F
  refine g_aload_n C dX12_scatter_5 rfl 0 rfl ?_
  refine g_iload_n C dX12_scatter_6 rfl 1 rfl ?_
  refine g_callVI (rest := []) C mv_X12_192 [.int p0] (c_X12_isBook ⟨hx, hxK, ok, inj, zp, zs, zm, zt, zo, zh⟩) hx hxK rfl rfl (by decide) (by decide) (by decide) dX12_scatter_7 (fun r102 Q103 h104 => ?_)
  obtain ⟨rfl, rfl⟩ := h104
  refine b_if_eq C 40 dX12_scatter_10 (by decide) (fun _ => ?_) (fun h => absurd h (by decide))
  refine g_iconst (v := (-1)) C dX12_scatter_40 (by decide) ?_
  exact ret _ _ _ _ _ _ dX12_scatter_41 rfl (by decide) (by decide) (rfl)
theorem dX12_needs_0 : decode cX12_needs 0 = .ok (.aload_n 0, 1) := by decide +kernel
theorem dX12_needs_1 : decode cX12_needs 1 = .ok (.iconst 0, 1) := by decide +kernel
theorem dX12_needs_2 : decode cX12_needs 2 = .ok (.putfield 1, 3) := by decide +kernel
theorem dX12_needs_5 : decode cX12_needs 5 = .ok (.iload_n 1, 1) := by decide +kernel
theorem dX12_needs_6 : decode cX12_needs 6 = .ok (.invokestatic 278, 3) := by decide +kernel
theorem dX12_needs_9 : decode cX12_needs 9 = .ok (.ifCond .eq 11, 3) := by decide +kernel
theorem dX12_needs_12 : decode cX12_needs 12 = .ok (.aload_n 0, 1) := by decide +kernel
theorem dX12_needs_13 : decode cX12_needs 13 = .ok (.iload_n 2, 1) := by decide +kernel
theorem dX12_needs_14 : decode cX12_needs 14 = .ok (.invokevirtual 192, 3) := by decide +kernel
theorem dX12_needs_17 : decode cX12_needs 17 = .ok (.ifCond .ne 5, 3) := by decide +kernel
theorem dX12_needs_20 : decode cX12_needs 20 = .ok (.iconst (-1), 1) := by decide +kernel
theorem dX12_needs_21 : decode cX12_needs 21 = .ok (.ireturn, 1) := by decide +kernel
set_option maxHeartbeats 4000000 in
set_option maxRecDepth 100000 in
theorem c_X12_needs {P : PP} {x : Nat} {p0 : Int32} {p1 : Int32} (F : FM P x) : CtrI yX12_needs cX12_needs 4 (some Jvm.ClassFile.FieldType.int) ({ frames := 5, cells := 0, slots := 0, locals := 320 } : Room) 0 0 P [.ref x, .int p0, .int p1] (fun r _ => r = -1) := by
  refine enI (lv := [(0, .ref x), (1, .int p0), (2, .int p1)]) (by decide) (Nat.le_of_ble_eq_true rfl) rfl (fun E D cy C Ci0 ret => ?_)
  refine g_aload_n C dX12_needs_0 rfl 0 rfl ?_
  refine g_iconst (v := 0) C dX12_needs_1 (by decide) ?_
  refine g_putI C fi_X12_1 rfl F.1 F.2.1 dX12_needs_2 ?_
  have F := F.thrown (v := 0)
  generalize pSI P x 0 0 = P1 at F ⊢
  obtain ⟨hx, hxK, ok, inj, zp, zs, zm, zt, zo, zh⟩ := F
  refine g_iload_n C dX12_needs_5 rfl 1 rfl ?_
  refine g_callSI (b := 0) (ci := 0) (rest := []) C ms_X12_278 [.int p0] (c_X12_isQuarter) rfl rfl (by decide) (by decide) (by decide) dX12_needs_6 (fun r105 Q106 h107 => ?_)
  obtain ⟨rfl, h107⟩ := h107
  rcases h107 with ⟨rfl, h107⟩ | ⟨rfl, h107⟩
  · have h107 : 0 ≤ p0.toInt ∧ p0.toInt ≤ 3 := h107
    refine b_if_eq C 20 dX12_needs_9 (by decide) (fun h => absurd h (by decide)) (fun _ => ?_)
    refine g_aload_n C dX12_needs_12 rfl 0 rfl ?_
    refine g_iload_n C dX12_needs_13 rfl 2 rfl ?_
    refine g_callVI (rest := []) C mv_X12_192 [.int p1] (c_X12_isBook ⟨hx, hxK, ok, inj, zp, zs, zm, zt, zo, zh⟩) hx hxK rfl rfl (by decide) (by decide) (by decide) dX12_needs_14 (fun r108 Q109 h110 => ?_)
    obtain ⟨rfl, rfl⟩ := h110
    refine b_if_ne C 22 dX12_needs_17 (by decide) (fun h => absurd h (by decide)) (fun _ => ?_)
    refine g_iconst (v := (-1)) C dX12_needs_20 (by decide) ?_
    exact ret _ _ _ _ _ _ dX12_needs_21 rfl (by decide) (by decide) (rfl)
  · have h107 : ¬ (0 ≤ p0.toInt ∧ p0.toInt ≤ 3) := h107
    refine b_if_eq C 20 dX12_needs_9 (by decide) (fun _ => ?_) (fun h => absurd h (by decide))
    refine g_iconst (v := (-1)) C dX12_needs_20 (by decide) ?_
    exact ret _ _ _ _ _ _ dX12_needs_21 rfl (by decide) (by decide) (rfl)
theorem dX12_town_0 : decode cX12_town 0 = .ok (.aload_n 0, 1) := by decide +kernel
theorem dX12_town_1 : decode cX12_town 1 = .ok (.iconst 0, 1) := by decide +kernel
theorem dX12_town_2 : decode cX12_town 2 = .ok (.putfield 1, 3) := by decide +kernel
theorem dX12_town_5 : decode cX12_town 5 = .ok (.aload_n 0, 1) := by decide +kernel
theorem dX12_town_6 : decode cX12_town 6 = .ok (.iload_n 1, 1) := by decide +kernel
theorem dX12_town_7 : decode cX12_town 7 = .ok (.invokevirtual 192, 3) := by decide +kernel
theorem dX12_town_10 : decode cX12_town 10 = .ok (.ifCond .eq 13, 3) := by decide +kernel
theorem dX12_town_23 : decode cX12_town 23 = .ok (.iconst (-1), 1) := by decide +kernel
theorem dX12_town_24 : decode cX12_town 24 = .ok (.ireturn, 1) := by decide +kernel
set_option maxHeartbeats 4000000 in
set_option maxRecDepth 100000 in
theorem c_X12_town {P : PP} {x : Nat} {p0 : Int32} {p1 : Int32} (F : FM P x) : CtrI yX12_town cX12_town 6 (some Jvm.ClassFile.FieldType.int) ({ frames := 5, cells := 0, slots := 0, locals := 320 } : Room) 0 0 P [.ref x, .int p0, .int p1] (fun r _ => r = -1) := by
  refine enI (lv := [(0, .ref x), (1, .int p0), (2, .int p1)]) (by decide) (Nat.le_of_ble_eq_true rfl) rfl (fun E D cy C Ci0 ret => ?_)
  refine g_aload_n C dX12_town_0 rfl 0 rfl ?_
  refine g_iconst (v := 0) C dX12_town_1 (by decide) ?_
  refine g_putI C fi_X12_1 rfl F.1 F.2.1 dX12_town_2 ?_
  have F := F.thrown (v := 0)
  generalize pSI P x 0 0 = P1 at F ⊢
  obtain ⟨hx, hxK, ok, inj, zp, zs, zm, zt, zo, zh⟩ := F
  refine g_aload_n C dX12_town_5 rfl 0 rfl ?_
  refine g_iload_n C dX12_town_6 rfl 1 rfl ?_
  refine g_callVI (rest := []) C mv_X12_192 [.int p0] (c_X12_isBook ⟨hx, hxK, ok, inj, zp, zs, zm, zt, zo, zh⟩) hx hxK rfl rfl (by decide) (by decide) (by decide) dX12_town_7 (fun r111 Q112 h113 => ?_)
  obtain ⟨rfl, rfl⟩ := h113
  refine b_if_eq C 23 dX12_town_10 (by decide) (fun _ => ?_) (fun h => absurd h (by decide))
  refine g_iconst (v := (-1)) C dX12_town_23 (by decide) ?_
  exact ret _ _ _ _ _ _ dX12_town_24 rfl (by decide) (by decide) (rfl)
theorem dX12_draw_0 : decode cX12_draw 0 = .ok (.aload_n 0, 1) := by decide +kernel
theorem dX12_draw_1 : decode cX12_draw 1 = .ok (.iconst 0, 1) := by decide +kernel
theorem dX12_draw_2 : decode cX12_draw 2 = .ok (.putfield 1, 3) := by decide +kernel
theorem dX12_draw_5 : decode cX12_draw 5 = .ok (.aload_n 0, 1) := by decide +kernel
theorem dX12_draw_6 : decode cX12_draw 6 = .ok (.iload_n 1, 1) := by decide +kernel
theorem dX12_draw_7 : decode cX12_draw 7 = .ok (.invokevirtual 192, 3) := by decide +kernel
theorem dX12_draw_10 : decode cX12_draw 10 = .ok (.ifCond .eq 11, 3) := by decide +kernel
theorem dX12_draw_21 : decode cX12_draw 21 = .ok (.aload_n 0, 1) := by decide +kernel
theorem dX12_draw_22 : decode cX12_draw 22 = .ok (.iconst 0, 1) := by decide +kernel
theorem dX12_draw_23 : decode cX12_draw 23 = .ok (.putfield 11, 3) := by decide +kernel
theorem dX12_draw_26 : decode cX12_draw 26 = .ok (.iconst (-1), 1) := by decide +kernel
theorem dX12_draw_27 : decode cX12_draw 27 = .ok (.ireturn, 1) := by decide +kernel
set_option maxHeartbeats 4000000 in
set_option maxRecDepth 100000 in
theorem c_X12_draw {P : PP} {x : Nat} {p0 : Int32} (F : FM P x) : CtrI yX12_draw cX12_draw 3 (some Jvm.ClassFile.FieldType.int) ({ frames := 5, cells := 0, slots := 0, locals := 320 } : Room) 0 0 P [.ref x, .int p0] (fun r _ => r = -1) := by
  refine enI (lv := [(0, .ref x), (1, .int p0)]) (by decide) (Nat.le_of_ble_eq_true rfl) rfl (fun E D cy C Ci0 ret => ?_)
  refine g_aload_n C dX12_draw_0 rfl 0 rfl ?_
  refine g_iconst (v := 0) C dX12_draw_1 (by decide) ?_
  refine g_putI C fi_X12_1 rfl F.1 F.2.1 dX12_draw_2 ?_
  have F := F.thrown (v := 0)
  generalize pSI P x 0 0 = P1 at F ⊢
  obtain ⟨hx, hxK, ok, inj, zp, zs, zm, zt, zo, zh⟩ := F
  refine g_aload_n C dX12_draw_5 rfl 0 rfl ?_
  refine g_iload_n C dX12_draw_6 rfl 1 rfl ?_
  refine g_callVI (rest := []) C mv_X12_192 [.int p0] (c_X12_isBook ⟨hx, hxK, ok, inj, zp, zs, zm, zt, zo, zh⟩) hx hxK rfl rfl (by decide) (by decide) (by decide) dX12_draw_7 (fun r114 Q115 h116 => ?_)
  obtain ⟨rfl, rfl⟩ := h116
  refine b_if_eq C 21 dX12_draw_10 (by decide) (fun _ => ?_) (fun h => absurd h (by decide))
  refine g_aload_n C dX12_draw_21 rfl 0 rfl ?_
  refine g_iconst (v := 0) C dX12_draw_22 (by decide) ?_
  refine g_putI C fi_X12_11 rfl hx hxK dX12_draw_23 ?_
  refine g_iconst (v := (-1)) C dX12_draw_26 (by decide) ?_
  exact ret _ _ _ _ _ _ dX12_draw_27 rfl (by decide) (by decide) (rfl)
theorem dX12_average_0 : decode cX12_average 0 = .ok (.aload_n 0, 1) := by decide +kernel
theorem dX12_average_1 : decode cX12_average 1 = .ok (.iconst 0, 1) := by decide +kernel
theorem dX12_average_2 : decode cX12_average 2 = .ok (.putfield 1, 3) := by decide +kernel
theorem dX12_average_5 : decode cX12_average 5 = .ok (.aload_n 0, 1) := by decide +kernel
theorem dX12_average_6 : decode cX12_average 6 = .ok (.iload_n 1, 1) := by decide +kernel
theorem dX12_average_7 : decode cX12_average 7 = .ok (.iload_n 2, 1) := by decide +kernel
theorem dX12_average_8 : decode cX12_average 8 = .ok (.iload_n 3, 1) := by decide +kernel
theorem dX12_average_9 : decode cX12_average 9 = .ok (.invokevirtual 377, 3) := by decide +kernel
theorem dX12_average_12 : decode cX12_average 12 = .ok (.ifCond .eq 13, 3) := by decide +kernel
theorem dX12_average_25 : decode cX12_average 25 = .ok (.ldc2_w 390, 3) := by decide +kernel
theorem dX12_average_28 : decode cX12_average 28 = .ok (.lreturn, 1) := by decide +kernel
set_option maxHeartbeats 4000000 in
set_option maxRecDepth 100000 in
theorem c_X12_average {P : PP} {x : Nat} {p0 : Int32} {p1 : Int32} {p2 : Int32} {p3 : Int32} (F : FM P x) : CtrL yX12_average cX12_average 16 (some Jvm.ClassFile.FieldType.long) ({ frames := 5, cells := 0, slots := 0, locals := 320 } : Room) 0 0 P [.ref x, .int p0, .int p1, .int p2, .int p3] (fun r _ => r = -1) := by
  refine enL (lv := [(0, .ref x), (1, .int p0), (2, .int p1), (3, .int p2), (4, .int p3)]) (by decide) (Nat.le_of_ble_eq_true rfl) rfl (fun E D cy C Ci0 ret => ?_)
  refine g_aload_n C dX12_average_0 rfl 0 rfl ?_
  refine g_iconst (v := 0) C dX12_average_1 (by decide) ?_
  refine g_putI C fi_X12_1 rfl F.1 F.2.1 dX12_average_2 ?_
  have F := F.thrown (v := 0)
  generalize pSI P x 0 0 = P1 at F ⊢
  obtain ⟨hx, hxK, ok, inj, zp, zs, zm, zt, zo, zh⟩ := F
  refine g_aload_n C dX12_average_5 rfl 0 rfl ?_
  refine g_iload_n C dX12_average_6 rfl 1 rfl ?_
  refine g_iload_n C dX12_average_7 rfl 2 rfl ?_
  refine g_iload_n C dX12_average_8 rfl 3 rfl ?_
  refine g_callVI (rest := []) C mv_X12_377 [.int p0, .int p1, .int p2] (c_X12_areChances ⟨hx, hxK, ok, inj, zp, zs, zm, zt, zo, zh⟩) hx hxK rfl rfl (by decide) (by decide) (by decide) dX12_average_9 (fun r117 Q118 h119 => ?_)
  obtain ⟨rfl, rfl⟩ := h119
  refine b_if_eq C 25 dX12_average_12 (by decide) (fun _ => ?_) (fun h => absurd h (by decide))
  refine g_ldc2 (v := -1) C kl_X12_390 dX12_average_25 ?_
  exact ret _ _ _ _ _ _ dX12_average_28 (by decide) (by decide) (rfl)
theorem dX12_page_0 : decode cX12_page 0 = .ok (.aload_n 0, 1) := by decide +kernel
theorem dX12_page_1 : decode cX12_page 1 = .ok (.iconst 0, 1) := by decide +kernel
theorem dX12_page_2 : decode cX12_page 2 = .ok (.putfield 1, 3) := by decide +kernel
theorem dX12_page_5 : decode cX12_page 5 = .ok (.aload_n 0, 1) := by decide +kernel
theorem dX12_page_6 : decode cX12_page 6 = .ok (.iload_n 1, 1) := by decide +kernel
theorem dX12_page_7 : decode cX12_page 7 = .ok (.invokevirtual 192, 3) := by decide +kernel
theorem dX12_page_10 : decode cX12_page 10 = .ok (.ifCond .eq 37, 3) := by decide +kernel
theorem dX12_page_47 : decode cX12_page 47 = .ok (.iconst 0, 1) := by decide +kernel
theorem dX12_page_48 : decode cX12_page 48 = .ok (.ireturn, 1) := by decide +kernel
set_option maxHeartbeats 4000000 in
set_option maxRecDepth 100000 in
theorem c_X12_page {P : PP} {x : Nat} {p0 : Int32} {p1 : Int32} {p2 : Int32} (F : FM P x) : CtrI yX12_page cX12_page 4 (some Jvm.ClassFile.FieldType.boolean) ({ frames := 5, cells := 0, slots := 0, locals := 320 } : Room) 0 0 P [.ref x, .int p0, .int p1, .int p2] (fun r _ => r = 0) := by
  refine enI (lv := [(0, .ref x), (1, .int p0), (2, .int p1), (3, .int p2)]) (by decide) (Nat.le_of_ble_eq_true rfl) rfl (fun E D cy C Ci0 ret => ?_)
  refine g_aload_n C dX12_page_0 rfl 0 rfl ?_
  refine g_iconst (v := 0) C dX12_page_1 (by decide) ?_
  refine g_putI C fi_X12_1 rfl F.1 F.2.1 dX12_page_2 ?_
  have F := F.thrown (v := 0)
  generalize pSI P x 0 0 = P1 at F ⊢
  obtain ⟨hx, hxK, ok, inj, zp, zs, zm, zt, zo, zh⟩ := F
  refine g_aload_n C dX12_page_5 rfl 0 rfl ?_
  refine g_iload_n C dX12_page_6 rfl 1 rfl ?_
  refine g_callVI (rest := []) C mv_X12_192 [.int p0] (c_X12_isBook ⟨hx, hxK, ok, inj, zp, zs, zm, zt, zo, zh⟩) hx hxK rfl rfl (by decide) (by decide) (by decide) dX12_page_7 (fun r120 Q121 h122 => ?_)
  obtain ⟨rfl, rfl⟩ := h122
  refine b_if_eq C 47 dX12_page_10 (by decide) (fun _ => ?_) (fun h => absurd h (by decide))
  refine g_iconst (v := 0) C dX12_page_47 (by decide) ?_
  exact ret _ _ _ _ _ _ dX12_page_48 rfl (by decide) (by decide) (rfl)
theorem dX12_away_0 : decode cX12_away 0 = .ok (.aload_n 0, 1) := by decide +kernel
theorem dX12_away_1 : decode cX12_away 1 = .ok (.iconst 0, 1) := by decide +kernel
theorem dX12_away_2 : decode cX12_away 2 = .ok (.putfield 1, 3) := by decide +kernel
theorem dX12_away_5 : decode cX12_away 5 = .ok (.aload_n 0, 1) := by decide +kernel
theorem dX12_away_6 : decode cX12_away 6 = .ok (.iload_n 1, 1) := by decide +kernel
theorem dX12_away_7 : decode cX12_away 7 = .ok (.iload_n 2, 1) := by decide +kernel
theorem dX12_away_8 : decode cX12_away 8 = .ok (.invokevirtual 298, 3) := by decide +kernel
theorem dX12_away_11 : decode cX12_away 11 = .ok (.ifCond .ne 5, 3) := by decide +kernel
theorem dX12_away_14 : decode cX12_away 14 = .ok (.iconst 0, 1) := by decide +kernel
theorem dX12_away_15 : decode cX12_away 15 = .ok (.ireturn, 1) := by decide +kernel
set_option maxHeartbeats 4000000 in
set_option maxRecDepth 100000 in
theorem c_X12_away {P : PP} {x : Nat} {p0 : Int32} {p1 : Int32} (F : FM P x) : CtrI yX12_away cX12_away 3 (some Jvm.ClassFile.FieldType.boolean) ({ frames := 5, cells := 0, slots := 0, locals := 320 } : Room) 0 0 P [.ref x, .int p0, .int p1] (fun r _ => r = 0) := by
  refine enI (lv := [(0, .ref x), (1, .int p0), (2, .int p1)]) (by decide) (Nat.le_of_ble_eq_true rfl) rfl (fun E D cy C Ci0 ret => ?_)
  refine g_aload_n C dX12_away_0 rfl 0 rfl ?_
  refine g_iconst (v := 0) C dX12_away_1 (by decide) ?_
  refine g_putI C fi_X12_1 rfl F.1 F.2.1 dX12_away_2 ?_
  have F := F.thrown (v := 0)
  generalize pSI P x 0 0 = P1 at F ⊢
  obtain ⟨hx, hxK, ok, inj, zp, zs, zm, zt, zo, zh⟩ := F
  refine g_aload_n C dX12_away_5 rfl 0 rfl ?_
  refine g_iload_n C dX12_away_6 rfl 1 rfl ?_
  refine g_iload_n C dX12_away_7 rfl 2 rfl ?_
  refine g_callVI (rest := []) C mv_X12_298 [.int p0, .int p1] (c_X12_isPaper ⟨hx, hxK, ok, inj, zp, zs, zm, zt, zo, zh⟩) hx hxK rfl rfl (by decide) (by decide) (by decide) dX12_away_8 (fun r123 Q124 h125 => ?_)
  obtain ⟨rfl, rfl⟩ := h125
  refine b_if_ne C 16 dX12_away_11 (by decide) (fun h => absurd h (by decide)) (fun _ => ?_)
  refine g_iconst (v := 0) C dX12_away_14 (by decide) ?_
  exact ret _ _ _ _ _ _ dX12_away_15 rfl (by decide) (by decide) (rfl)
end
section
/-- only numbers have changed, in cells of the kinds ks alone -/
def Kp (ks : List Nat) (P P2 : PP) : Prop := ∃ I2 : Nat → Nat → Int32, P2 = pWI P I2 (pJ P) ∧ ∀ b, pK P b ∉ ks → I2 b = pI P b
theorem Kp.rf {ks : List Nat} {P : PP} : Kp ks P P := ⟨_, rfl, fun _ _ => rfl⟩
theorem Kp.set {ks : List Nat} {P P2 : PP} {a k : Nat} {v : Int32} (h : Kp ks P P2) (ha : pK P a ∈ ks) : Kp ks P (pSI P2 a k v) := by
  obtain ⟨I2, rfl, h⟩ := h
  refine ⟨va_up I2 a (va_up (I2 a) k v), rfl, fun b hb => ?_⟩
  have hne : b ≠ a := fun e => hb (e ▸ ha)
  rw [up_ne hne]; exact h b hb
theorem Kp.tr {ks ks2 : List Nat} {P P2 P3 : PP} (h : Kp ks P P2) (h2 : Kp ks2 P2 P3) (hs : ∀ k, k ∈ ks2 → k ∈ ks) : Kp ks P P3 := by
  obtain ⟨I2, rfl, h⟩ := h
  obtain ⟨I3, rfl, h2⟩ := h2
  exact ⟨I3, rfl, fun b hb => (h2 b (fun q => hb (hs _ q))).trans (h b hb)⟩
def Z6 (P P2 : PP) : Prop := ∃ I2 : Nat → Nat → Int32, P2 = pWI P I2 (pJ P) ∧ ∀ b, b ∈ pL P → pK P b = 6 → I2 b 1 = 0
theorem dX3_clear_0 : decode cX3_clear 0 = .ok (.iconst 0, 1) := by decide +kernel
theorem dX3_clear_1 : decode cX3_clear 1 = .ok (.istore_n 1, 1) := by decide +kernel
theorem dX3_clear_2 : decode cX3_clear 2 = .ok (.iload_n 1, 1) := by decide +kernel
theorem dX3_clear_3 : decode cX3_clear 3 = .ok (.bipush 20, 2) := by decide +kernel
theorem dX3_clear_5 : decode cX3_clear 5 = .ok (.if_icmp .gt 16, 3) := by decide +kernel
theorem dX3_clear_8 : decode cX3_clear 8 = .ok (.aload_n 0, 1) := by decide +kernel
theorem dX3_clear_9 : decode cX3_clear 9 = .ok (.getfield 9, 3) := by decide +kernel
theorem dX3_clear_12 : decode cX3_clear 12 = .ok (.iload_n 1, 1) := by decide +kernel
theorem dX3_clear_13 : decode cX3_clear 13 = .ok (.iconst (-1), 1) := by decide +kernel
theorem dX3_clear_14 : decode cX3_clear 14 = .ok (.iastore, 1) := by decide +kernel
theorem dX3_clear_15 : decode cX3_clear 15 = .ok (.iinc 1 1, 3) := by decide +kernel
theorem dX3_clear_18 : decode cX3_clear 18 = .ok (.goto (-16), 3) := by decide +kernel
theorem dX3_clear_21 : decode cX3_clear 21 = .ok (.aload_n 0, 1) := by decide +kernel
theorem dX3_clear_22 : decode cX3_clear 22 = .ok (.iconst 0, 1) := by decide +kernel
theorem dX3_clear_23 : decode cX3_clear 23 = .ok (.putfield 21, 3) := by decide +kernel
theorem dX3_clear_26 : decode cX3_clear 26 = .ok (.aload_n 0, 1) := by decide +kernel
theorem dX3_clear_27 : decode cX3_clear 27 = .ok (.iconst 0, 1) := by decide +kernel
theorem dX3_clear_28 : decode cX3_clear 28 = .ok (.putfield 25, 3) := by decide +kernel
theorem dX3_clear_31 : decode cX3_clear 31 = .ok (.aload_n 0, 1) := by decide +kernel
theorem dX3_clear_32 : decode cX3_clear 32 = .ok (.iconst 0, 1) := by decide +kernel
theorem dX3_clear_33 : decode cX3_clear 33 = .ok (.putfield 28, 3) := by decide +kernel
theorem dX3_clear_36 : decode cX3_clear 36 = .ok (.aload_n 0, 1) := by decide +kernel
theorem dX3_clear_37 : decode cX3_clear 37 = .ok (.iconst 0, 1) := by decide +kernel
theorem dX3_clear_38 : decode cX3_clear 38 = .ok (.putfield 31, 3) := by decide +kernel
theorem dX3_clear_41 : decode cX3_clear 41 = .ok (.return_, 1) := by decide +kernel
set_option maxHeartbeats 4000000 in
set_option maxRecDepth 100000 in
theorem c_X3_clear {P : PP} {a : Nat} (ok : ∀ a, a ∈ pL P → xOk P a) (ha : a ∈ pL P) (haK : pK P a = 3) : CtrV yX3_clear cX3_clear 2 none ({ frames := 1, cells := 0, slots := 0, locals := 64 } : Room) 0 0 P [.ref a] (fun P2 => Kp [3, 13] P P2) := by
  refine enV (lv := [(0, .ref a)]) (by decide) (Nat.le_of_ble_eq_true rfl) rfl (fun E D cy C Ci0 ret => ?_)
  refine g_iconst (v := 0) C dX3_clear_0 (by decide) ?_
  refine g_istore_n (lv' := [(1, .int 0), (0, .ref a)]) C dX3_clear_1 rfl (by decide) rfl ?_
  have lp150 : ∀ (n152 i145 : Nat), i145 + n152 = 21 → ∀ (I146 : Nat → Nat → Int32), (Kp [3, 13] P (pWI P I146 (pJ P))) → G E ({ frames := 1, cells := 0, slots := 0, locals := 64 } : Room) D cy 2 (pWI P I146 (pJ P)) 0 0 2 [(1, .int (nI i145)), (0, .ref a)] [] := by
    intro n152
    induction n152 with
    | zero =>
      intro i145 hi147 I146 hv148
      have ei149 : (nI i145).toInt = (i145 : Int) := ti_nI (by omega)
      refine g_iload_n C dX3_clear_2 rfl 0 rfl ?_
      refine g_bipush (v := 20) C dX3_clear_3 (by decide) ?_
      refine b_icmp_gt C 21 dX3_clear_5 (by decide) (fun h153 => ?_) (fun h153 => ?_)
      · have h153 : 20 < (nI i145).toInt := h153
        refine g_aload_n C dX3_clear_21 rfl 1 rfl ?_
        refine g_iconst (v := 0) C dX3_clear_22 (by decide) ?_
        refine g_putI C fi_X3_21 rfl ha haK dX3_clear_23 ?_
        have k154 := hv148.set (k := 2) (v := 0) (by rw [show pK P a = 3 from haK]; decide)
        refine g_aload_n C dX3_clear_26 rfl 1 rfl ?_
        refine g_iconst (v := 0) C dX3_clear_27 (by decide) ?_
        refine g_putI C fi_X3_25 rfl ha haK dX3_clear_28 ?_
        have k155 := k154.set (k := 3) (v := 0) (by rw [show pK P a = 3 from haK]; decide)
        refine g_aload_n C dX3_clear_31 rfl 1 rfl ?_
        refine g_iconst (v := 0) C dX3_clear_32 (by decide) ?_
        refine g_putI C fi_X3_28 rfl ha haK dX3_clear_33 ?_
        have k156 := k155.set (k := 4) (v := 0) (by rw [show pK P a = 3 from haK]; decide)
        refine g_aload_n C dX3_clear_36 rfl 1 rfl ?_
        refine g_iconst (v := 0) C dX3_clear_37 (by decide) ?_
        refine g_putI C fi_X3_31 rfl ha haK dX3_clear_38 ?_
        have k157 := k156.set (k := 5) (v := 0) (by rw [show pK P a = 3 from haK]; decide)
        exact ret _ _ _ _ _ dX3_clear_41 (by decide) (by decide) (k157)
      · have h153 : (nI i145).toInt ≤ 20 := h153
        omega
    | succ n152 ih151 =>
      intro i145 hi147 I146 hv148
      have ei149 : (nI i145).toInt = (i145 : Int) := ti_nI (by omega)
      refine g_iload_n C dX3_clear_2 rfl 0 rfl ?_
      refine g_bipush (v := 20) C dX3_clear_3 (by decide) ?_
      refine b_icmp_gt C 21 dX3_clear_5 (by decide) (fun h158 => ?_) (fun h158 => ?_)
      · have h158 : 20 < (nI i145).toInt := h158
        omega
      · have h158 : (nI i145).toInt ≤ 20 := h158
        refine g_aload_n C dX3_clear_8 rfl 1 rfl ?_
        obtain ⟨b159, h160⟩ := xFd.at (ok a ha) haK 0 13 21 rfl
        refine g_getR C fi_X3_9 rfl h160.1 ha haK dX3_clear_9 ?_
        refine g_iload_n C dX3_clear_12 rfl 0 rfl ?_
        refine g_iconst (v := (-1)) C dX3_clear_13 (by decide) ?_
        refine g_iast (j := i145) C h160.2.1 h160.2.2.1 (IX.inn h160.2.2.2 (by omega) (by decide)) dX3_clear_14 ?_
        have k161 := hv148.set (k := i145) (v := (-1)) (by rw [show pK P b159 = 13 from h160.2.2.1]; decide)
        refine g_iinc (v := (nI (i145 + 1))) (lv' := [(1, .int (nI (i145 + 1))), (0, .ref a)]) C dX3_clear_15 0 rfl (nI_1 _) (by decide) rfl ?_
        refine g_goto C 2 dX3_clear_18 (by decide) ?_
        exact ih151 (i145 + 1) (by omega) _ (k161)
  exact lp150 21 0 rfl _ ((Kp.rf (ks := [3, 13]) (P := P)))
theorem dX1_forgetDrawn_0 : decode cX1_forgetDrawn 0 = .ok (.iconst 0, 1) := by decide +kernel
theorem dX1_forgetDrawn_1 : decode cX1_forgetDrawn 1 = .ok (.istore_n 1, 1) := by decide +kernel
theorem dX1_forgetDrawn_2 : decode cX1_forgetDrawn 2 = .ok (.iload_n 1, 1) := by decide +kernel
theorem dX1_forgetDrawn_3 : decode cX1_forgetDrawn 3 = .ok (.bipush 60, 2) := by decide +kernel
theorem dX1_forgetDrawn_5 : decode cX1_forgetDrawn 5 = .ok (.if_icmp .ge 16, 3) := by decide +kernel
theorem dX1_forgetDrawn_8 : decode cX1_forgetDrawn 8 = .ok (.aload_n 0, 1) := by decide +kernel
theorem dX1_forgetDrawn_9 : decode cX1_forgetDrawn 9 = .ok (.getfield 22, 3) := by decide +kernel
theorem dX1_forgetDrawn_12 : decode cX1_forgetDrawn 12 = .ok (.iload_n 1, 1) := by decide +kernel
theorem dX1_forgetDrawn_13 : decode cX1_forgetDrawn 13 = .ok (.iconst 0, 1) := by decide +kernel
theorem dX1_forgetDrawn_14 : decode cX1_forgetDrawn 14 = .ok (.iastore, 1) := by decide +kernel
theorem dX1_forgetDrawn_15 : decode cX1_forgetDrawn 15 = .ok (.iinc 1 1, 3) := by decide +kernel
theorem dX1_forgetDrawn_18 : decode cX1_forgetDrawn 18 = .ok (.goto (-16), 3) := by decide +kernel
theorem dX1_forgetDrawn_21 : decode cX1_forgetDrawn 21 = .ok (.return_, 1) := by decide +kernel
set_option maxHeartbeats 4000000 in
set_option maxRecDepth 100000 in
theorem c_X1_forgetDrawn {P : PP} {a : Nat} (ok : ∀ a, a ∈ pL P → xOk P a) (ha : a ∈ pL P) (haK : pK P a = 1) : CtrV yX1_forgetDrawn cX1_forgetDrawn 2 none ({ frames := 1, cells := 0, slots := 0, locals := 64 } : Room) 0 0 P [.ref a] (fun P2 => Kp [13] P P2) := by
  refine enV (lv := [(0, .ref a)]) (by decide) (Nat.le_of_ble_eq_true rfl) rfl (fun E D cy C Ci0 ret => ?_)
  refine g_iconst (v := 0) C dX1_forgetDrawn_0 (by decide) ?_
  refine g_istore_n (lv' := [(1, .int 0), (0, .ref a)]) C dX1_forgetDrawn_1 rfl (by decide) rfl ?_
  have lp167 : ∀ (n169 i162 : Nat), i162 + n169 = 60 → ∀ (I163 : Nat → Nat → Int32), (Kp [13] P (pWI P I163 (pJ P))) → G E ({ frames := 1, cells := 0, slots := 0, locals := 64 } : Room) D cy 2 (pWI P I163 (pJ P)) 0 0 2 [(1, .int (nI i162)), (0, .ref a)] [] := by
    intro n169
    induction n169 with
    | zero =>
      intro i162 hi164 I163 hv165
      have ei166 : (nI i162).toInt = (i162 : Int) := ti_nI (by omega)
      refine g_iload_n C dX1_forgetDrawn_2 rfl 0 rfl ?_
      refine g_bipush (v := 60) C dX1_forgetDrawn_3 (by decide) ?_
      refine b_icmp_ge C 21 dX1_forgetDrawn_5 (by decide) (fun h170 => ?_) (fun h170 => ?_)
      · have h170 : 60 ≤ (nI i162).toInt := h170
        exact ret _ _ _ _ _ dX1_forgetDrawn_21 (by decide) (by decide) (hv165)
      · have h170 : (nI i162).toInt < 60 := h170
        omega
    | succ n169 ih168 =>
      intro i162 hi164 I163 hv165
      have ei166 : (nI i162).toInt = (i162 : Int) := ti_nI (by omega)
      refine g_iload_n C dX1_forgetDrawn_2 rfl 0 rfl ?_
      refine g_bipush (v := 60) C dX1_forgetDrawn_3 (by decide) ?_
      refine b_icmp_ge C 21 dX1_forgetDrawn_5 (by decide) (fun h171 => ?_) (fun h171 => ?_)
      · have h171 : 60 ≤ (nI i162).toInt := h171
        omega
      · have h171 : (nI i162).toInt < 60 := h171
        refine g_aload_n C dX1_forgetDrawn_8 rfl 1 rfl ?_
        obtain ⟨b172, h173⟩ := xFd.at (ok a ha) haK 3 13 60 rfl
        refine g_getR C fi_X1_22 rfl h173.1 ha haK dX1_forgetDrawn_9 ?_
        refine g_iload_n C dX1_forgetDrawn_12 rfl 0 rfl ?_
        refine g_iconst (v := 0) C dX1_forgetDrawn_13 (by decide) ?_
        refine g_iast (j := i162) C h173.2.1 h173.2.2.1 (IX.inn h173.2.2.2 (by omega) (by decide)) dX1_forgetDrawn_14 ?_
        have k174 := hv165.set (k := i162) (v := 0) (by rw [show pK P b172 = 13 from h173.2.2.1]; decide)
        refine g_iinc (v := (nI (i162 + 1))) (lv' := [(1, .int (nI (i162 + 1))), (0, .ref a)]) C dX1_forgetDrawn_15 0 rfl (nI_1 _) (by decide) rfl ?_
        refine g_goto C 2 dX1_forgetDrawn_18 (by decide) ?_
        exact ih168 (i162 + 1) (by omega) _ (k174)
  exact lp167 60 0 rfl _ ((Kp.rf (ks := [13]) (P := P)))
theorem dX1_tell_0 : decode cX1_tell 0 = .ok (.aload_n 0, 1) := by decide +kernel
theorem dX1_tell_1 : decode cX1_tell 1 = .ok (.iconst 1, 1) := by decide +kernel
theorem dX1_tell_2 : decode cX1_tell 2 = .ok (.putfield 29, 3) := by decide +kernel
theorem dX1_tell_5 : decode cX1_tell 5 = .ok (.aload_n 0, 1) := by decide +kernel
theorem dX1_tell_6 : decode cX1_tell 6 = .ok (.iload_n 1, 1) := by decide +kernel
theorem dX1_tell_7 : decode cX1_tell 7 = .ok (.putfield 33, 3) := by decide +kernel
theorem dX1_tell_10 : decode cX1_tell 10 = .ok (.iconst 0, 1) := by decide +kernel
theorem dX1_tell_11 : decode cX1_tell 11 = .ok (.istore_n 2, 1) := by decide +kernel
theorem dX1_tell_12 : decode cX1_tell 12 = .ok (.iload_n 2, 1) := by decide +kernel
theorem dX1_tell_13 : decode cX1_tell 13 = .ok (.bipush 16, 2) := by decide +kernel
theorem dX1_tell_15 : decode cX1_tell 15 = .ok (.if_icmp .ge 16, 3) := by decide +kernel
theorem dX1_tell_18 : decode cX1_tell 18 = .ok (.aload_n 0, 1) := by decide +kernel
theorem dX1_tell_19 : decode cX1_tell 19 = .ok (.getfield 9, 3) := by decide +kernel
theorem dX1_tell_22 : decode cX1_tell 22 = .ok (.iload_n 2, 1) := by decide +kernel
theorem dX1_tell_23 : decode cX1_tell 23 = .ok (.iconst 0, 1) := by decide +kernel
theorem dX1_tell_24 : decode cX1_tell 24 = .ok (.iastore, 1) := by decide +kernel
theorem dX1_tell_25 : decode cX1_tell 25 = .ok (.iinc 2 1, 3) := by decide +kernel
theorem dX1_tell_28 : decode cX1_tell 28 = .ok (.goto (-16), 3) := by decide +kernel
theorem dX1_tell_31 : decode cX1_tell 31 = .ok (.aload_n 0, 1) := by decide +kernel
theorem dX1_tell_32 : decode cX1_tell 32 = .ok (.getfield 18, 3) := by decide +kernel
theorem dX1_tell_35 : decode cX1_tell 35 = .ok (.invokevirtual 36, 3) := by decide +kernel
theorem dX1_tell_38 : decode cX1_tell 38 = .ok (.aload_n 0, 1) := by decide +kernel
theorem dX1_tell_39 : decode cX1_tell 39 = .ok (.invokevirtual 39, 3) := by decide +kernel
theorem dX1_tell_42 : decode cX1_tell 42 = .ok (.return_, 1) := by decide +kernel
set_option maxHeartbeats 4000000 in
set_option maxRecDepth 100000 in
theorem c_X1_tell {P : PP} {a : Nat} {n : Int32} (ok : ∀ a, a ∈ pL P → xOk P a) (ha : a ∈ pL P) (haK : pK P a = 1) : CtrV yX1_tell cX1_tell 3 none ({ frames := 2, cells := 0, slots := 0, locals := 128 } : Room) 0 0 P [.ref a, .int n] (fun P2 => Kp [1, 3, 13] P P2) := by
  refine enV (lv := [(0, .ref a), (1, .int n)]) (by decide) (Nat.le_of_ble_eq_true rfl) rfl (fun E D cy C Ci0 ret => ?_)
  refine g_aload_n C dX1_tell_0 rfl 0 rfl ?_
  refine g_iconst (v := 1) C dX1_tell_1 (by decide) ?_
  refine g_putZ C fi_X1_29 rfl (Or.inr rfl) ha haK dX1_tell_2 ?_
  have k175 := (Kp.rf (ks := [1, 3, 13]) (P := P)).set (k := 4) (v := 1) (by rw [show pK P a = 1 from haK]; decide)
  refine g_aload_n C dX1_tell_5 rfl 0 rfl ?_
  refine g_iload_n C dX1_tell_6 rfl 1 rfl ?_
  refine g_putI C fi_X1_33 rfl ha haK dX1_tell_7 ?_
  have k176 := k175.set (k := 5) (v := n) (by rw [show pK P a = 1 from haK]; decide)
  refine g_iconst (v := 0) C dX1_tell_10 (by decide) ?_
  refine g_istore_n (lv' := [(2, .int 0), (0, .ref a), (1, .int n)]) C dX1_tell_11 rfl (by decide) rfl ?_
  have lp182 : ∀ (n184 i177 : Nat), i177 + n184 = 16 → ∀ (I178 : Nat → Nat → Int32), (Kp [1, 3, 13] P (pWI P I178 (pJ P))) → G E ({ frames := 2, cells := 0, slots := 0, locals := 128 } : Room) D cy 3 (pWI P I178 (pJ P)) 0 0 12 [(2, .int (nI i177)), (0, .ref a), (1, .int n)] [] := by
    intro n184
    induction n184 with
    | zero =>
      intro i177 hi179 I178 hv180
      have ei181 : (nI i177).toInt = (i177 : Int) := ti_nI (by omega)
      refine g_iload_n C dX1_tell_12 rfl 0 rfl ?_
      refine g_bipush (v := 16) C dX1_tell_13 (by decide) ?_
      refine b_icmp_ge C 31 dX1_tell_15 (by decide) (fun h185 => ?_) (fun h185 => ?_)
      · have h185 : 16 ≤ (nI i177).toInt := h185
        refine g_aload_n C dX1_tell_31 rfl 1 rfl ?_
        obtain ⟨b186, h187⟩ := xFd.at (ok a ha) haK 2 3 0 rfl
        refine g_getR C fi_X1_18 rfl h187.1 ha haK dX1_tell_32 ?_
        refine g_callVV (rest := []) C mv_X1_36 [] (c_X3_clear ok h187.2.1 h187.2.2.1) h187.2.1 h187.2.2.1 rfl rfl (by decide) (Nat.le_of_ble_eq_true rfl) (by decide) dX1_tell_35 (fun Q189 h190 => ?_)
        have k191 := hv180.tr h190 (by decide)
        obtain ⟨I192, rfl, -⟩ := h190
        refine g_aload_n C dX1_tell_38 rfl 1 rfl ?_
        refine g_callVV (rest := []) C mv_X1_39 [] (c_X1_forgetDrawn ok ha haK) ha haK rfl rfl (by decide) (Nat.le_of_ble_eq_true rfl) (by decide) dX1_tell_39 (fun Q194 h195 => ?_)
        have k196 := k191.tr h195 (by decide)
        obtain ⟨I197, rfl, -⟩ := h195
        exact ret _ _ _ _ _ dX1_tell_42 (by decide) (by decide) (k196)
      · have h185 : (nI i177).toInt < 16 := h185
        omega
    | succ n184 ih183 =>
      intro i177 hi179 I178 hv180
      have ei181 : (nI i177).toInt = (i177 : Int) := ti_nI (by omega)
      refine g_iload_n C dX1_tell_12 rfl 0 rfl ?_
      refine g_bipush (v := 16) C dX1_tell_13 (by decide) ?_
      refine b_icmp_ge C 31 dX1_tell_15 (by decide) (fun h198 => ?_) (fun h198 => ?_)
      · have h198 : 16 ≤ (nI i177).toInt := h198
        omega
      · have h198 : (nI i177).toInt < 16 := h198
        refine g_aload_n C dX1_tell_18 rfl 1 rfl ?_
        obtain ⟨b199, h200⟩ := xFd.at (ok a ha) haK 1 13 16 rfl
        refine g_getR C fi_X1_9 rfl h200.1 ha haK dX1_tell_19 ?_
        refine g_iload_n C dX1_tell_22 rfl 0 rfl ?_
        refine g_iconst (v := 0) C dX1_tell_23 (by decide) ?_
        refine g_iast (j := i177) C h200.2.1 h200.2.2.1 (IX.inn h200.2.2.2 (by omega) (by decide)) dX1_tell_24 ?_
        have k201 := hv180.set (k := i177) (v := 0) (by rw [show pK P b199 = 13 from h200.2.2.1]; decide)
        refine g_iinc (v := (nI (i177 + 1))) (lv' := [(2, .int (nI (i177 + 1))), (0, .ref a), (1, .int n)]) C dX1_tell_25 0 rfl (nI_1 _) (by decide) rfl ?_
        refine g_goto C 12 dX1_tell_28 (by decide) ?_
        exact ih183 (i177 + 1) (by omega) _ (k201)
  exact lp182 16 0 rfl _ (k176)
theorem dX6_dropTouching_0 : decode cX6_dropTouching 0 = .ok (.iconst 0, 1) := by decide +kernel
theorem dX6_dropTouching_1 : decode cX6_dropTouching 1 = .ok (.istore_n 2, 1) := by decide +kernel
theorem dX6_dropTouching_2 : decode cX6_dropTouching 2 = .ok (.iconst 0, 1) := by decide +kernel
theorem dX6_dropTouching_3 : decode cX6_dropTouching 3 = .ok (.istore_n 3, 1) := by decide +kernel
theorem dX6_dropTouching_4 : decode cX6_dropTouching 4 = .ok (.iload_n 3, 1) := by decide +kernel
theorem dX6_dropTouching_5 : decode cX6_dropTouching 5 = .ok (.aload_n 0, 1) := by decide +kernel
theorem dX6_dropTouching_6 : decode cX6_dropTouching 6 = .ok (.getfield 17, 3) := by decide +kernel
theorem dX6_dropTouching_9 : decode cX6_dropTouching 9 = .ok (.if_icmp .ge 37, 3) := by decide +kernel
theorem dX6_dropTouching_46 : decode cX6_dropTouching 46 = .ok (.aload_n 0, 1) := by decide +kernel
theorem dX6_dropTouching_47 : decode cX6_dropTouching 47 = .ok (.iload_n 2, 1) := by decide +kernel
theorem dX6_dropTouching_48 : decode cX6_dropTouching 48 = .ok (.putfield 17, 3) := by decide +kernel
theorem dX6_dropTouching_51 : decode cX6_dropTouching 51 = .ok (.return_, 1) := by decide +kernel
set_option maxHeartbeats 4000000 in
set_option maxRecDepth 100000 in
theorem c_X6_dropTouching {P : PP} {a : Nat} {n : Int32} (ok : ∀ a, a ∈ pL P → xOk P a) (z6 : ∀ b, b ∈ pL P → pK P b = 6 → pI P b 1 = 0) (ha : a ∈ pL P) (haK : pK P a = 6) : CtrV yX6_dropTouching cX6_dropTouching 4 none ({ frames := 1, cells := 0, slots := 0, locals := 64 } : Room) 0 0 P [.ref a, .int n] (fun P2 => Z6 P P2) := by
  refine enV (lv := [(0, .ref a), (1, .int n)]) (by decide) (Nat.le_of_ble_eq_true rfl) rfl (fun E D cy C Ci0 ret => ?_)
  refine g_iconst (v := 0) C dX6_dropTouching_0 (by decide) ?_
  refine g_istore_n (lv' := [(2, .int 0), (0, .ref a), (1, .int n)]) C dX6_dropTouching_1 rfl (by decide) rfl ?_
  refine g_iconst (v := 0) C dX6_dropTouching_2 (by decide) ?_
  refine g_istore_n (lv' := [(3, .int 0), (2, .int 0), (0, .ref a), (1, .int n)]) C dX6_dropTouching_3 rfl (by decide) rfl ?_
  refine g_iload_n C dX6_dropTouching_4 rfl 0 rfl ?_
  refine g_aload_n C dX6_dropTouching_5 rfl 2 rfl ?_
  refine g_getI C fi_X6_17 (by decide) ha haK dX6_dropTouching_6 ?_
  rw [show pI P a 1 = 0 from z6 a ha haK]
  refine b_icmp_ge C 46 dX6_dropTouching_9 (by decide) (fun _ => ?_) (fun h => absurd h (by decide))
  refine g_aload_n C dX6_dropTouching_46 rfl 2 rfl ?_
  refine g_iload_n C dX6_dropTouching_47 rfl 1 rfl ?_
  refine g_putI C fi_X6_17 rfl ha haK dX6_dropTouching_48 ?_
  exact ret _ _ _ _ _ dX6_dropTouching_51 (by decide) (by decide) (⟨_, rfl, fun b hb hk => by by_cases e : b = a <;> simp [va_up, e, z6 b hb hk]⟩)
theorem dX6_copy_0 : decode cX6_copy 0 = .ok (.iconst 0, 1) := by decide +kernel
theorem dX6_copy_1 : decode cX6_copy 1 = .ok (.istore_n 2, 1) := by decide +kernel
theorem dX6_copy_2 : decode cX6_copy 2 = .ok (.iload_n 2, 1) := by decide +kernel
theorem dX6_copy_3 : decode cX6_copy 3 = .ok (.aload_n 1, 1) := by decide +kernel
theorem dX6_copy_4 : decode cX6_copy 4 = .ok (.getfield 17, 3) := by decide +kernel
theorem dX6_copy_7 : decode cX6_copy 7 = .ok (.if_icmp .ge 21, 3) := by decide +kernel
theorem dX6_copy_28 : decode cX6_copy 28 = .ok (.aload_n 0, 1) := by decide +kernel
theorem dX6_copy_29 : decode cX6_copy 29 = .ok (.aload_n 1, 1) := by decide +kernel
theorem dX6_copy_30 : decode cX6_copy 30 = .ok (.getfield 17, 3) := by decide +kernel
theorem dX6_copy_33 : decode cX6_copy 33 = .ok (.putfield 17, 3) := by decide +kernel
theorem dX6_copy_36 : decode cX6_copy 36 = .ok (.return_, 1) := by decide +kernel
set_option maxHeartbeats 4000000 in
set_option maxRecDepth 100000 in
theorem c_X6_copy {P : PP} {a : Nat} {o : Nat} (ok : ∀ a, a ∈ pL P → xOk P a) (z6 : ∀ b, b ∈ pL P → pK P b = 6 → pI P b 1 = 0) (ha : a ∈ pL P) (haK : pK P a = 6) (ho : o ∈ pL P) (hoK : pK P o = 6) : CtrV yX6_copy cX6_copy 3 none ({ frames := 1, cells := 0, slots := 0, locals := 64 } : Room) 0 0 P [.ref a, .ref o] (fun P2 => Z6 P P2) := by
  refine enV (lv := [(0, .ref a), (1, .ref o)]) (by decide) (Nat.le_of_ble_eq_true rfl) rfl (fun E D cy C Ci0 ret => ?_)
  refine g_iconst (v := 0) C dX6_copy_0 (by decide) ?_
  refine g_istore_n (lv' := [(2, .int 0), (0, .ref a), (1, .ref o)]) C dX6_copy_1 rfl (by decide) rfl ?_
  refine g_iload_n C dX6_copy_2 rfl 0 rfl ?_
  refine g_aload_n C dX6_copy_3 rfl 2 rfl ?_
  refine g_getI C fi_X6_17 (by decide) ho hoK dX6_copy_4 ?_
  rw [show pI P o 1 = 0 from z6 o ho hoK]
  refine b_icmp_ge C 28 dX6_copy_7 (by decide) (fun _ => ?_) (fun h => absurd h (by decide))
  refine g_aload_n C dX6_copy_28 rfl 1 rfl ?_
  refine g_aload_n C dX6_copy_29 rfl 2 rfl ?_
  refine g_getI C fi_X6_17 (by decide) ho hoK dX6_copy_30 ?_
  rw [show pI P o 1 = 0 from z6 o ho hoK]
  refine g_putI C fi_X6_17 rfl ha haK dX6_copy_33 ?_
  exact ret _ _ _ _ _ dX6_copy_36 (by decide) (by decide) (⟨_, rfl, fun b hb hk => by by_cases e : b = a <;> simp [va_up, e, z6 b hb hk]⟩)
theorem dX11_forgetMarks_0 : decode cX11_forgetMarks 0 = .ok (.iconst 0, 1) := by decide +kernel
theorem dX11_forgetMarks_1 : decode cX11_forgetMarks 1 = .ok (.istore_n 1, 1) := by decide +kernel
theorem dX11_forgetMarks_2 : decode cX11_forgetMarks 2 = .ok (.iload_n 1, 1) := by decide +kernel
theorem dX11_forgetMarks_3 : decode cX11_forgetMarks 3 = .ok (.iconst 4, 1) := by decide +kernel
theorem dX11_forgetMarks_4 : decode cX11_forgetMarks 4 = .ok (.if_icmp .ge 16, 3) := by decide +kernel
theorem dX11_forgetMarks_7 : decode cX11_forgetMarks 7 = .ok (.aload_n 0, 1) := by decide +kernel
theorem dX11_forgetMarks_8 : decode cX11_forgetMarks 8 = .ok (.getfield 24, 3) := by decide +kernel
theorem dX11_forgetMarks_11 : decode cX11_forgetMarks 11 = .ok (.iload_n 1, 1) := by decide +kernel
theorem dX11_forgetMarks_12 : decode cX11_forgetMarks 12 = .ok (.iconst 0, 1) := by decide +kernel
theorem dX11_forgetMarks_13 : decode cX11_forgetMarks 13 = .ok (.bastore, 1) := by decide +kernel
theorem dX11_forgetMarks_14 : decode cX11_forgetMarks 14 = .ok (.iinc 1 1, 3) := by decide +kernel
theorem dX11_forgetMarks_17 : decode cX11_forgetMarks 17 = .ok (.goto (-15), 3) := by decide +kernel
theorem dX11_forgetMarks_20 : decode cX11_forgetMarks 20 = .ok (.return_, 1) := by decide +kernel
set_option maxHeartbeats 4000000 in
set_option maxRecDepth 100000 in
theorem c_X11_forgetMarks {P : PP} {a : Nat} (ok : ∀ a, a ∈ pL P → xOk P a) (ha : a ∈ pL P) (haK : pK P a = 11) : CtrV yX11_forgetMarks cX11_forgetMarks 2 none ({ frames := 1, cells := 0, slots := 0, locals := 64 } : Room) 0 0 P [.ref a] (fun P2 => Kp [15] P P2) := by
  refine enV (lv := [(0, .ref a)]) (by decide) (Nat.le_of_ble_eq_true rfl) rfl (fun E D cy C Ci0 ret => ?_)
  refine g_iconst (v := 0) C dX11_forgetMarks_0 (by decide) ?_
  refine g_istore_n (lv' := [(1, .int 0), (0, .ref a)]) C dX11_forgetMarks_1 rfl (by decide) rfl ?_
  have lp207 : ∀ (n209 i202 : Nat), i202 + n209 = 4 → ∀ (I203 : Nat → Nat → Int32), (Kp [15] P (pWI P I203 (pJ P))) → G E ({ frames := 1, cells := 0, slots := 0, locals := 64 } : Room) D cy 2 (pWI P I203 (pJ P)) 0 0 2 [(1, .int (nI i202)), (0, .ref a)] [] := by
    intro n209
    induction n209 with
    | zero =>
      intro i202 hi204 I203 hv205
      have ei206 : (nI i202).toInt = (i202 : Int) := ti_nI (by omega)
      refine g_iload_n C dX11_forgetMarks_2 rfl 0 rfl ?_
      refine g_iconst (v := 4) C dX11_forgetMarks_3 (by decide) ?_
      refine b_icmp_ge C 20 dX11_forgetMarks_4 (by decide) (fun h210 => ?_) (fun h210 => ?_)
      · have h210 : 4 ≤ (nI i202).toInt := h210
        exact ret _ _ _ _ _ dX11_forgetMarks_20 (by decide) (by decide) (hv205)
      · have h210 : (nI i202).toInt < 4 := h210
        omega
    | succ n209 ih208 =>
      intro i202 hi204 I203 hv205
      have ei206 : (nI i202).toInt = (i202 : Int) := ti_nI (by omega)
      refine g_iload_n C dX11_forgetMarks_2 rfl 0 rfl ?_
      refine g_iconst (v := 4) C dX11_forgetMarks_3 (by decide) ?_
      refine b_icmp_ge C 20 dX11_forgetMarks_4 (by decide) (fun h211 => ?_) (fun h211 => ?_)
      · have h211 : 4 ≤ (nI i202).toInt := h211
        omega
      · have h211 : (nI i202).toInt < 4 := h211
        refine g_aload_n C dX11_forgetMarks_7 rfl 1 rfl ?_
        obtain ⟨b212, h213⟩ := xFd.at (ok a ha) haK 3 15 4 rfl
        refine g_getR C fi_X11_24 rfl h213.1 ha haK dX11_forgetMarks_8 ?_
        refine g_iload_n C dX11_forgetMarks_11 rfl 0 rfl ?_
        refine g_iconst (v := 0) C dX11_forgetMarks_12 (by decide) ?_
        refine g_zast (j := i202) C h213.2.1 h213.2.2.1 (IX.inn h213.2.2.2 (by omega) (by decide)) (Or.inl rfl) dX11_forgetMarks_13 ?_
        have k214 := hv205.set (k := i202) (v := 0) (by rw [show pK P b212 = 15 from h213.2.2.1]; decide)
        refine g_iinc (v := (nI (i202 + 1))) (lv' := [(1, .int (nI (i202 + 1))), (0, .ref a)]) C dX11_forgetMarks_14 0 rfl (nI_1 _) (by decide) rfl ?_
        refine g_goto C 2 dX11_forgetMarks_17 (by decide) ?_
        exact ih208 (i202 + 1) (by omega) _ (k214)
  exact lp207 4 0 rfl _ ((Kp.rf (ks := [15]) (P := P)))
theorem dX11_book_0 : decode cX11_book 0 = .ok (.iload_n 1, 1) := by decide +kernel
theorem dX11_book_1 : decode cX11_book 1 = .ok (.invokestatic 84, 3) := by decide +kernel
theorem dX11_book_4 : decode cX11_book 4 = .ok (.ifCond .eq 14, 3) := by decide +kernel
theorem dX11_book_7 : decode cX11_book 7 = .ok (.iload_n 2, 1) := by decide +kernel
theorem dX11_book_8 : decode cX11_book 8 = .ok (.iconst 1, 1) := by decide +kernel
theorem dX11_book_9 : decode cX11_book 9 = .ok (.if_icmp .lt 9, 3) := by decide +kernel
theorem dX11_book_12 : decode cX11_book 12 = .ok (.iload_n 2, 1) := by decide +kernel
theorem dX11_book_13 : decode cX11_book 13 = .ok (.bipush 16, 2) := by decide +kernel
theorem dX11_book_15 : decode cX11_book 15 = .ok (.if_icmp .le 5, 3) := by decide +kernel
theorem dX11_book_18 : decode cX11_book 18 = .ok (.iconst 0, 1) := by decide +kernel
theorem dX11_book_19 : decode cX11_book 19 = .ok (.ireturn, 1) := by decide +kernel
theorem dX11_book_20 : decode cX11_book 20 = .ok (.aload_n 0, 1) := by decide +kernel
theorem dX11_book_21 : decode cX11_book 21 = .ok (.getfield 11, 3) := by decide +kernel
theorem dX11_book_24 : decode cX11_book 24 = .ok (.iload_n 1, 1) := by decide +kernel
theorem dX11_book_25 : decode cX11_book 25 = .ok (.aaload, 1) := by decide +kernel
theorem dX11_book_26 : decode cX11_book 26 = .ok (.iload_n 2, 1) := by decide +kernel
theorem dX11_book_27 : decode cX11_book 27 = .ok (.invokevirtual 88, 3) := by decide +kernel
theorem dX11_book_30 : decode cX11_book 30 = .ok (.iconst 0, 1) := by decide +kernel
theorem dX11_book_31 : decode cX11_book 31 = .ok (.istore_n 3, 1) := by decide +kernel
theorem dX11_book_32 : decode cX11_book 32 = .ok (.iload_n 3, 1) := by decide +kernel
theorem dX11_book_33 : decode cX11_book 33 = .ok (.iconst 4, 1) := by decide +kernel
theorem dX11_book_34 : decode cX11_book 34 = .ok (.if_icmp .ge 19, 3) := by decide +kernel
theorem dX11_book_37 : decode cX11_book 37 = .ok (.aload_n 0, 1) := by decide +kernel
theorem dX11_book_38 : decode cX11_book 38 = .ok (.getfield 17, 3) := by decide +kernel
theorem dX11_book_41 : decode cX11_book 41 = .ok (.iload_n 3, 1) := by decide +kernel
theorem dX11_book_42 : decode cX11_book 42 = .ok (.aaload, 1) := by decide +kernel
theorem dX11_book_43 : decode cX11_book 43 = .ok (.iload_n 1, 1) := by decide +kernel
theorem dX11_book_44 : decode cX11_book 44 = .ok (.invokevirtual 91, 3) := by decide +kernel
theorem dX11_book_47 : decode cX11_book 47 = .ok (.iinc 3 1, 3) := by decide +kernel
theorem dX11_book_50 : decode cX11_book 50 = .ok (.goto (-18), 3) := by decide +kernel
theorem dX11_book_53 : decode cX11_book 53 = .ok (.aload_n 0, 1) := by decide +kernel
theorem dX11_book_54 : decode cX11_book 54 = .ok (.invokevirtual 94, 3) := by decide +kernel
theorem dX11_book_57 : decode cX11_book 57 = .ok (.iconst 1, 1) := by decide +kernel
theorem dX11_book_58 : decode cX11_book 58 = .ok (.ireturn, 1) := by decide +kernel
set_option maxHeartbeats 4000000 in
set_option maxRecDepth 100000 in
theorem c_X11_book {P : PP} {x : Nat} {b : Int32} {n : Int32} (F : FC P x) : CtrI yX11_book cX11_book 4 (some Jvm.ClassFile.FieldType.boolean) ({ frames := 3, cells := 0, slots := 0, locals := 192 } : Room) 0 0 P [.ref x, .int b, .int n] (fun r _ => (r = 1 ∧ (0 ≤ b.toInt ∧ b.toInt < 2 ∧ 1 ≤ n.toInt ∧ n.toInt ≤ 16)) ∨ (r = 0 ∧ ¬ (0 ≤ b.toInt ∧ b.toInt < 2 ∧ 1 ≤ n.toInt ∧ n.toInt ≤ 16))) := by
  obtain ⟨hx, hxK, ok, z1, z6, z9, zt, zh, zm⟩ := F
  refine enI (lv := [(0, .ref x), (1, .int b), (2, .int n)]) (by decide) (Nat.le_of_ble_eq_true rfl) rfl (fun E D cy C Ci0 ret => ?_)
  refine g_iload_n C dX11_book_0 rfl 1 rfl ?_
  refine g_callSI (b := 0) (ci := 0) (rest := []) C ms_X11_84 [.int b] (c_X11_isBook) rfl rfl (by decide) (Nat.le_of_ble_eq_true rfl) (by decide) dX11_book_1 (fun r215 Q216 h217 => ?_)
  obtain ⟨rfl, h217⟩ := h217
  rcases h217 with ⟨rfl, h217⟩ | ⟨rfl, h217⟩
  · refine b_if_eq C 18 dX11_book_4 (by decide) (fun h => absurd h (by decide)) (fun _ => ?_)
    refine g_iload_n C dX11_book_7 rfl 2 rfl ?_
    refine g_iconst (v := 1) C dX11_book_8 (by decide) ?_
    refine b_icmp_lt C 18 dX11_book_9 (by decide) (fun h218 => ?_) (fun h218 => ?_)
    · have h218 : n.toInt < 1 := h218
      refine g_iconst (v := 0) C dX11_book_18 (by decide) ?_
      exact ret _ _ _ _ _ _ dX11_book_19 rfl (by decide) (by decide) (Or.inr ⟨rfl, by first | omega | (intro h9; omega)⟩)
    · have h218 : 1 ≤ n.toInt := h218
      refine g_iload_n C dX11_book_12 rfl 2 rfl ?_
      refine g_bipush (v := 16) C dX11_book_13 (by decide) ?_
      refine b_icmp_le C 20 dX11_book_15 (by decide) (fun h219 => ?_) (fun h219 => ?_)
      · have h219 : n.toInt ≤ 16 := h219
        refine g_aload_n C dX11_book_20 rfl 0 rfl ?_
        obtain ⟨b220, h221⟩ := xFd.at (ok x hx) hxK 0 17 2 rfl
        refine g_getR C fi_X11_11 rfl h221.1 hx hxK dX11_book_21 ?_
        refine g_iload_n C dX11_book_24 rfl 1 rfl ?_
        obtain ⟨b222, h223⟩ := xAr.at (ok b220 h221.2.1) h221.2.2.1 (by decide) (b.toInt.toNat) (lt_n h221.2.2.2 (by omega))
        refine g_aldR C h221.2.1 h221.2.2.1 (by decide) (IX.intn (i := b) h221.2.2.2 (by omega) (by omega)) h223.1 dX11_book_25 ?_
        refine g_iload_n C dX11_book_26 rfl 2 rfl ?_
        refine g_callVV (rest := []) C mv_X11_88 [.int n] (c_X1_tell ok h223.2.1 h223.2.2) h223.2.1 h223.2.2 rfl rfl (by decide) (Nat.le_of_ble_eq_true rfl) (by decide) dX11_book_27 (fun Q225 h226 => ?_)
        obtain ⟨I227, rfl, h226⟩ := h226
        refine g_iconst (v := 0) C dX11_book_30 (by decide) ?_
        refine g_istore_n (lv' := [(3, .int 0), (0, .ref x), (1, .int b), (2, .int n)]) C dX11_book_31 rfl (by decide) rfl ?_
        have lp233 : ∀ (n235 i228 : Nat), i228 + n235 = 4 → ∀ (I229 : Nat → Nat → Int32), (∀ b, b ∈ pL P → pK P b = 6 → I229 b 1 = 0) → G E ({ frames := 3, cells := 0, slots := 0, locals := 192 } : Room) D cy 4 (pWI P I229 (pJ P)) 0 0 32 [(3, .int (nI i228)), (0, .ref x), (1, .int b), (2, .int n)] [] := by
          intro n235
          induction n235 with
          | zero =>
            intro i228 hi230 I229 hv231
            have ei232 : (nI i228).toInt = (i228 : Int) := ti_nI (by omega)
            refine g_iload_n C dX11_book_32 rfl 0 rfl ?_
            refine g_iconst (v := 4) C dX11_book_33 (by decide) ?_
            refine b_icmp_ge C 53 dX11_book_34 (by decide) (fun h236 => ?_) (fun h236 => ?_)
            · have h236 : 4 ≤ (nI i228).toInt := h236
              refine g_aload_n C dX11_book_53 rfl 1 rfl ?_
              refine g_callVV (rest := []) C mv_X11_94 [] (c_X11_forgetMarks ok hx hxK) hx hxK rfl rfl (by decide) (Nat.le_of_ble_eq_true rfl) (by decide) dX11_book_54 (fun Q238 h239 => ?_)
              obtain ⟨I240, rfl, -⟩ := h239
              refine g_iconst (v := 1) C dX11_book_57 (by decide) ?_
              exact ret _ _ _ _ _ _ dX11_book_58 rfl (by decide) (by decide) (Or.inl ⟨rfl, by first | omega | (intro h9; omega)⟩)
            · have h236 : (nI i228).toInt < 4 := h236
              omega
          | succ n235 ih234 =>
            intro i228 hi230 I229 hv231
            have ei232 : (nI i228).toInt = (i228 : Int) := ti_nI (by omega)
            refine g_iload_n C dX11_book_32 rfl 0 rfl ?_
            refine g_iconst (v := 4) C dX11_book_33 (by decide) ?_
            refine b_icmp_ge C 53 dX11_book_34 (by decide) (fun h241 => ?_) (fun h241 => ?_)
            · have h241 : 4 ≤ (nI i228).toInt := h241
              omega
            · have h241 : (nI i228).toInt < 4 := h241
              refine g_aload_n C dX11_book_37 rfl 1 rfl ?_
              obtain ⟨b242, h243⟩ := xFd.at (ok x hx) hxK 1 19 4 rfl
              refine g_getR C fi_X11_17 rfl h243.1 hx hxK dX11_book_38 ?_
              refine g_iload_n C dX11_book_41 rfl 0 rfl ?_
              obtain ⟨b244, h245⟩ := xAr.at (ok b242 h243.2.1) h243.2.2.1 (by decide) i228 (lt_n h243.2.2.2 (by omega))
              refine g_aldR C h243.2.1 h243.2.2.1 (by decide) (IX.inn h243.2.2.2 (by omega) (by decide)) h245.1 dX11_book_42 ?_
              refine g_iload_n C dX11_book_43 rfl 2 rfl ?_
              refine g_callVV (rest := []) C mv_X11_91 [.int b] (c_X6_dropTouching ok hv231 h245.2.1 h245.2.2) h245.2.1 h245.2.2 rfl rfl (by decide) (Nat.le_of_ble_eq_true rfl) (by decide) dX11_book_44 (fun Q247 h248 => ?_)
              obtain ⟨I249, rfl, h248⟩ := h248
              refine g_iinc (v := (nI (i228 + 1))) (lv' := [(3, .int (nI (i228 + 1))), (0, .ref x), (1, .int b), (2, .int n)]) C dX11_book_47 0 rfl (nI_1 _) (by decide) rfl ?_
              refine g_goto C 32 dX11_book_50 (by decide) ?_
              exact ih234 (i228 + 1) (by omega) _ (h248)
        exact lp233 4 0 rfl _ (fun b hb hk => by rw [h226 b (by rw [hk]; decide)]; exact z6 b hb hk)
      · have h219 : 16 < n.toInt := h219
        refine g_iconst (v := 0) C dX11_book_18 (by decide) ?_
        exact ret _ _ _ _ _ _ dX11_book_19 rfl (by decide) (by decide) (Or.inr ⟨rfl, by first | omega | (intro h9; omega)⟩)
  · refine b_if_eq C 18 dX11_book_4 (by decide) (fun _ => ?_) (fun h => absurd h (by decide))
    refine g_iconst (v := 0) C dX11_book_18 (by decide) ?_
    exact ret _ _ _ _ _ _ dX11_book_19 rfl (by decide) (by decide) (Or.inr ⟨rfl, by first | omega | (intro h9; omega)⟩)
theorem dX11_quarter_0 : decode cX11_quarter 0 = .ok (.iload_n 1, 1) := by decide +kernel
theorem dX11_quarter_1 : decode cX11_quarter 1 = .ok (.invokestatic 158, 3) := by decide +kernel
theorem dX11_quarter_4 : decode cX11_quarter 4 = .ok (.ifCond .eq 24, 3) := by decide +kernel
theorem dX11_quarter_7 : decode cX11_quarter 7 = .ok (.iload_n 2, 1) := by decide +kernel
theorem dX11_quarter_8 : decode cX11_quarter 8 = .ok (.ifCond .lt 20, 3) := by decide +kernel
theorem dX11_quarter_11 : decode cX11_quarter 11 = .ok (.iload_n 2, 1) := by decide +kernel
theorem dX11_quarter_12 : decode cX11_quarter 12 = .ok (.bipush 100, 2) := by decide +kernel
theorem dX11_quarter_14 : decode cX11_quarter 14 = .ok (.if_icmp .gt 14, 3) := by decide +kernel
theorem dX11_quarter_17 : decode cX11_quarter 17 = .ok (.iload_n 3, 1) := by decide +kernel
theorem dX11_quarter_18 : decode cX11_quarter 18 = .ok (.ifCond .lt 10, 3) := by decide +kernel
theorem dX11_quarter_21 : decode cX11_quarter 21 = .ok (.iload_n 3, 1) := by decide +kernel
theorem dX11_quarter_22 : decode cX11_quarter 22 = .ok (.sipush 999, 3) := by decide +kernel
theorem dX11_quarter_25 : decode cX11_quarter 25 = .ok (.if_icmp .le 5, 3) := by decide +kernel
theorem dX11_quarter_28 : decode cX11_quarter 28 = .ok (.iconst 0, 1) := by decide +kernel
theorem dX11_quarter_29 : decode cX11_quarter 29 = .ok (.ireturn, 1) := by decide +kernel
theorem dX11_quarter_30 : decode cX11_quarter 30 = .ok (.aload_n 0, 1) := by decide +kernel
theorem dX11_quarter_31 : decode cX11_quarter 31 = .ok (.getfield 28, 3) := by decide +kernel
theorem dX11_quarter_34 : decode cX11_quarter 34 = .ok (.iload_n 1, 1) := by decide +kernel
theorem dX11_quarter_35 : decode cX11_quarter 35 = .ok (.iload_n 2, 1) := by decide +kernel
theorem dX11_quarter_36 : decode cX11_quarter 36 = .ok (.iastore, 1) := by decide +kernel
theorem dX11_quarter_37 : decode cX11_quarter 37 = .ok (.aload_n 0, 1) := by decide +kernel
theorem dX11_quarter_38 : decode cX11_quarter 38 = .ok (.getfield 32, 3) := by decide +kernel
theorem dX11_quarter_41 : decode cX11_quarter 41 = .ok (.iload_n 1, 1) := by decide +kernel
theorem dX11_quarter_42 : decode cX11_quarter 42 = .ok (.iload_n 3, 1) := by decide +kernel
theorem dX11_quarter_43 : decode cX11_quarter 43 = .ok (.iastore, 1) := by decide +kernel
theorem dX11_quarter_44 : decode cX11_quarter 44 = .ok (.iconst 1, 1) := by decide +kernel
theorem dX11_quarter_45 : decode cX11_quarter 45 = .ok (.ireturn, 1) := by decide +kernel
set_option maxHeartbeats 4000000 in
set_option maxRecDepth 100000 in
theorem c_X11_quarter {P : PP} {x : Nat} {q : Int32} {b : Int32} {n : Int32} (F : FC P x) : CtrI yX11_quarter cX11_quarter 4 (some Jvm.ClassFile.FieldType.boolean) ({ frames := 3, cells := 0, slots := 0, locals := 192 } : Room) 0 0 P [.ref x, .int q, .int b, .int n] (fun r _ => (r = 1 ∧ (0 ≤ q.toInt ∧ q.toInt < 4 ∧ 0 ≤ b.toInt ∧ b.toInt ≤ 100 ∧ 0 ≤ n.toInt ∧ n.toInt ≤ 999)) ∨ (r = 0 ∧ ¬ (0 ≤ q.toInt ∧ q.toInt < 4 ∧ 0 ≤ b.toInt ∧ b.toInt ≤ 100 ∧ 0 ≤ n.toInt ∧ n.toInt ≤ 999))) := by
  obtain ⟨hx, hxK, ok, z1, z6, z9, zt, zh, zm⟩ := F
  refine enI (lv := [(0, .ref x), (1, .int q), (2, .int b), (3, .int n)]) (by decide) (Nat.le_of_ble_eq_true rfl) rfl (fun E D cy C Ci0 ret => ?_)
  refine g_iload_n C dX11_quarter_0 rfl 1 rfl ?_
  refine g_callSI (b := 0) (ci := 0) (rest := []) C ms_X11_158 [.int q] (c_X11_isQuarter) rfl rfl (by decide) (Nat.le_of_ble_eq_true rfl) (by decide) dX11_quarter_1 (fun r250 Q251 h252 => ?_)
  obtain ⟨rfl, h252⟩ := h252
  rcases h252 with ⟨rfl, h252⟩ | ⟨rfl, h252⟩
  · refine b_if_eq C 28 dX11_quarter_4 (by decide) (fun h => absurd h (by decide)) (fun _ => ?_)
    refine g_iload_n C dX11_quarter_7 rfl 2 rfl ?_
    refine b_if_lt C 28 dX11_quarter_8 (by decide) (fun h253 => ?_) (fun h253 => ?_)
    · have h253 : b.toInt < 0 := h253
      refine g_iconst (v := 0) C dX11_quarter_28 (by decide) ?_
      exact ret _ _ _ _ _ _ dX11_quarter_29 rfl (by decide) (by decide) (Or.inr ⟨rfl, by first | omega | (intro h9; omega)⟩)
    · have h253 : 0 ≤ b.toInt := h253
      refine g_iload_n C dX11_quarter_11 rfl 2 rfl ?_
      refine g_bipush (v := 100) C dX11_quarter_12 (by decide) ?_
      refine b_icmp_gt C 28 dX11_quarter_14 (by decide) (fun h254 => ?_) (fun h254 => ?_)
      · have h254 : 100 < b.toInt := h254
        refine g_iconst (v := 0) C dX11_quarter_28 (by decide) ?_
        exact ret _ _ _ _ _ _ dX11_quarter_29 rfl (by decide) (by decide) (Or.inr ⟨rfl, by first | omega | (intro h9; omega)⟩)
      · have h254 : b.toInt ≤ 100 := h254
        refine g_iload_n C dX11_quarter_17 rfl 3 rfl ?_
        refine b_if_lt C 28 dX11_quarter_18 (by decide) (fun h255 => ?_) (fun h255 => ?_)
        · have h255 : n.toInt < 0 := h255
          refine g_iconst (v := 0) C dX11_quarter_28 (by decide) ?_
          exact ret _ _ _ _ _ _ dX11_quarter_29 rfl (by decide) (by decide) (Or.inr ⟨rfl, by first | omega | (intro h9; omega)⟩)
        · have h255 : 0 ≤ n.toInt := h255
          refine g_iload_n C dX11_quarter_21 rfl 3 rfl ?_
          refine g_sipush (v := 999) C dX11_quarter_22 (by decide) ?_
          refine b_icmp_le C 30 dX11_quarter_25 (by decide) (fun h256 => ?_) (fun h256 => ?_)
          · have h256 : n.toInt ≤ 999 := h256
            refine g_aload_n C dX11_quarter_30 rfl 0 rfl ?_
            obtain ⟨b257, h258⟩ := xFd.at (ok x hx) hxK 4 13 4 rfl
            refine g_getR C fi_X11_28 rfl h258.1 hx hxK dX11_quarter_31 ?_
            refine g_iload_n C dX11_quarter_34 rfl 1 rfl ?_
            refine g_iload_n C dX11_quarter_35 rfl 2 rfl ?_
            refine g_iast (j := (q.toInt.toNat)) C h258.2.1 h258.2.2.1 (IX.intn (i := q) h258.2.2.2 (by omega) (by omega)) dX11_quarter_36 ?_
            refine g_aload_n C dX11_quarter_37 rfl 0 rfl ?_
            obtain ⟨b259, h260⟩ := xFd.at (ok x hx) hxK 5 13 4 rfl
            refine g_getR C fi_X11_32 rfl h260.1 hx hxK dX11_quarter_38 ?_
            refine g_iload_n C dX11_quarter_41 rfl 1 rfl ?_
            refine g_iload_n C dX11_quarter_42 rfl 3 rfl ?_
            refine g_iast (j := (q.toInt.toNat)) C h260.2.1 h260.2.2.1 (IX.intn (i := q) h260.2.2.2 (by omega) (by omega)) dX11_quarter_43 ?_
            refine g_iconst (v := 1) C dX11_quarter_44 (by decide) ?_
            exact ret _ _ _ _ _ _ dX11_quarter_45 rfl (by decide) (by decide) (Or.inl ⟨rfl, by first | omega | (intro h9; omega)⟩)
          · have h256 : 999 < n.toInt := h256
            refine g_iconst (v := 0) C dX11_quarter_28 (by decide) ?_
            exact ret _ _ _ _ _ _ dX11_quarter_29 rfl (by decide) (by decide) (Or.inr ⟨rfl, by first | omega | (intro h9; omega)⟩)
  · refine b_if_eq C 28 dX11_quarter_4 (by decide) (fun _ => ?_) (fun h => absurd h (by decide))
    refine g_iconst (v := 0) C dX11_quarter_28 (by decide) ?_
    exact ret _ _ _ _ _ _ dX11_quarter_29 rfl (by decide) (by decide) (Or.inr ⟨rfl, by first | omega | (intro h9; omega)⟩)
theorem dX11_draw_0 : decode cX11_draw 0 = .ok (.iconst (-1), 1) := by decide +kernel
theorem dX11_draw_1 : decode cX11_draw 1 = .ok (.istore_n 2, 1) := by decide +kernel
theorem dX11_draw_2 : decode cX11_draw 2 = .ok (.aload_n 0, 1) := by decide +kernel
theorem dX11_draw_3 : decode cX11_draw 3 = .ok (.iload_n 1, 1) := by decide +kernel
theorem dX11_draw_4 : decode cX11_draw 4 = .ok (.invokevirtual 97, 3) := by decide +kernel
theorem dX11_draw_7 : decode cX11_draw 7 = .ok (.ifCond .eq 52, 3) := by decide +kernel
theorem dX11_draw_59 : decode cX11_draw 59 = .ok (.aload_n 0, 1) := by decide +kernel
theorem dX11_draw_60 : decode cX11_draw 60 = .ok (.getfield 41, 3) := by decide +kernel
theorem dX11_draw_63 : decode cX11_draw 63 = .ok (.getfield 111, 3) := by decide +kernel
theorem dX11_draw_66 : decode cX11_draw 66 = .ok (.iconst 0, 1) := by decide +kernel
theorem dX11_draw_67 : decode cX11_draw 67 = .ok (.putfield 121, 3) := by decide +kernel
theorem dX11_draw_70 : decode cX11_draw 70 = .ok (.iload_n 2, 1) := by decide +kernel
theorem dX11_draw_71 : decode cX11_draw 71 = .ok (.ireturn, 1) := by decide +kernel
set_option maxHeartbeats 4000000 in
set_option maxRecDepth 100000 in
theorem c_X11_draw {P : PP} {x : Nat} {b : Int32} (F : FC P x) : CtrI yX11_draw cX11_draw 3 (some Jvm.ClassFile.FieldType.int) ({ frames := 4, cells := 0, slots := 0, locals := 256 } : Room) 0 0 P [.ref x, .int b] (fun r _ => r = -1) := by
  obtain ⟨hx, hxK, ok, z1, z6, z9, zt, zh, zm⟩ := F
  refine enI (lv := [(0, .ref x), (1, .int b)]) (by decide) (Nat.le_of_ble_eq_true rfl) rfl (fun E D cy C Ci0 ret => ?_)
  refine g_iconst (v := (-1)) C dX11_draw_0 (by decide) ?_
  refine g_istore_n (lv' := [(2, .int (-1)), (0, .ref x), (1, .int b)]) C dX11_draw_1 rfl (by decide) rfl ?_
  refine g_aload_n C dX11_draw_2 rfl 1 rfl ?_
  refine g_iload_n C dX11_draw_3 rfl 2 rfl ?_
  refine g_callVI (rest := []) C mv_X11_97 [.int b] (c_X11_isTold ⟨hx, hxK, ok, z1, z6, z9, zt, zh, zm⟩) hx hxK rfl rfl (by decide) (Nat.le_of_ble_eq_true rfl) (by decide) dX11_draw_4 (fun r261 Q262 h263 => ?_)
  obtain ⟨rfl, rfl⟩ := h263
  refine b_if_eq C 59 dX11_draw_7 (by decide) (fun _ => ?_) (fun h => absurd h (by decide))
  refine g_aload_n C dX11_draw_59 rfl 1 rfl ?_
  obtain ⟨b264, h265⟩ := xFd.at (ok x hx) hxK 7 4 0 rfl
  refine g_getR C fi_X11_41 rfl h265.1 hx hxK dX11_draw_60 ?_
  obtain ⟨b266, h267⟩ := xFd.at (ok b264 h265.2.1) h265.2.2.1 0 9 0 rfl
  refine g_getR C fi_X11_111 rfl h267.1 h265.2.1 h265.2.2.1 dX11_draw_63 ?_
  refine g_iconst (v := 0) C dX11_draw_66 (by decide) ?_
  refine g_putI C fi_X11_121 rfl h267.2.1 h267.2.2.1 dX11_draw_67 ?_
  refine g_iload_n C dX11_draw_70 rfl 0 rfl ?_
  exact ret _ _ _ _ _ _ dX11_draw_71 rfl (by decide) (by decide) (rfl)
theorem dX11_swap_0 : decode cX11_swap 0 = .ok (.iload_n 1, 1) := by decide +kernel
theorem dX11_swap_1 : decode cX11_swap 1 = .ok (.invokestatic 158, 3) := by decide +kernel
theorem dX11_swap_4 : decode cX11_swap 4 = .ok (.ifCond .eq 25, 3) := by decide +kernel
theorem dX11_swap_7 : decode cX11_swap 7 = .ok (.iload_n 2, 1) := by decide +kernel
theorem dX11_swap_8 : decode cX11_swap 8 = .ok (.invokestatic 158, 3) := by decide +kernel
theorem dX11_swap_11 : decode cX11_swap 11 = .ok (.ifCond .eq 18, 3) := by decide +kernel
theorem dX11_swap_14 : decode cX11_swap 14 = .ok (.iload_n 1, 1) := by decide +kernel
theorem dX11_swap_15 : decode cX11_swap 15 = .ok (.iload_n 2, 1) := by decide +kernel
theorem dX11_swap_16 : decode cX11_swap 16 = .ok (.if_icmp .eq 13, 3) := by decide +kernel
theorem dX11_swap_19 : decode cX11_swap 19 = .ok (.iload_n 3, 1) := by decide +kernel
theorem dX11_swap_20 : decode cX11_swap 20 = .ok (.ifCond .lt 9, 3) := by decide +kernel
theorem dX11_swap_23 : decode cX11_swap 23 = .ok (.iload_n 3, 1) := by decide +kernel
theorem dX11_swap_24 : decode cX11_swap 24 = .ok (.bipush 40, 2) := by decide +kernel
theorem dX11_swap_26 : decode cX11_swap 26 = .ok (.if_icmp .le 5, 3) := by decide +kernel
theorem dX11_swap_29 : decode cX11_swap 29 = .ok (.iconst (-1), 1) := by decide +kernel
theorem dX11_swap_30 : decode cX11_swap 30 = .ok (.ireturn, 1) := by decide +kernel
theorem dX11_swap_31 : decode cX11_swap 31 = .ok (.aload_n 0, 1) := by decide +kernel
theorem dX11_swap_32 : decode cX11_swap 32 = .ok (.getfield 17, 3) := by decide +kernel
theorem dX11_swap_35 : decode cX11_swap 35 = .ok (.iload_n 1, 1) := by decide +kernel
theorem dX11_swap_36 : decode cX11_swap 36 = .ok (.aaload, 1) := by decide +kernel
theorem dX11_swap_37 : decode cX11_swap 37 = .ok (.astore 4, 2) := by decide +kernel
theorem dX11_swap_39 : decode cX11_swap 39 = .ok (.aload_n 0, 1) := by decide +kernel
theorem dX11_swap_40 : decode cX11_swap 40 = .ok (.getfield 17, 3) := by decide +kernel
theorem dX11_swap_43 : decode cX11_swap 43 = .ok (.iload_n 2, 1) := by decide +kernel
theorem dX11_swap_44 : decode cX11_swap 44 = .ok (.aaload, 1) := by decide +kernel
theorem dX11_swap_45 : decode cX11_swap 45 = .ok (.astore 5, 2) := by decide +kernel
theorem dX11_swap_47 : decode cX11_swap 47 = .ok (.iconst 0, 1) := by decide +kernel
theorem dX11_swap_48 : decode cX11_swap 48 = .ok (.istore 6, 2) := by decide +kernel
theorem dX11_swap_50 : decode cX11_swap 50 = .ok (.iconst 0, 1) := by decide +kernel
theorem dX11_swap_51 : decode cX11_swap 51 = .ok (.istore 7, 2) := by decide +kernel
theorem dX11_swap_53 : decode cX11_swap 53 = .ok (.iload 7, 2) := by decide +kernel
theorem dX11_swap_55 : decode cX11_swap 55 = .ok (.aload 4, 2) := by decide +kernel
theorem dX11_swap_57 : decode cX11_swap 57 = .ok (.getfield 336, 3) := by decide +kernel
theorem dX11_swap_60 : decode cX11_swap 60 = .ok (.if_icmp .ge 53, 3) := by decide +kernel
theorem dX11_swap_113 : decode cX11_swap 113 = .ok (.iload 6, 2) := by decide +kernel
theorem dX11_swap_115 : decode cX11_swap 115 = .ok (.ireturn, 1) := by decide +kernel
set_option maxHeartbeats 4000000 in
set_option maxRecDepth 100000 in
theorem c_X11_swap {P : PP} {x : Nat} {f : Int32} {t : Int32} {k : Int32} (F : FC P x) : CtrI yX11_swap cX11_swap 9 (some Jvm.ClassFile.FieldType.int) ({ frames := 3, cells := 0, slots := 0, locals := 192 } : Room) 0 0 P [.ref x, .int f, .int t, .int k] (fun r _ => (r = 0 ∧ (0 ≤ f.toInt ∧ f.toInt < 4 ∧ 0 ≤ t.toInt ∧ t.toInt < 4 ∧ f ≠ t ∧ 0 ≤ k.toInt ∧ k.toInt ≤ 40)) ∨ (r = -1 ∧ ¬ (0 ≤ f.toInt ∧ f.toInt < 4 ∧ 0 ≤ t.toInt ∧ t.toInt < 4 ∧ f ≠ t ∧ 0 ≤ k.toInt ∧ k.toInt ≤ 40))) := by
  obtain ⟨hx, hxK, ok, z1, z6, z9, zt, zh, zm⟩ := F
  refine enI (lv := [(0, .ref x), (1, .int f), (2, .int t), (3, .int k)]) (by decide) (Nat.le_of_ble_eq_true rfl) rfl (fun E D cy C Ci0 ret => ?_)
  refine g_iload_n C dX11_swap_0 rfl 1 rfl ?_
  refine g_callSI (b := 0) (ci := 0) (rest := []) C ms_X11_158 [.int f] (c_X11_isQuarter) rfl rfl (by decide) (Nat.le_of_ble_eq_true rfl) (by decide) dX11_swap_1 (fun r268 Q269 h270 => ?_)
  obtain ⟨rfl, h270⟩ := h270
  rcases h270 with ⟨rfl, h270⟩ | ⟨rfl, h270⟩
  · refine b_if_eq C 29 dX11_swap_4 (by decide) (fun h => absurd h (by decide)) (fun _ => ?_)
    refine g_iload_n C dX11_swap_7 rfl 2 rfl ?_
    refine g_callSI (b := 0) (ci := 0) (rest := []) C ms_X11_158 [.int t] (c_X11_isQuarter) rfl rfl (by decide) (Nat.le_of_ble_eq_true rfl) (by decide) dX11_swap_8 (fun r271 Q272 h273 => ?_)
    obtain ⟨rfl, h273⟩ := h273
    rcases h273 with ⟨rfl, h273⟩ | ⟨rfl, h273⟩
    · refine b_if_eq C 29 dX11_swap_11 (by decide) (fun h => absurd h (by decide)) (fun _ => ?_)
      refine g_iload_n C dX11_swap_14 rfl 1 rfl ?_
      refine g_iload_n C dX11_swap_15 rfl 2 rfl ?_
      refine b_icmp_eq C 29 dX11_swap_16 (by decide) (fun h274 => ?_) (fun h274 => ?_)
      · have h274 : f = t := h274
        refine g_iconst (v := (-1)) C dX11_swap_29 (by decide) ?_
        exact ret _ _ _ _ _ _ dX11_swap_30 rfl (by decide) (by decide) (Or.inr ⟨rfl, fun h9 => by first | omega | (obtain ⟨_, _, _, _, h8, _, _⟩ := h9; exact h8 (by assumption))⟩)
      · have h274 : ¬ f = t := h274
        refine g_iload_n C dX11_swap_19 rfl 3 rfl ?_
        refine b_if_lt C 29 dX11_swap_20 (by decide) (fun h275 => ?_) (fun h275 => ?_)
        · have h275 : k.toInt < 0 := h275
          refine g_iconst (v := (-1)) C dX11_swap_29 (by decide) ?_
          exact ret _ _ _ _ _ _ dX11_swap_30 rfl (by decide) (by decide) (Or.inr ⟨rfl, fun h9 => by first | omega | (obtain ⟨_, _, _, _, h8, _, _⟩ := h9; exact h8 (by assumption))⟩)
        · have h275 : 0 ≤ k.toInt := h275
          refine g_iload_n C dX11_swap_23 rfl 3 rfl ?_
          refine g_bipush (v := 40) C dX11_swap_24 (by decide) ?_
          refine b_icmp_le C 31 dX11_swap_26 (by decide) (fun h276 => ?_) (fun h276 => ?_)
          · have h276 : k.toInt ≤ 40 := h276
            refine g_aload_n C dX11_swap_31 rfl 0 rfl ?_
            obtain ⟨b277, h278⟩ := xFd.at (ok x hx) hxK 1 19 4 rfl
            refine g_getR C fi_X11_17 rfl h278.1 hx hxK dX11_swap_32 ?_
            refine g_iload_n C dX11_swap_35 rfl 1 rfl ?_
            obtain ⟨b279, h280⟩ := xAr.at (ok b277 h278.2.1) h278.2.2.1 (by decide) (f.toInt.toNat) (lt_n h278.2.2.2 (by omega))
            refine g_aldR C h278.2.1 h278.2.2.1 (by decide) (IX.intn (i := f) h278.2.2.2 (by omega) (by omega)) h280.1 dX11_swap_36 ?_
            refine g_astore (lv' := [(4, .ref b279), (0, .ref x), (1, .int f), (2, .int t), (3, .int k)]) C dX11_swap_37 (by decide) rfl ?_
            refine g_aload_n C dX11_swap_39 rfl 1 rfl ?_
            refine g_getR C fi_X11_17 rfl (h278.1) hx hxK dX11_swap_40 ?_
            refine g_iload_n C dX11_swap_43 rfl 3 rfl ?_
            obtain ⟨b281, h282⟩ := xAr.at (ok b277 h278.2.1) h278.2.2.1 (by decide) (t.toInt.toNat) (lt_n h278.2.2.2 (by omega))
            refine g_aldR C h278.2.1 h278.2.2.1 (by decide) (IX.intn (i := t) h278.2.2.2 (by omega) (by omega)) h282.1 dX11_swap_44 ?_
            refine g_astore (lv' := [(5, .ref b281), (4, .ref b279), (0, .ref x), (1, .int f), (2, .int t), (3, .int k)]) C dX11_swap_45 (by decide) rfl ?_
            refine g_iconst (v := 0) C dX11_swap_47 (by decide) ?_
            refine g_istore (lv' := [(6, .int 0), (5, .ref b281), (4, .ref b279), (0, .ref x), (1, .int f), (2, .int t), (3, .int k)]) C dX11_swap_48 (by decide) rfl ?_
            refine g_iconst (v := 0) C dX11_swap_50 (by decide) ?_
            refine g_istore (lv' := [(7, .int 0), (6, .int 0), (5, .ref b281), (4, .ref b279), (0, .ref x), (1, .int f), (2, .int t), (3, .int k)]) C dX11_swap_51 (by decide) rfl ?_
            refine g_iload C dX11_swap_53 0 rfl ?_
            refine g_aload C dX11_swap_55 3 rfl ?_
            refine g_getI C fi_X11_336 (by decide) h280.2.1 h280.2.2 dX11_swap_57 ?_
            rw [show pI P b279 1 = 0 from z6 b279 h280.2.1 h280.2.2]
            refine b_icmp_ge C 113 dX11_swap_60 (by decide) (fun _ => ?_) (fun h => absurd h (by decide))
            refine g_iload C dX11_swap_113 1 rfl ?_
            exact ret _ _ _ _ _ _ dX11_swap_115 rfl (by decide) (by decide) (Or.inl ⟨rfl, by refine ⟨?_, ?_, ?_, ?_, ?_, ?_, ?_⟩ <;> first | assumption | omega⟩)
          · have h276 : 40 < k.toInt := h276
            refine g_iconst (v := (-1)) C dX11_swap_29 (by decide) ?_
            exact ret _ _ _ _ _ _ dX11_swap_30 rfl (by decide) (by decide) (Or.inr ⟨rfl, fun h9 => by first | omega | (obtain ⟨_, _, _, _, h8, _, _⟩ := h9; exact h8 (by assumption))⟩)
    · refine b_if_eq C 29 dX11_swap_11 (by decide) (fun _ => ?_) (fun h => absurd h (by decide))
      refine g_iconst (v := (-1)) C dX11_swap_29 (by decide) ?_
      exact ret _ _ _ _ _ _ dX11_swap_30 rfl (by decide) (by decide) (Or.inr ⟨rfl, fun h9 => by first | omega | (obtain ⟨_, _, _, _, h8, _, _⟩ := h9; exact h8 (by assumption))⟩)
  · refine b_if_eq C 29 dX11_swap_4 (by decide) (fun _ => ?_) (fun h => absurd h (by decide))
    refine g_iconst (v := (-1)) C dX11_swap_29 (by decide) ?_
    exact ret _ _ _ _ _ _ dX11_swap_30 rfl (by decide) (by decide) (Or.inr ⟨rfl, fun h9 => by first | omega | (obtain ⟨_, _, _, _, h8, _, _⟩ := h9; exact h8 (by assumption))⟩)
theorem dX1_all_0 : decode cX1_all 0 = .ok (.aload_n 0, 1) := by decide +kernel
theorem dX1_all_1 : decode cX1_all 1 = .ok (.getfield 29, 3) := by decide +kernel
theorem dX1_all_4 : decode cX1_all 4 = .ok (.ifCond .eq 18, 3) := by decide +kernel
theorem dX1_all_22 : decode cX1_all 22 = .ok (.iconst 0, 1) := by decide +kernel
theorem dX1_all_23 : decode cX1_all 23 = .ok (.ireturn, 1) := by decide +kernel
set_option maxHeartbeats 4000000 in
set_option maxRecDepth 100000 in
theorem c_X1_all {P : PP} {a : Nat} (ha : a ∈ pL P) (haK : pK P a = 1) (z : pI P a 4 = 0) : CtrI yX1_all cX1_all 1 (some Jvm.ClassFile.FieldType.int) ({ frames := 1, cells := 0, slots := 0, locals := 64 } : Room) 0 0 P [.ref a] (fun r P2 => P = P2 ∧ r = 0) := by
  refine enI (lv := [(0, .ref a)]) (by decide) (Nat.le_of_ble_eq_true rfl) rfl (fun E D cy C Ci0 ret => ?_)
  refine g_aload_n C dX1_all_0 rfl 0 rfl ?_
  refine g_getI C fi_X1_29 (by decide) ha haK dX1_all_1 ?_
  rw [show pI P a 4 = 0 from z]
  refine b_if_eq C 22 dX1_all_4 (by decide) (fun _ => ?_) (fun h => absurd h (by decide))
  refine g_iconst (v := 0) C dX1_all_22 (by decide) ?_
  exact ret _ _ _ _ _ _ dX1_all_23 rfl (by decide) (by decide) (⟨rfl, rfl⟩)
theorem dX11_allHouses_0 : decode cX11_allHouses 0 = .ok (.iconst 0, 1) := by decide +kernel
theorem dX11_allHouses_1 : decode cX11_allHouses 1 = .ok (.istore_n 1, 1) := by decide +kernel
theorem dX11_allHouses_2 : decode cX11_allHouses 2 = .ok (.iconst 0, 1) := by decide +kernel
theorem dX11_allHouses_3 : decode cX11_allHouses 3 = .ok (.istore_n 2, 1) := by decide +kernel
theorem dX11_allHouses_4 : decode cX11_allHouses 4 = .ok (.iload_n 2, 1) := by decide +kernel
theorem dX11_allHouses_5 : decode cX11_allHouses 5 = .ok (.iconst 4, 1) := by decide +kernel
theorem dX11_allHouses_6 : decode cX11_allHouses 6 = .ok (.if_icmp .ge 18, 3) := by decide +kernel
theorem dX11_allHouses_9 : decode cX11_allHouses 9 = .ok (.iload_n 1, 1) := by decide +kernel
theorem dX11_allHouses_10 : decode cX11_allHouses 10 = .ok (.aload_n 0, 1) := by decide +kernel
theorem dX11_allHouses_11 : decode cX11_allHouses 11 = .ok (.getfield 32, 3) := by decide +kernel
theorem dX11_allHouses_14 : decode cX11_allHouses 14 = .ok (.iload_n 2, 1) := by decide +kernel
theorem dX11_allHouses_15 : decode cX11_allHouses 15 = .ok (.iaload, 1) := by decide +kernel
theorem dX11_allHouses_16 : decode cX11_allHouses 16 = .ok (.iadd, 1) := by decide +kernel
theorem dX11_allHouses_17 : decode cX11_allHouses 17 = .ok (.istore_n 1, 1) := by decide +kernel
theorem dX11_allHouses_18 : decode cX11_allHouses 18 = .ok (.iinc 2 1, 3) := by decide +kernel
theorem dX11_allHouses_21 : decode cX11_allHouses 21 = .ok (.goto (-17), 3) := by decide +kernel
theorem dX11_allHouses_24 : decode cX11_allHouses 24 = .ok (.iload_n 1, 1) := by decide +kernel
theorem dX11_allHouses_25 : decode cX11_allHouses 25 = .ok (.ireturn, 1) := by decide +kernel
set_option maxHeartbeats 4000000 in
set_option maxRecDepth 100000 in
theorem c_X11_allHouses {P : PP} {x : Nat} (F : FC P x) : CtrI yX11_allHouses cX11_allHouses 3 (some Jvm.ClassFile.FieldType.int) ({ frames := 1, cells := 0, slots := 0, locals := 64 } : Room) 0 0 P [.ref x] (fun r P2 => r = 4) := by
  obtain ⟨hx, hxK, ok, z1, z6, z9, zt, zh, zm⟩ := F
  refine enI (lv := [(0, .ref x)]) (by decide) (Nat.le_of_ble_eq_true rfl) rfl (fun E D cy C Ci0 ret => ?_)
  refine g_iconst (v := 0) C dX11_allHouses_0 (by decide) ?_
  refine g_istore_n (lv' := [(1, .int 0), (0, .ref x)]) C dX11_allHouses_1 rfl (by decide) rfl ?_
  refine g_iconst (v := 0) C dX11_allHouses_2 (by decide) ?_
  refine g_istore_n (lv' := [(2, .int 0), (1, .int 0), (0, .ref x)]) C dX11_allHouses_3 rfl (by decide) rfl ?_
  have lp288 : ∀ (n290 i283 : Nat), i283 + n290 = 4 → ∀ (I284 : Nat → Nat → Int32), (I284 = pI P) → G E ({ frames := 1, cells := 0, slots := 0, locals := 64 } : Room) D cy 3 (pWI P I284 (pJ P)) 0 0 4 [(2, .int (nI i283)), (1, .int (nI i283)), (0, .ref x)] [] := by
    intro n290
    induction n290 with
    | zero =>
      intro i283 hi285 I284 hv286
      have ei287 : (nI i283).toInt = (i283 : Int) := ti_nI (by omega)
      refine g_iload_n C dX11_allHouses_4 rfl 0 rfl ?_
      refine g_iconst (v := 4) C dX11_allHouses_5 (by decide) ?_
      refine b_icmp_ge C 24 dX11_allHouses_6 (by decide) (fun h291 => ?_) (fun h291 => ?_)
      · have h291 : 4 ≤ (nI i283).toInt := h291
        refine g_iload_n C dX11_allHouses_24 rfl 1 rfl ?_
        exact ret _ _ _ _ _ _ dX11_allHouses_25 rfl (by decide) (by decide) (by rw [show i283 = 4 by omega]; rfl)
      · have h291 : (nI i283).toInt < 4 := h291
        omega
    | succ n290 ih289 =>
      intro i283 hi285 I284 hv286
      have ei287 : (nI i283).toInt = (i283 : Int) := ti_nI (by omega)
      refine g_iload_n C dX11_allHouses_4 rfl 0 rfl ?_
      refine g_iconst (v := 4) C dX11_allHouses_5 (by decide) ?_
      refine b_icmp_ge C 24 dX11_allHouses_6 (by decide) (fun h292 => ?_) (fun h292 => ?_)
      · have h292 : 4 ≤ (nI i283).toInt := h292
        omega
      · have h292 : (nI i283).toInt < 4 := h292
        refine g_iload_n C dX11_allHouses_9 rfl 1 rfl ?_
        refine g_aload_n C dX11_allHouses_10 rfl 2 rfl ?_
        obtain ⟨b293, h294⟩ := xFd.at (ok x hx) hxK 5 13 4 rfl
        refine g_getR C fi_X11_32 rfl h294.1 hx hxK dX11_allHouses_11 ?_
        refine g_iload_n C dX11_allHouses_14 rfl 0 rfl ?_
        refine g_iald (j := i283) C h294.2.1 h294.2.2.1 (IX.inn h294.2.2.2 (by omega) (by decide)) dX11_allHouses_15 ?_
        rw [show pI (pWI P I284 (pJ P)) b293 i283 = 1 from by rw [show pI (pWI P I284 (pJ P)) b293 = pI P b293 from congrFun hv286 b293]; exact zh _ h294.1 _ (by omega)]
        refine g_iadd C dX11_allHouses_16 ?_
        rw [nI_1]
        refine g_istore_n (lv' := [(1, .int (nI (i283 + 1))), (2, .int (nI i283)), (0, .ref x)]) C dX11_allHouses_17 rfl (by decide) rfl ?_
        refine g_iinc (v := (nI (i283 + 1))) (lv' := [(2, .int (nI (i283 + 1))), (1, .int (nI (i283 + 1))), (0, .ref x)]) C dX11_allHouses_18 1 rfl (nI_1 _) (by decide) rfl ?_
        refine g_goto C 4 dX11_allHouses_21 (by decide) ?_
        exact ih289 (i283 + 1) (by omega) _ (hv286)
  exact lp288 4 0 rfl _ (rfl)
theorem dX11_count_0 : decode cX11_count 0 = .ok (.iload_n 1, 1) := by decide +kernel
theorem dX11_count_1 : decode cX11_count 1 = .ok (.invokestatic 158, 3) := by decide +kernel
theorem dX11_count_4 : decode cX11_count 4 = .ok (.ifCond .eq 13, 3) := by decide +kernel
theorem dX11_count_7 : decode cX11_count 7 = .ok (.aload_n 0, 1) := by decide +kernel
theorem dX11_count_8 : decode cX11_count 8 = .ok (.getfield 17, 3) := by decide +kernel
theorem dX11_count_11 : decode cX11_count 11 = .ok (.iload_n 1, 1) := by decide +kernel
theorem dX11_count_12 : decode cX11_count 12 = .ok (.aaload, 1) := by decide +kernel
theorem dX11_count_13 : decode cX11_count 13 = .ok (.getfield 336, 3) := by decide +kernel
theorem dX11_count_16 : decode cX11_count 16 = .ok (.ireturn, 1) := by decide +kernel
theorem dX11_count_17 : decode cX11_count 17 = .ok (.iload_n 1, 1) := by decide +kernel
theorem dX11_count_18 : decode cX11_count 18 = .ok (.tableswitch 75 4 8 #[34, 44, 54, 65, 70], 34) := by decide +kernel
theorem dX11_count_52 : decode cX11_count 52 = .ok (.aload_n 0, 1) := by decide +kernel
theorem dX11_count_53 : decode cX11_count 53 = .ok (.getfield 11, 3) := by decide +kernel
theorem dX11_count_56 : decode cX11_count 56 = .ok (.iconst 0, 1) := by decide +kernel
theorem dX11_count_57 : decode cX11_count 57 = .ok (.aaload, 1) := by decide +kernel
theorem dX11_count_58 : decode cX11_count 58 = .ok (.invokevirtual 233, 3) := by decide +kernel
theorem dX11_count_61 : decode cX11_count 61 = .ok (.ireturn, 1) := by decide +kernel
theorem dX11_count_62 : decode cX11_count 62 = .ok (.aload_n 0, 1) := by decide +kernel
theorem dX11_count_63 : decode cX11_count 63 = .ok (.getfield 11, 3) := by decide +kernel
theorem dX11_count_66 : decode cX11_count 66 = .ok (.iconst 1, 1) := by decide +kernel
theorem dX11_count_67 : decode cX11_count 67 = .ok (.aaload, 1) := by decide +kernel
theorem dX11_count_68 : decode cX11_count 68 = .ok (.invokevirtual 233, 3) := by decide +kernel
theorem dX11_count_71 : decode cX11_count 71 = .ok (.ireturn, 1) := by decide +kernel
theorem dX11_count_72 : decode cX11_count 72 = .ok (.aload_n 0, 1) := by decide +kernel
theorem dX11_count_73 : decode cX11_count 73 = .ok (.getfield 41, 3) := by decide +kernel
theorem dX11_count_76 : decode cX11_count 76 = .ok (.getfield 111, 3) := by decide +kernel
theorem dX11_count_79 : decode cX11_count 79 = .ok (.getfield 121, 3) := by decide +kernel
theorem dX11_count_82 : decode cX11_count 82 = .ok (.ireturn, 1) := by decide +kernel
theorem dX11_count_83 : decode cX11_count 83 = .ok (.aload_n 0, 1) := by decide +kernel
theorem dX11_count_84 : decode cX11_count 84 = .ok (.getfield 348, 3) := by decide +kernel
theorem dX11_count_87 : decode cX11_count 87 = .ok (.ireturn, 1) := by decide +kernel
theorem dX11_count_88 : decode cX11_count 88 = .ok (.aload_n 0, 1) := by decide +kernel
theorem dX11_count_89 : decode cX11_count 89 = .ok (.invokevirtual 330, 3) := by decide +kernel
theorem dX11_count_92 : decode cX11_count 92 = .ok (.ireturn, 1) := by decide +kernel
theorem dX11_count_93 : decode cX11_count 93 = .ok (.iconst (-1), 1) := by decide +kernel
theorem dX11_count_94 : decode cX11_count 94 = .ok (.ireturn, 1) := by decide +kernel
set_option maxHeartbeats 4000000 in
set_option maxRecDepth 100000 in
theorem c_X11_count {P : PP} {x : Nat} {w : Int32} (F : FC P x) : CtrI yX11_count cX11_count 2 (some Jvm.ClassFile.FieldType.int) ({ frames := 2, cells := 0, slots := 0, locals := 128 } : Room) 0 0 P [.ref x, .int w] (fun r _ => (0 ≤ w.toInt ∧ w.toInt ≤ 7 ∧ r = 0) ∨ (w.toInt = 8 ∧ r = 4) ∨ ((w.toInt < 0 ∨ 8 < w.toInt) ∧ r = -1)) := by
  obtain ⟨hx, hxK, ok, z1, z6, z9, zt, zh, zm⟩ := F
  refine enI (lv := [(0, .ref x), (1, .int w)]) (by decide) (Nat.le_of_ble_eq_true rfl) rfl (fun E D cy C Ci0 ret => ?_)
  refine g_iload_n C dX11_count_0 rfl 1 rfl ?_
  refine g_callSI (b := 0) (ci := 0) (rest := []) C ms_X11_158 [.int w] (c_X11_isQuarter) rfl rfl (by decide) (Nat.le_of_ble_eq_true rfl) (by decide) dX11_count_1 (fun r295 Q296 h297 => ?_)
  obtain ⟨rfl, h297⟩ := h297
  rcases h297 with ⟨rfl, h297⟩ | ⟨rfl, h297⟩
  · refine b_if_eq C 17 dX11_count_4 (by decide) (fun h => absurd h (by decide)) (fun _ => ?_)
    refine g_aload_n C dX11_count_7 rfl 0 rfl ?_
    obtain ⟨b298, h299⟩ := xFd.at (ok x hx) hxK 1 19 4 rfl
    refine g_getR C fi_X11_17 rfl h299.1 hx hxK dX11_count_8 ?_
    refine g_iload_n C dX11_count_11 rfl 1 rfl ?_
    obtain ⟨b300, h301⟩ := xAr.at (ok b298 h299.2.1) h299.2.2.1 (by decide) (w.toInt.toNat) (lt_n h299.2.2.2 (by omega))
    refine g_aldR C h299.2.1 h299.2.2.1 (by decide) (IX.intn (i := w) h299.2.2.2 (by omega) (by omega)) h301.1 dX11_count_12 ?_
    refine g_getI C fi_X11_336 (by decide) h301.2.1 h301.2.2 dX11_count_13 ?_
    rw [show pI P b300 1 = 0 from z6 b300 h301.2.1 h301.2.2]
    exact ret _ _ _ _ _ _ dX11_count_16 rfl (by decide) (by decide) (Or.inl ⟨by omega, by omega, rfl⟩)
  · refine b_if_eq C 17 dX11_count_4 (by decide) (fun _ => ?_) (fun h => absurd h (by decide))
    refine g_iload_n C dX11_count_17 rfl 1 rfl ?_
    by_cases h302 : w.toInt < 4 ∨ 8 < w.toInt
    · refine g_tableOut C 93 dX11_count_18 h302 (by decide) ?_
      refine g_iconst (v := (-1)) C dX11_count_93 (by decide) ?_
      exact ret _ _ _ _ _ _ dX11_count_94 rfl (by decide) (by decide) (Or.inr (Or.inr ⟨by omega, rfl⟩))
    · rcases (show w.toInt = 4 ∨ w.toInt = 5 ∨ w.toInt = 6 ∨ w.toInt = 7 ∨ w.toInt = 8 by omega) with h303 | h303 | h303 | h303 | h303
      · refine g_tableIn C 52 dX11_count_18 (by omega) (by omega) (by rw [h303]; rfl) (by decide) ?_
        refine g_aload_n C dX11_count_52 rfl 0 rfl ?_
        obtain ⟨b304, h305⟩ := xFd.at (ok x hx) hxK 0 17 2 rfl
        refine g_getR C fi_X11_11 rfl h305.1 hx hxK dX11_count_53 ?_
        refine g_iconst (v := 0) C dX11_count_56 (by decide) ?_
        obtain ⟨b306, h307⟩ := xAr.at (ok b304 h305.2.1) h305.2.2.1 (by decide) 0 (lt_n h305.2.2.2 (by omega))
        refine g_aldR C h305.2.1 h305.2.2.1 (by decide) (IX.litn (j := 0) h305.2.2.2 rfl (by decide) (by decide)) h307.1 dX11_count_57 ?_
        refine g_callVI (rest := []) C mv_X11_233 [] (c_X1_all h307.2.1 h307.2.2 (z1 _ h307.2.1 h307.2.2)) h307.2.1 h307.2.2 rfl rfl (by decide) (Nat.le_of_ble_eq_true rfl) (by decide) dX11_count_58 (fun r308 Q309 h310 => ?_)
        obtain ⟨rfl, rfl⟩ := h310
        exact ret _ _ _ _ _ _ dX11_count_61 rfl (by decide) (by decide) (Or.inl ⟨by omega, by omega, rfl⟩)
      · refine g_tableIn C 62 dX11_count_18 (by omega) (by omega) (by rw [h303]; rfl) (by decide) ?_
        refine g_aload_n C dX11_count_62 rfl 0 rfl ?_
        obtain ⟨b311, h312⟩ := xFd.at (ok x hx) hxK 0 17 2 rfl
        refine g_getR C fi_X11_11 rfl h312.1 hx hxK dX11_count_63 ?_
        refine g_iconst (v := 1) C dX11_count_66 (by decide) ?_
        obtain ⟨b313, h314⟩ := xAr.at (ok b311 h312.2.1) h312.2.2.1 (by decide) 1 (lt_n h312.2.2.2 (by omega))
        refine g_aldR C h312.2.1 h312.2.2.1 (by decide) (IX.litn (j := 1) h312.2.2.2 rfl (by decide) (by decide)) h314.1 dX11_count_67 ?_
        refine g_callVI (rest := []) C mv_X11_233 [] (c_X1_all h314.2.1 h314.2.2 (z1 _ h314.2.1 h314.2.2)) h314.2.1 h314.2.2 rfl rfl (by decide) (Nat.le_of_ble_eq_true rfl) (by decide) dX11_count_68 (fun r315 Q316 h317 => ?_)
        obtain ⟨rfl, rfl⟩ := h317
        exact ret _ _ _ _ _ _ dX11_count_71 rfl (by decide) (by decide) (Or.inl ⟨by omega, by omega, rfl⟩)
      · refine g_tableIn C 72 dX11_count_18 (by omega) (by omega) (by rw [h303]; rfl) (by decide) ?_
        refine g_aload_n C dX11_count_72 rfl 0 rfl ?_
        obtain ⟨b318, h319⟩ := xFd.at (ok x hx) hxK 7 4 0 rfl
        refine g_getR C fi_X11_41 rfl h319.1 hx hxK dX11_count_73 ?_
        obtain ⟨b320, h321⟩ := xFd.at (ok b318 h319.2.1) h319.2.2.1 0 9 0 rfl
        refine g_getR C fi_X11_111 rfl h321.1 h319.2.1 h319.2.2.1 dX11_count_76 ?_
        refine g_getI C fi_X11_121 (by decide) h321.2.1 h321.2.2.1 dX11_count_79 ?_
        rw [show pI P b320 1 = 0 from z9 b320 h321.2.1 h321.2.2.1]
        exact ret _ _ _ _ _ _ dX11_count_82 rfl (by decide) (by decide) (Or.inl ⟨by omega, by omega, rfl⟩)
      · refine g_tableIn C 83 dX11_count_18 (by omega) (by omega) (by rw [h303]; rfl) (by decide) ?_
        refine g_aload_n C dX11_count_83 rfl 0 rfl ?_
        refine g_getI C fi_X11_348 (by decide) hx hxK dX11_count_84 ?_
        rw [show pI P x 13 = 0 from zt]
        exact ret _ _ _ _ _ _ dX11_count_87 rfl (by decide) (by decide) (Or.inl ⟨by omega, by omega, rfl⟩)
      · refine g_tableIn C 88 dX11_count_18 (by omega) (by omega) (by rw [h303]; rfl) (by decide) ?_
        refine g_aload_n C dX11_count_88 rfl 0 rfl ?_
        refine g_callVI (rest := []) C mv_X11_330 [] (c_X11_allHouses ⟨hx, hxK, ok, z1, z6, z9, zt, zh, zm⟩) hx hxK rfl rfl (by decide) (Nat.le_of_ble_eq_true rfl) (by decide) dX11_count_89 (fun r322 Q323 h324 => ?_)
        subst h324
        exact ret _ _ _ _ _ _ dX11_count_92 rfl (by decide) (by decide) (Or.inr (Or.inl ⟨by omega, rfl⟩))
theorem dX11_mark_0 : decode cX11_mark 0 = .ok (.iload_n 1, 1) := by decide +kernel
theorem dX11_mark_1 : decode cX11_mark 1 = .ok (.ifCond .lt 21, 3) := by decide +kernel
theorem dX11_mark_4 : decode cX11_mark 4 = .ok (.iload_n 1, 1) := by decide +kernel
theorem dX11_mark_5 : decode cX11_mark 5 = .ok (.iconst 4, 1) := by decide +kernel
theorem dX11_mark_6 : decode cX11_mark 6 = .ok (.if_icmp .ge 16, 3) := by decide +kernel
theorem dX11_mark_9 : decode cX11_mark 9 = .ok (.iload_n 2, 1) := by decide +kernel
theorem dX11_mark_10 : decode cX11_mark 10 = .ok (.ifCond .eq 14, 3) := by decide +kernel
theorem dX11_mark_22 : decode cX11_mark 22 = .ok (.iconst 0, 1) := by decide +kernel
theorem dX11_mark_23 : decode cX11_mark 23 = .ok (.ireturn, 1) := by decide +kernel
theorem dX11_mark_24 : decode cX11_mark 24 = .ok (.iconst 0, 1) := by decide +kernel
theorem dX11_mark_25 : decode cX11_mark 25 = .ok (.istore_n 3, 1) := by decide +kernel
theorem dX11_mark_26 : decode cX11_mark 26 = .ok (.iload_n 3, 1) := by decide +kernel
theorem dX11_mark_27 : decode cX11_mark 27 = .ok (.iconst 4, 1) := by decide +kernel
theorem dX11_mark_28 : decode cX11_mark 28 = .ok (.if_icmp .ge 50, 3) := by decide +kernel
theorem dX11_mark_31 : decode cX11_mark 31 = .ok (.aload_n 0, 1) := by decide +kernel
theorem dX11_mark_32 : decode cX11_mark 32 = .ok (.getfield 21, 3) := by decide +kernel
theorem dX11_mark_35 : decode cX11_mark 35 = .ok (.iload_n 1, 1) := by decide +kernel
theorem dX11_mark_36 : decode cX11_mark 36 = .ok (.iconst 4, 1) := by decide +kernel
theorem dX11_mark_37 : decode cX11_mark 37 = .ok (.imul, 1) := by decide +kernel
theorem dX11_mark_38 : decode cX11_mark 38 = .ok (.iload_n 3, 1) := by decide +kernel
theorem dX11_mark_39 : decode cX11_mark 39 = .ok (.iadd, 1) := by decide +kernel
theorem dX11_mark_40 : decode cX11_mark 40 = .ok (.aaload, 1) := by decide +kernel
theorem dX11_mark_41 : decode cX11_mark 41 = .ok (.astore 4, 2) := by decide +kernel
theorem dX11_mark_43 : decode cX11_mark 43 = .ok (.iload_n 2, 1) := by decide +kernel
theorem dX11_mark_44 : decode cX11_mark 44 = .ok (.ifCond .eq 17, 3) := by decide +kernel
theorem dX11_mark_61 : decode cX11_mark 61 = .ok (.aload 4, 2) := by decide +kernel
theorem dX11_mark_63 : decode cX11_mark 63 = .ok (.aload_n 0, 1) := by decide +kernel
theorem dX11_mark_64 : decode cX11_mark 64 = .ok (.getfield 17, 3) := by decide +kernel
theorem dX11_mark_67 : decode cX11_mark 67 = .ok (.iload_n 3, 1) := by decide +kernel
theorem dX11_mark_68 : decode cX11_mark 68 = .ok (.aaload, 1) := by decide +kernel
theorem dX11_mark_69 : decode cX11_mark 69 = .ok (.invokevirtual 345, 3) := by decide +kernel
theorem dX11_mark_72 : decode cX11_mark 72 = .ok (.iinc 3 1, 3) := by decide +kernel
theorem dX11_mark_75 : decode cX11_mark 75 = .ok (.goto (-49), 3) := by decide +kernel
theorem dX11_mark_78 : decode cX11_mark 78 = .ok (.aload_n 0, 1) := by decide +kernel
theorem dX11_mark_79 : decode cX11_mark 79 = .ok (.getfield 24, 3) := by decide +kernel
theorem dX11_mark_82 : decode cX11_mark 82 = .ok (.iload_n 1, 1) := by decide +kernel
theorem dX11_mark_83 : decode cX11_mark 83 = .ok (.iconst 1, 1) := by decide +kernel
theorem dX11_mark_84 : decode cX11_mark 84 = .ok (.bastore, 1) := by decide +kernel
theorem dX11_mark_85 : decode cX11_mark 85 = .ok (.iconst 1, 1) := by decide +kernel
theorem dX11_mark_86 : decode cX11_mark 86 = .ok (.ireturn, 1) := by decide +kernel
set_option maxHeartbeats 4000000 in
set_option maxRecDepth 100000 in
theorem c_X11_mark0 {P : PP} {x : Nat} {b : Int32} (F : FC P x) : CtrI yX11_mark cX11_mark 5 (some Jvm.ClassFile.FieldType.boolean) ({ frames := 3, cells := 0, slots := 0, locals := 192 } : Room) 0 0 P [.ref x, .int b, .int 0] (fun r _ => (r = 1 ∧ (0 ≤ b.toInt ∧ b.toInt < 4)) ∨ (r = 0 ∧ ¬ (0 ≤ b.toInt ∧ b.toInt < 4))) := by
  obtain ⟨hx, hxK, ok, z1, z6, z9, zt, zh, zm⟩ := F
  refine enI (lv := [(0, .ref x), (1, .int b), (2, .int 0)]) (by decide) (Nat.le_of_ble_eq_true rfl) rfl (fun E D cy C Ci0 ret => ?_)
  refine g_iload_n C dX11_mark_0 rfl 1 rfl ?_
  refine b_if_lt C 22 dX11_mark_1 (by decide) (fun h325 => ?_) (fun h325 => ?_)
  · have h325 : b.toInt < 0 := h325
    refine g_iconst (v := 0) C dX11_mark_22 (by decide) ?_
    exact ret _ _ _ _ _ _ dX11_mark_23 rfl (by decide) (by decide) (Or.inr ⟨rfl, by first | omega | (intro h9; omega)⟩)
  · have h325 : 0 ≤ b.toInt := h325
    refine g_iload_n C dX11_mark_4 rfl 1 rfl ?_
    refine g_iconst (v := 4) C dX11_mark_5 (by decide) ?_
    refine b_icmp_ge C 22 dX11_mark_6 (by decide) (fun h326 => ?_) (fun h326 => ?_)
    · have h326 : 4 ≤ b.toInt := h326
      refine g_iconst (v := 0) C dX11_mark_22 (by decide) ?_
      exact ret _ _ _ _ _ _ dX11_mark_23 rfl (by decide) (by decide) (Or.inr ⟨rfl, by first | omega | (intro h9; omega)⟩)
    · have h326 : b.toInt < 4 := h326
      refine g_iload_n C dX11_mark_9 rfl 2 rfl ?_
      refine b_if_eq C 24 dX11_mark_10 (by decide) (fun _ => ?_) (fun h => absurd h (by decide))
      refine g_iconst (v := 0) C dX11_mark_24 (by decide) ?_
      refine g_istore_n (lv' := [(3, .int 0), (0, .ref x), (1, .int b), (2, .int 0)]) C dX11_mark_25 rfl (by decide) rfl ?_
      obtain ⟨j327, h328, rfl⟩ := ix_of (x := b) (n := 4) (by omega) (by omega) (by decide)
      have ej327 : (nI j327).toInt = (j327 : Int) := ti_nI (by omega)
      have lp334 : ∀ (n336 i329 : Nat), i329 + n336 = 4 → ∀ (I330 : Nat → Nat → Int32), (∀ b, b ∈ pL P → pK P b = 6 → I330 b 1 = 0) → G E ({ frames := 3, cells := 0, slots := 0, locals := 192 } : Room) D cy 5 (pWI P I330 (pJ P)) 0 0 26 [(3, .int (nI i329)), (0, .ref x), (1, .int (nI j327)), (2, .int 0)] [] := by
        intro n336
        induction n336 with
        | zero =>
          intro i329 hi331 I330 hv332
          have ei333 : (nI i329).toInt = (i329 : Int) := ti_nI (by omega)
          refine g_iload_n C dX11_mark_26 rfl 0 rfl ?_
          refine g_iconst (v := 4) C dX11_mark_27 (by decide) ?_
          refine b_icmp_ge C 78 dX11_mark_28 (by decide) (fun h337 => ?_) (fun h337 => ?_)
          · have h337 : 4 ≤ (nI i329).toInt := h337
            refine g_aload_n C dX11_mark_78 rfl 1 rfl ?_
            obtain ⟨b338, h339⟩ := xFd.at (ok x hx) hxK 3 15 4 rfl
            refine g_getR C fi_X11_24 rfl h339.1 hx hxK dX11_mark_79 ?_
            refine g_iload_n C dX11_mark_82 rfl 2 rfl ?_
            refine g_iconst (v := 1) C dX11_mark_83 (by decide) ?_
            refine g_zast (j := j327) C h339.2.1 h339.2.2.1 (IX.inn h339.2.2.2 (by omega) (by decide)) (Or.inr rfl) dX11_mark_84 ?_
            refine g_iconst (v := 1) C dX11_mark_85 (by decide) ?_
            exact ret _ _ _ _ _ _ dX11_mark_86 rfl (by decide) (by decide) (Or.inl ⟨rfl, by first | omega | (intro h9; omega)⟩)
          · have h337 : (nI i329).toInt < 4 := h337
            omega
        | succ n336 ih335 =>
          intro i329 hi331 I330 hv332
          have ei333 : (nI i329).toInt = (i329 : Int) := ti_nI (by omega)
          refine g_iload_n C dX11_mark_26 rfl 0 rfl ?_
          refine g_iconst (v := 4) C dX11_mark_27 (by decide) ?_
          refine b_icmp_ge C 78 dX11_mark_28 (by decide) (fun h340 => ?_) (fun h340 => ?_)
          · have h340 : 4 ≤ (nI i329).toInt := h340
            omega
          · have h340 : (nI i329).toInt < 4 := h340
            refine g_aload_n C dX11_mark_31 rfl 1 rfl ?_
            obtain ⟨b341, h342⟩ := xFd.at (ok x hx) hxK 2 19 16 rfl
            refine g_getR C fi_X11_21 rfl h342.1 hx hxK dX11_mark_32 ?_
            refine g_iload_n C dX11_mark_35 rfl 2 rfl ?_
            refine g_iconst (v := 4) C dX11_mark_36 (by decide) ?_
            refine g_imul C dX11_mark_37 ?_
            refine g_iload_n C dX11_mark_38 rfl 0 rfl ?_
            refine g_iadd C dX11_mark_39 ?_
            obtain ⟨b343, h344⟩ := xAr.at (ok b341 h342.2.1) h342.2.2.1 (by decide) (j327 * 4 + i329) (lt_n h342.2.2.2 (by omega))
            refine g_aldR C h342.2.1 h342.2.2.1 (by decide) (IX.litn (j := (j327 * 4 + i329)) h342.2.2.2 (ix_4 j327 i329) (by omega) (by decide)) h344.1 dX11_mark_40 ?_
            refine g_astore (lv' := [(4, .ref b343), (3, .int (nI i329)), (0, .ref x), (1, .int (nI j327)), (2, .int 0)]) C dX11_mark_41 (by decide) rfl ?_
            refine g_iload_n C dX11_mark_43 rfl 4 rfl ?_
            refine b_if_eq C 61 dX11_mark_44 (by decide) (fun _ => ?_) (fun h => absurd h (by decide))
            refine g_aload C dX11_mark_61 0 rfl ?_
            refine g_aload_n C dX11_mark_63 rfl 2 rfl ?_
            obtain ⟨b345, h346⟩ := xFd.at (ok x hx) hxK 1 19 4 rfl
            refine g_getR C fi_X11_17 rfl h346.1 hx hxK dX11_mark_64 ?_
            refine g_iload_n C dX11_mark_67 rfl 1 rfl ?_
            obtain ⟨b347, h348⟩ := xAr.at (ok b345 h346.2.1) h346.2.2.1 (by decide) i329 (lt_n h346.2.2.2 (by omega))
            refine g_aldR C h346.2.1 h346.2.2.1 (by decide) (IX.inn h346.2.2.2 (by omega) (by decide)) h348.1 dX11_mark_68 ?_
            refine g_callVV (rest := []) C mv_X11_345 [.ref b347] (c_X6_copy ok hv332 h344.2.1 h344.2.2 h348.2.1 h348.2.2) h344.2.1 h344.2.2 rfl rfl (by decide) (Nat.le_of_ble_eq_true rfl) (by decide) dX11_mark_69 (fun Q350 h351 => ?_)
            obtain ⟨I352, rfl, h351⟩ := h351
            refine g_iinc (v := (nI (i329 + 1))) (lv' := [(3, .int (nI (i329 + 1))), (4, .ref b343), (0, .ref x), (1, .int (nI j327)), (2, .int 0)]) C dX11_mark_72 1 rfl (nI_1 _) (by decide) rfl ?_
            refine g_goto C 26 dX11_mark_75 (by decide) ?_
            refine g_lv (lv' := [(3, .int (nI (i329 + 1))), (0, .ref x), (1, .int (nI j327)), (2, .int 0)]) [0, 2, 3, 4] rfl ?_
            exact ih335 (i329 + 1) (by omega) _ (h351)
      exact lp334 4 0 rfl _ (fun b hb hk => z6 b hb hk)
theorem dX11_mark_13 : decode cX11_mark 13 = .ok (.aload_n 0, 1) := by decide +kernel
theorem dX11_mark_14 : decode cX11_mark 14 = .ok (.getfield 24, 3) := by decide +kernel
theorem dX11_mark_17 : decode cX11_mark 17 = .ok (.iload_n 1, 1) := by decide +kernel
theorem dX11_mark_18 : decode cX11_mark 18 = .ok (.baload, 1) := by decide +kernel
theorem dX11_mark_19 : decode cX11_mark 19 = .ok (.ifCond .ne 5, 3) := by decide +kernel
set_option maxHeartbeats 4000000 in
set_option maxRecDepth 100000 in
theorem c_X11_mark1 {P : PP} {x : Nat} {b : Int32} (F : FC P x) : CtrI yX11_mark cX11_mark 5 (some Jvm.ClassFile.FieldType.boolean) ({ frames := 3, cells := 0, slots := 0, locals := 192 } : Room) 0 0 P [.ref x, .int b, .int 1] (fun r _ => r = 0) := by
  obtain ⟨hx, hxK, ok, z1, z6, z9, zt, zh, zm⟩ := F
  refine enI (lv := [(0, .ref x), (1, .int b), (2, .int 1)]) (by decide) (Nat.le_of_ble_eq_true rfl) rfl (fun E D cy C Ci0 ret => ?_)
  refine g_iload_n C dX11_mark_0 rfl 1 rfl ?_
  refine b_if_lt C 22 dX11_mark_1 (by decide) (fun h353 => ?_) (fun h353 => ?_)
  · have h353 : b.toInt < 0 := h353
    refine g_iconst (v := 0) C dX11_mark_22 (by decide) ?_
    exact ret _ _ _ _ _ _ dX11_mark_23 rfl (by decide) (by decide) (rfl)
  · have h353 : 0 ≤ b.toInt := h353
    refine g_iload_n C dX11_mark_4 rfl 1 rfl ?_
    refine g_iconst (v := 4) C dX11_mark_5 (by decide) ?_
    refine b_icmp_ge C 22 dX11_mark_6 (by decide) (fun h354 => ?_) (fun h354 => ?_)
    · have h354 : 4 ≤ b.toInt := h354
      refine g_iconst (v := 0) C dX11_mark_22 (by decide) ?_
      exact ret _ _ _ _ _ _ dX11_mark_23 rfl (by decide) (by decide) (rfl)
    · have h354 : b.toInt < 4 := h354
      refine g_iload_n C dX11_mark_9 rfl 2 rfl ?_
      refine b_if_eq C 24 dX11_mark_10 (by decide) (fun h => absurd h (by decide)) (fun _ => ?_)
      refine g_aload_n C dX11_mark_13 rfl 0 rfl ?_
      obtain ⟨b355, h356⟩ := xFd.at (ok x hx) hxK 3 15 4 rfl
      refine g_getR C fi_X11_24 rfl h356.1 hx hxK dX11_mark_14 ?_
      refine g_iload_n C dX11_mark_17 rfl 1 rfl ?_
      refine g_zald (j := (b.toInt.toNat)) C h356.2.1 h356.2.2.1 (IX.intn (i := b) h356.2.2.2 (by omega) (by omega)) dX11_mark_18 ?_
      rw [show pI P b355 ((b.toInt.toNat)) = 0 from zm _ h356.1 _ (by omega)]
      refine b_if_ne C 24 dX11_mark_19 (by decide) (fun h => absurd h (by decide)) (fun _ => ?_)
      refine g_iconst (v := 0) C dX11_mark_22 (by decide) ?_
      exact ret _ _ _ _ _ _ dX11_mark_23 rfl (by decide) (by decide) (rfl)
theorem dX7_init_0 : decode cX7_init 0 = .ok (.aload_n 0, 1) := by decide +kernel
theorem dX7_init_1 : decode cX7_init 1 = .ok (.invokespecial 3, 3) := by decide +kernel
theorem dX7_init_4 : decode cX7_init 4 = .ok (.aload_n 0, 1) := by decide +kernel
theorem dX7_init_5 : decode cX7_init 5 = .ok (.iload_n 1, 1) := by decide +kernel
theorem dX7_init_6 : decode cX7_init 6 = .ok (.putfield 9, 3) := by decide +kernel
theorem dX7_init_9 : decode cX7_init 9 = .ok (.aload_n 0, 1) := by decide +kernel
theorem dX7_init_10 : decode cX7_init 10 = .ok (.iload_n 2, 1) := by decide +kernel
theorem dX7_init_11 : decode cX7_init 11 = .ok (.putfield 15, 3) := by decide +kernel
theorem dX7_init_14 : decode cX7_init 14 = .ok (.aload_n 0, 1) := by decide +kernel
theorem dX7_init_15 : decode cX7_init 15 = .ok (.iload_n 3, 1) := by decide +kernel
theorem dX7_init_16 : decode cX7_init 16 = .ok (.putfield 18, 3) := by decide +kernel
theorem dX7_init_19 : decode cX7_init 19 = .ok (.aload_n 0, 1) := by decide +kernel
theorem dX7_init_20 : decode cX7_init 20 = .ok (.iload 4, 2) := by decide +kernel
theorem dX7_init_22 : decode cX7_init 22 = .ok (.putfield 21, 3) := by decide +kernel
theorem dX7_init_25 : decode cX7_init 25 = .ok (.aload_n 0, 1) := by decide +kernel
theorem dX7_init_26 : decode cX7_init 26 = .ok (.iload 5, 2) := by decide +kernel
theorem dX7_init_28 : decode cX7_init 28 = .ok (.putfield 24, 3) := by decide +kernel
theorem dX7_init_31 : decode cX7_init 31 = .ok (.aload_n 0, 1) := by decide +kernel
theorem dX7_init_32 : decode cX7_init 32 = .ok (.iload 6, 2) := by decide +kernel
theorem dX7_init_34 : decode cX7_init 34 = .ok (.putfield 27, 3) := by decide +kernel
theorem dX7_init_37 : decode cX7_init 37 = .ok (.aload_n 0, 1) := by decide +kernel
theorem dX7_init_38 : decode cX7_init 38 = .ok (.iload 7, 2) := by decide +kernel
theorem dX7_init_40 : decode cX7_init 40 = .ok (.putfield 30, 3) := by decide +kernel
theorem dX7_init_43 : decode cX7_init 43 = .ok (.return_, 1) := by decide +kernel
set_option maxHeartbeats 4000000 in
set_option maxRecDepth 100000 in
theorem c_X7_init {P : PP} {a : Nat} {p0 : Int32} {p1 : Int32} {p2 : Int32} {p3 : Int32} {p4 : Int32} {p5 : Int32} {p6 : Int32} (ha : a ∈ pL P) (haK : pK P a = 7) : CtrV yX7_init cX7_init 8 none ({ frames := 2, cells := 0, slots := 0, locals := 128 } : Room) 0 0 P [.ref a, .int p0, .int p1, .int p2, .int p3, .int p4, .int p5, .int p6] (fun P2 => ∃ I2, P2 = pWI P I2 (pJ P) ∧ I2 a 0 = p0 ∧ ∀ b, b ≠ a → I2 b = pI P b) := by
  refine enV (lv := [(0, .ref a), (1, .int p0), (2, .int p1), (3, .int p2), (4, .int p3), (5, .int p4), (6, .int p5), (7, .int p6)]) (by decide) (Nat.le_of_ble_eq_true rfl) rfl (fun E D cy C Ci0 ret => ?_)
  have Ci9 := Ci0 rfl
  refine g_aload_n C dX7_init_0 rfl 0 rfl ?_
  refine g_objInit C oi_X7_3 oi_inst oi_code (by decide) (by decide) (Nat.le_of_ble_eq_true rfl) dX7_init_1 ?_
  refine g_aload_n C dX7_init_4 rfl 0 rfl ?_
  refine g_iload_n C dX7_init_5 rfl 1 rfl ?_
  refine g_putFI C fi_X7_9 Ci9 ⟨_, rfl, rfl⟩ rfl ha haK dX7_init_6 ?_
  obtain ⟨I357, eI357⟩ : ∃ I9, I9 = va_up (pI P) a (va_up ((pI P) a) 0 p0) := ⟨_, rfl⟩
  rw [show (pSI P a 0 p0) = pWI P I357 (pJ P) by rw [eI357]; rfl]
  refine g_aload_n C dX7_init_9 rfl 0 rfl ?_
  refine g_iload_n C dX7_init_10 rfl 2 rfl ?_
  refine g_putFI C fi_X7_15 Ci9 ⟨_, rfl, rfl⟩ rfl ha haK dX7_init_11 ?_
  obtain ⟨I358, eI358⟩ : ∃ I9, I9 = va_up (I357) a (va_up ((I357) a) 1 p1) := ⟨_, rfl⟩
  rw [show (pSI (pWI P I357 (pJ P)) a 1 p1) = pWI P I358 (pJ P) by rw [eI358]; rfl]
  refine g_aload_n C dX7_init_14 rfl 0 rfl ?_
  refine g_iload_n C dX7_init_15 rfl 3 rfl ?_
  refine g_putFI C fi_X7_18 Ci9 ⟨_, rfl, rfl⟩ rfl ha haK dX7_init_16 ?_
  obtain ⟨I359, eI359⟩ : ∃ I9, I9 = va_up (I358) a (va_up ((I358) a) 2 p2) := ⟨_, rfl⟩
  rw [show (pSI (pWI P I358 (pJ P)) a 2 p2) = pWI P I359 (pJ P) by rw [eI359]; rfl]
  refine g_aload_n C dX7_init_19 rfl 0 rfl ?_
  refine g_iload C dX7_init_20 4 rfl ?_
  refine g_putFI C fi_X7_21 Ci9 ⟨_, rfl, rfl⟩ rfl ha haK dX7_init_22 ?_
  obtain ⟨I360, eI360⟩ : ∃ I9, I9 = va_up (I359) a (va_up ((I359) a) 3 p3) := ⟨_, rfl⟩
  rw [show (pSI (pWI P I359 (pJ P)) a 3 p3) = pWI P I360 (pJ P) by rw [eI360]; rfl]
  refine g_aload_n C dX7_init_25 rfl 0 rfl ?_
  refine g_iload C dX7_init_26 5 rfl ?_
  refine g_putFI C fi_X7_24 Ci9 ⟨_, rfl, rfl⟩ rfl ha haK dX7_init_28 ?_
  obtain ⟨I361, eI361⟩ : ∃ I9, I9 = va_up (I360) a (va_up ((I360) a) 4 p4) := ⟨_, rfl⟩
  rw [show (pSI (pWI P I360 (pJ P)) a 4 p4) = pWI P I361 (pJ P) by rw [eI361]; rfl]
  refine g_aload_n C dX7_init_31 rfl 0 rfl ?_
  refine g_iload C dX7_init_32 6 rfl ?_
  refine g_putFI C fi_X7_27 Ci9 ⟨_, rfl, rfl⟩ rfl ha haK dX7_init_34 ?_
  obtain ⟨I362, eI362⟩ : ∃ I9, I9 = va_up (I361) a (va_up ((I361) a) 5 p5) := ⟨_, rfl⟩
  rw [show (pSI (pWI P I361 (pJ P)) a 5 p5) = pWI P I362 (pJ P) by rw [eI362]; rfl]
  refine g_aload_n C dX7_init_37 rfl 0 rfl ?_
  refine g_iload C dX7_init_38 7 rfl ?_
  refine g_putFI C fi_X7_30 Ci9 ⟨_, rfl, rfl⟩ rfl ha haK dX7_init_40 ?_
  obtain ⟨I363, eI363⟩ : ∃ I9, I9 = va_up (I362) a (va_up ((I362) a) 6 p6) := ⟨_, rfl⟩
  rw [show (pSI (pWI P I362 (pJ P)) a 6 p6) = pWI P I363 (pJ P) by rw [eI363]; rfl]
  exact ret _ _ _ _ _ dX7_init_43 (by decide) (by decide) (⟨_, rfl, by simp [eI363, eI362, eI361, eI360, eI359, eI358, eI357, va_up], fun b hb => by simp [eI363, eI362, eI361, eI360, eI359, eI358, eI357, va_up, hb]⟩)
theorem dX6_unnamed_0 : decode cX6_unnamed 0 = .ok (.iconst 0, 1) := by decide +kernel
theorem dX6_unnamed_1 : decode cX6_unnamed 1 = .ok (.istore_n 1, 1) := by decide +kernel
theorem dX6_unnamed_2 : decode cX6_unnamed 2 = .ok (.iconst 0, 1) := by decide +kernel
theorem dX6_unnamed_3 : decode cX6_unnamed 3 = .ok (.istore_n 2, 1) := by decide +kernel
theorem dX6_unnamed_4 : decode cX6_unnamed 4 = .ok (.iload_n 2, 1) := by decide +kernel
theorem dX6_unnamed_5 : decode cX6_unnamed 5 = .ok (.aload_n 0, 1) := by decide +kernel
theorem dX6_unnamed_6 : decode cX6_unnamed 6 = .ok (.getfield 17, 3) := by decide +kernel
theorem dX6_unnamed_9 : decode cX6_unnamed 9 = .ok (.if_icmp .ge 31, 3) := by decide +kernel
theorem dX6_unnamed_40 : decode cX6_unnamed 40 = .ok (.iload_n 1, 1) := by decide +kernel
theorem dX6_unnamed_41 : decode cX6_unnamed 41 = .ok (.ireturn, 1) := by decide +kernel
set_option maxHeartbeats 4000000 in
set_option maxRecDepth 100000 in
theorem c_X6_unnamed {P : PP} {a : Nat} (ha : a ∈ pL P) (haK : pK P a = 6) (z : pI P a 1 = 0) : CtrI yX6_unnamed cX6_unnamed 4 (some Jvm.ClassFile.FieldType.int) ({ frames := 1, cells := 0, slots := 0, locals := 64 } : Room) 0 0 P [.ref a] (fun r P2 => P = P2 ∧ r = 0) := by
  refine enI (lv := [(0, .ref a)]) (by decide) (Nat.le_of_ble_eq_true rfl) rfl (fun E D cy C Ci0 ret => ?_)
  refine g_iconst (v := 0) C dX6_unnamed_0 (by decide) ?_
  refine g_istore_n (lv' := [(1, .int 0), (0, .ref a)]) C dX6_unnamed_1 rfl (by decide) rfl ?_
  refine g_iconst (v := 0) C dX6_unnamed_2 (by decide) ?_
  refine g_istore_n (lv' := [(2, .int 0), (1, .int 0), (0, .ref a)]) C dX6_unnamed_3 rfl (by decide) rfl ?_
  refine g_iload_n C dX6_unnamed_4 rfl 0 rfl ?_
  refine g_aload_n C dX6_unnamed_5 rfl 2 rfl ?_
  refine g_getI C fi_X6_17 (by decide) ha haK dX6_unnamed_6 ?_
  rw [show pI P a 1 = 0 from z]
  refine b_icmp_ge C 40 dX6_unnamed_9 (by decide) (fun _ => ?_) (fun h => absurd h (by decide))
  refine g_iload_n C dX6_unnamed_40 rfl 1 rfl ?_
  exact ret _ _ _ _ _ _ dX6_unnamed_41 rfl (by decide) (by decide) (⟨rfl, rfl⟩)
theorem dX6_put_0 : decode cX6_put 0 = .ok (.aload_n 0, 1) := by decide +kernel
theorem dX6_put_1 : decode cX6_put 1 = .ok (.getfield 17, 3) := by decide +kernel
theorem dX6_put_4 : decode cX6_put 4 = .ok (.bipush 40, 2) := by decide +kernel
theorem dX6_put_6 : decode cX6_put 6 = .ok (.if_icmp .ge 20, 3) := by decide +kernel
theorem dX6_put_9 : decode cX6_put 9 = .ok (.aload_n 1, 1) := by decide +kernel
theorem dX6_put_10 : decode cX6_put 10 = .ok (.getfield 21, 3) := by decide +kernel
theorem dX6_put_13 : decode cX6_put 13 = .ok (.iconst (-1), 1) := by decide +kernel
theorem dX6_put_14 : decode cX6_put 14 = .ok (.if_icmp .ne 14, 3) := by decide +kernel
theorem dX6_put_17 : decode cX6_put 17 = .ok (.aload_n 0, 1) := by decide +kernel
theorem dX6_put_18 : decode cX6_put 18 = .ok (.invokevirtual 24, 3) := by decide +kernel
theorem dX6_put_21 : decode cX6_put 21 = .ok (.bipush 6, 2) := by decide +kernel
theorem dX6_put_23 : decode cX6_put 23 = .ok (.if_icmp .lt 5, 3) := by decide +kernel
theorem dX6_put_28 : decode cX6_put 28 = .ok (.aload_n 0, 1) := by decide +kernel
theorem dX6_put_29 : decode cX6_put 29 = .ok (.getfield 11, 3) := by decide +kernel
theorem dX6_put_32 : decode cX6_put 32 = .ok (.aload_n 0, 1) := by decide +kernel
theorem dX6_put_33 : decode cX6_put 33 = .ok (.getfield 17, 3) := by decide +kernel
theorem dX6_put_36 : decode cX6_put 36 = .ok (.aload_n 1, 1) := by decide +kernel
theorem dX6_put_37 : decode cX6_put 37 = .ok (.aastore, 1) := by decide +kernel
theorem dX6_put_38 : decode cX6_put 38 = .ok (.aload_n 0, 1) := by decide +kernel
theorem dX6_put_39 : decode cX6_put 39 = .ok (.dup, 1) := by decide +kernel
theorem dX6_put_40 : decode cX6_put 40 = .ok (.getfield 17, 3) := by decide +kernel
theorem dX6_put_43 : decode cX6_put 43 = .ok (.iconst 1, 1) := by decide +kernel
theorem dX6_put_44 : decode cX6_put 44 = .ok (.iadd, 1) := by decide +kernel
theorem dX6_put_45 : decode cX6_put 45 = .ok (.putfield 17, 3) := by decide +kernel
theorem dX6_put_48 : decode cX6_put 48 = .ok (.aload_n 0, 1) := by decide +kernel
theorem dX6_put_49 : decode cX6_put 49 = .ok (.getfield 17, 3) := by decide +kernel
theorem dX6_put_52 : decode cX6_put 52 = .ok (.iconst 1, 1) := by decide +kernel
theorem dX6_put_53 : decode cX6_put 53 = .ok (.isub, 1) := by decide +kernel
theorem dX6_put_54 : decode cX6_put 54 = .ok (.ireturn, 1) := by decide +kernel
set_option maxHeartbeats 4000000 in
set_option maxRecDepth 100000 in
theorem c_X6_put {P : PP} {a : Nat} {v : Nat} (ha : a ∈ pL P) (haK : pK P a = 6) (oka : xOk P a) (z : pI P a 1 = 0) (hv : v ∈ pL P) (hvK : pK P v = 7) (hb : pI P v 0 = -1) : CtrI yX6_put cX6_put 2 (some Jvm.ClassFile.FieldType.int) ({ frames := 2, cells := 0, slots := 0, locals := 128 } : Room) 0 0 P [.ref a, .ref v] (fun r _ => r = 0) := by
  refine enI (lv := [(0, .ref a), (1, .ref v)]) (by decide) (Nat.le_of_ble_eq_true rfl) rfl (fun E D cy C Ci0 ret => ?_)
  refine g_aload_n C dX6_put_0 rfl 0 rfl ?_
  refine g_getI C fi_X6_17 (by decide) ha haK dX6_put_1 ?_
  rw [show pI P a 1 = 0 from z]
  refine g_bipush (v := 40) C dX6_put_4 (by decide) ?_
  refine b_icmp_ge C 26 dX6_put_6 (by decide) (fun h => absurd h (by decide)) (fun _ => ?_)
  refine g_aload_n C dX6_put_9 rfl 1 rfl ?_
  refine g_getI C fi_X6_21 (by decide) hv hvK dX6_put_10 ?_
  rw [show pI P v 0 = (-1) from hb]
  refine g_iconst (v := (-1)) C dX6_put_13 (by decide) ?_
  refine b_icmp_ne C 28 dX6_put_14 (by decide) (fun h => absurd h (by decide)) (fun _ => ?_)
  refine g_aload_n C dX6_put_17 rfl 0 rfl ?_
  refine g_callVI (rest := []) C mv_X6_24 [] (c_X6_unnamed ha haK z) ha haK rfl rfl (by decide) (Nat.le_of_ble_eq_true rfl) (by decide) dX6_put_18 (fun r364 Q365 h366 => ?_)
  obtain ⟨rfl, rfl⟩ := h366
  refine g_bipush (v := 6) C dX6_put_21 (by decide) ?_
  refine b_icmp_lt C 28 dX6_put_23 (by decide) (fun _ => ?_) (fun h => absurd h (by decide))
  refine g_aload_n C dX6_put_28 rfl 0 rfl ?_
  obtain ⟨b367, h368⟩ := xFd.at (oka) haK 0 20 40 rfl
  refine g_getR C fi_X6_11 rfl h368.1 ha haK dX6_put_29 ?_
  refine g_aload_n C dX6_put_32 rfl 0 rfl ?_
  refine g_getI C fi_X6_17 (by decide) ha haK dX6_put_33 ?_
  rw [show pI P a 1 = 0 from z]
  refine g_aload_n C dX6_put_36 rfl 1 rfl ?_
  refine g_astR (j := 0) C h368.2.1 h368.2.2.1 (by decide) (IX.litn (j := 0) h368.2.2.2 rfl (by decide) (by decide)) hv hvK (by decide) rfl rfl dX6_put_37 ?_
  refine g_aload_n C dX6_put_38 rfl 0 rfl ?_
  refine g_dup C dX6_put_39 rfl ?_
  refine g_getI C fi_X6_17 (by decide) ha haK dX6_put_40 ?_
  rw [show pI (pSR P b367 0 (some v)) a 1 = 0 from z]
  refine g_iconst (v := 1) C dX6_put_43 (by decide) ?_
  refine g_iadd C dX6_put_44 ?_
  rw [show ((0 : Int32) + 1) = 1 from rfl]
  refine g_putI C fi_X6_17 rfl ha haK dX6_put_45 ?_
  refine g_aload_n C dX6_put_48 rfl 0 rfl ?_
  refine g_getI C fi_X6_17 (by decide) ha haK dX6_put_49 ?_
  rw [show pI (pSI (pSR P b367 0 (some v)) a 1 1) a 1 = 1 from by simp [pSI, pI, va_up]]
  refine g_iconst (v := 1) C dX6_put_52 (by decide) ?_
  refine g_isub C dX6_put_53 ?_
  rw [show ((1 : Int32) - 1) = 0 from rfl]
  exact ret _ _ _ _ _ _ dX6_put_54 rfl (by decide) (by decide) (rfl)
theorem dX11_nameless_0 : decode cX11_nameless 0 = .ok (.iload_n 1, 1) := by decide +kernel
theorem dX11_nameless_1 : decode cX11_nameless 1 = .ok (.invokestatic 158, 3) := by decide +kernel
theorem dX11_nameless_4 : decode cX11_nameless 4 = .ok (.ifCond .eq 20, 3) := by decide +kernel
theorem dX11_nameless_7 : decode cX11_nameless 7 = .ok (.iload_n 2, 1) := by decide +kernel
theorem dX11_nameless_8 : decode cX11_nameless 8 = .ok (.invokestatic 173, 3) := by decide +kernel
theorem dX11_nameless_11 : decode cX11_nameless 11 = .ok (.ifCond .eq 13, 3) := by decide +kernel
theorem dX11_nameless_14 : decode cX11_nameless 14 = .ok (.iload_n 3, 1) := by decide +kernel
theorem dX11_nameless_15 : decode cX11_nameless 15 = .ok (.ifCond .lt 9, 3) := by decide +kernel
theorem dX11_nameless_18 : decode cX11_nameless 18 = .ok (.iload_n 3, 1) := by decide +kernel
theorem dX11_nameless_19 : decode cX11_nameless 19 = .ok (.ldc 104, 2) := by decide +kernel
theorem dX11_nameless_21 : decode cX11_nameless 21 = .ok (.if_icmp .le 5, 3) := by decide +kernel
theorem dX11_nameless_24 : decode cX11_nameless 24 = .ok (.iconst (-1), 1) := by decide +kernel
theorem dX11_nameless_25 : decode cX11_nameless 25 = .ok (.ireturn, 1) := by decide +kernel
theorem dX11_nameless_26 : decode cX11_nameless 26 = .ok (.aload_n 0, 1) := by decide +kernel
theorem dX11_nameless_27 : decode cX11_nameless 27 = .ok (.getfield 11, 3) := by decide +kernel
theorem dX11_nameless_30 : decode cX11_nameless 30 = .ok (.iconst 0, 1) := by decide +kernel
theorem dX11_nameless_31 : decode cX11_nameless 31 = .ok (.aaload, 1) := by decide +kernel
theorem dX11_nameless_32 : decode cX11_nameless 32 = .ok (.getfield 176, 3) := by decide +kernel
theorem dX11_nameless_35 : decode cX11_nameless 35 = .ok (.ifCond .eq 16, 3) := by decide +kernel
theorem dX11_nameless_51 : decode cX11_nameless 51 = .ok (.iconst 0, 1) := by decide +kernel
theorem dX11_nameless_52 : decode cX11_nameless 52 = .ok (.istore 4, 2) := by decide +kernel
theorem dX11_nameless_54 : decode cX11_nameless 54 = .ok (.aload_n 0, 1) := by decide +kernel
theorem dX11_nameless_55 : decode cX11_nameless 55 = .ok (.getfield 11, 3) := by decide +kernel
theorem dX11_nameless_58 : decode cX11_nameless 58 = .ok (.iconst 1, 1) := by decide +kernel
theorem dX11_nameless_59 : decode cX11_nameless 59 = .ok (.aaload, 1) := by decide +kernel
theorem dX11_nameless_60 : decode cX11_nameless 60 = .ok (.getfield 176, 3) := by decide +kernel
theorem dX11_nameless_63 : decode cX11_nameless 63 = .ok (.ifCond .eq 16, 3) := by decide +kernel
theorem dX11_nameless_79 : decode cX11_nameless 79 = .ok (.iconst 0, 1) := by decide +kernel
theorem dX11_nameless_80 : decode cX11_nameless 80 = .ok (.istore 5, 2) := by decide +kernel
theorem dX11_nameless_82 : decode cX11_nameless 82 = .ok (.aload_n 0, 1) := by decide +kernel
theorem dX11_nameless_83 : decode cX11_nameless 83 = .ok (.getfield 17, 3) := by decide +kernel
theorem dX11_nameless_86 : decode cX11_nameless 86 = .ok (.iload_n 1, 1) := by decide +kernel
theorem dX11_nameless_87 : decode cX11_nameless 87 = .ok (.aaload, 1) := by decide +kernel
theorem dX11_nameless_88 : decode cX11_nameless 88 = .ok (.new 180, 3) := by decide +kernel
theorem dX11_nameless_91 : decode cX11_nameless 91 = .ok (.dup, 1) := by decide +kernel
theorem dX11_nameless_92 : decode cX11_nameless 92 = .ok (.iconst (-1), 1) := by decide +kernel
theorem dX11_nameless_93 : decode cX11_nameless 93 = .ok (.iload_n 2, 1) := by decide +kernel
theorem dX11_nameless_94 : decode cX11_nameless 94 = .ok (.iload_n 3, 1) := by decide +kernel
theorem dX11_nameless_95 : decode cX11_nameless 95 = .ok (.iconst 3, 1) := by decide +kernel
theorem dX11_nameless_96 : decode cX11_nameless 96 = .ok (.iconst 0, 1) := by decide +kernel
theorem dX11_nameless_97 : decode cX11_nameless 97 = .ok (.iload 4, 2) := by decide +kernel
theorem dX11_nameless_99 : decode cX11_nameless 99 = .ok (.iload 5, 2) := by decide +kernel
theorem dX11_nameless_101 : decode cX11_nameless 101 = .ok (.invokespecial 182, 3) := by decide +kernel
theorem dX11_nameless_104 : decode cX11_nameless 104 = .ok (.invokevirtual 165, 3) := by decide +kernel
theorem dX11_nameless_107 : decode cX11_nameless 107 = .ok (.ireturn, 1) := by decide +kernel
set_option maxHeartbeats 4000000 in
set_option maxRecDepth 100000 in
theorem c_X11_nameless {P : PP} {x : Nat} {q : Int32} {n : Int32} {m : Int32} (F : FC P x) : CtrI yX11_nameless cX11_nameless 6 (some Jvm.ClassFile.FieldType.int) ({ frames := 4, cells := 1, slots := 7, locals := 256 } : Room) 1 7 P [.ref x, .int q, .int n, .int m] (fun r _ => (r = 0 ∧ (0 ≤ q.toInt ∧ q.toInt < 4 ∧ 0 ≤ n.toInt ∧ n.toInt ≤ 9999 ∧ 0 ≤ m.toInt ∧ m.toInt ≤ 65535)) ∨ (r = -1 ∧ ¬ (0 ≤ q.toInt ∧ q.toInt < 4 ∧ 0 ≤ n.toInt ∧ n.toInt ≤ 9999 ∧ 0 ≤ m.toInt ∧ m.toInt ≤ 65535))) := by
  obtain ⟨hx, hxK, ok, z1, z6, z9, zt, zh, zm⟩ := F
  refine enI (lv := [(0, .ref x), (1, .int q), (2, .int n), (3, .int m)]) (by decide) (Nat.le_of_ble_eq_true rfl) rfl (fun E D cy C Ci0 ret => ?_)
  refine g_iload_n C dX11_nameless_0 rfl 1 rfl ?_
  refine g_callSI (b := 0) (ci := 0) (rest := []) C ms_X11_158 [.int q] (c_X11_isQuarter) rfl rfl (by decide) (Nat.le_of_ble_eq_true rfl) (by decide) dX11_nameless_1 (fun r369 Q370 h371 => ?_)
  obtain ⟨rfl, h371⟩ := h371
  rcases h371 with ⟨rfl, h371⟩ | ⟨rfl, h371⟩
  · refine b_if_eq C 24 dX11_nameless_4 (by decide) (fun h => absurd h (by decide)) (fun _ => ?_)
    refine g_iload_n C dX11_nameless_7 rfl 2 rfl ?_
    refine g_callSI (b := 0) (ci := 0) (rest := []) C ms_X11_173 [.int n] (c_X11_isNumber) rfl rfl (by decide) (Nat.le_of_ble_eq_true rfl) (by decide) dX11_nameless_8 (fun r372 Q373 h374 => ?_)
    obtain ⟨rfl, h374⟩ := h374
    rcases h374 with ⟨rfl, h374⟩ | ⟨rfl, h374⟩
    · refine b_if_eq C 24 dX11_nameless_11 (by decide) (fun h => absurd h (by decide)) (fun _ => ?_)
      refine g_iload_n C dX11_nameless_14 rfl 3 rfl ?_
      refine b_if_lt C 24 dX11_nameless_15 (by decide) (fun h375 => ?_) (fun h375 => ?_)
      · have h375 : m.toInt < 0 := h375
        refine g_iconst (v := (-1)) C dX11_nameless_24 (by decide) ?_
        exact ret _ _ _ _ _ _ dX11_nameless_25 rfl (by decide) (by decide) (Or.inr ⟨rfl, by first | omega | (intro h9; omega)⟩)
      · have h375 : 0 ≤ m.toInt := h375
        refine g_iload_n C dX11_nameless_18 rfl 3 rfl ?_
        refine g_ldc (v := 65535) C kc_X11_104 dX11_nameless_19 ?_
        refine b_icmp_le C 26 dX11_nameless_21 (by decide) (fun h376 => ?_) (fun h376 => ?_)
        · have h376 : m.toInt ≤ 65535 := h376
          refine g_aload_n C dX11_nameless_26 rfl 0 rfl ?_
          obtain ⟨b377, h378⟩ := xFd.at (ok x hx) hxK 0 17 2 rfl
          refine g_getR C fi_X11_11 rfl h378.1 hx hxK dX11_nameless_27 ?_
          refine g_iconst (v := 0) C dX11_nameless_30 (by decide) ?_
          obtain ⟨b379, h380⟩ := xAr.at (ok b377 h378.2.1) h378.2.2.1 (by decide) 0 (lt_n h378.2.2.2 (by omega))
          refine g_aldR C h378.2.1 h378.2.2.1 (by decide) (IX.litn (j := 0) h378.2.2.2 rfl (by decide) (by decide)) h380.1 dX11_nameless_31 ?_
          refine g_getI C fi_X11_176 (by decide) h380.2.1 h380.2.2 dX11_nameless_32 ?_
          rw [show pI P b379 4 = 0 from z1 b379 h380.2.1 h380.2.2]
          refine b_if_eq C 51 dX11_nameless_35 (by decide) (fun _ => ?_) (fun h => absurd h (by decide))
          refine g_iconst (v := 0) C dX11_nameless_51 (by decide) ?_
          refine g_istore (lv' := [(4, .int 0), (0, .ref x), (1, .int q), (2, .int n), (3, .int m)]) C dX11_nameless_52 (by decide) rfl ?_
          refine g_aload_n C dX11_nameless_54 rfl 1 rfl ?_
          refine g_getR C fi_X11_11 rfl (h378.1) hx hxK dX11_nameless_55 ?_
          refine g_iconst (v := 1) C dX11_nameless_58 (by decide) ?_
          obtain ⟨b381, h382⟩ := xAr.at (ok b377 h378.2.1) h378.2.2.1 (by decide) 1 (lt_n h378.2.2.2 (by omega))
          refine g_aldR C h378.2.1 h378.2.2.1 (by decide) (IX.litn (j := 1) h378.2.2.2 rfl (by decide) (by decide)) h382.1 dX11_nameless_59 ?_
          refine g_getI C fi_X11_176 (by decide) h382.2.1 h382.2.2 dX11_nameless_60 ?_
          rw [show pI P b381 4 = 0 from z1 b381 h382.2.1 h382.2.2]
          refine b_if_eq C 79 dX11_nameless_63 (by decide) (fun _ => ?_) (fun h => absurd h (by decide))
          refine g_iconst (v := 0) C dX11_nameless_79 (by decide) ?_
          refine g_istore (lv' := [(5, .int 0), (4, .int 0), (0, .ref x), (1, .int q), (2, .int n), (3, .int m)]) C dX11_nameless_80 (by decide) rfl ?_
          refine g_aload_n C dX11_nameless_82 rfl 2 rfl ?_
          obtain ⟨b383, h384⟩ := xFd.at (ok x hx) hxK 1 19 4 rfl
          refine g_getR C fi_X11_17 rfl h384.1 hx hxK dX11_nameless_83 ?_
          refine g_iload_n C dX11_nameless_86 rfl 3 rfl ?_
          obtain ⟨b385, h386⟩ := xAr.at (ok b383 h384.2.1) h384.2.2.1 (by decide) (q.toInt.toNat) (lt_n h384.2.2.2 (by omega))
          refine g_aldR C h384.2.1 h384.2.2.1 (by decide) (IX.intn (i := q) h384.2.2.2 (by omega) (by omega)) h386.1 dX11_nameless_87 ?_
          refine g_new C ni_X11_180 (by decide) (by decide) dX11_nameless_88 (fun q387 h388 => ?_)
          have x389 : xExt [] P (pNw P q387 7 0) := xExt.new h388
          refine g_dup C dX11_nameless_91 rfl ?_
          refine g_iconst (v := (-1)) C dX11_nameless_92 (by decide) ?_
          refine g_iload_n C dX11_nameless_93 rfl 4 rfl ?_
          refine g_iload_n C dX11_nameless_94 rfl 5 rfl ?_
          refine g_iconst (v := 3) C dX11_nameless_95 (by decide) ?_
          refine g_iconst (v := 0) C dX11_nameless_96 (by decide) ?_
          refine g_iload C dX11_nameless_97 1 rfl ?_
          refine g_iload C dX11_nameless_99 0 rfl ?_
          refine g_callCV (ci := 0) (ret := none) (rest := [.ref q387, .ref b385]) C mi_X11_182 [.int (-1), .int n, .int m, .int 3, .int 0, .int 0, .int 0] (c_X7_init in_new K_new) rfl rfl (by decide) (Nat.le_of_ble_eq_true rfl) (by decide) dX11_nameless_101 (fun Q391 h392 => ?_)
          obtain ⟨I393, rfl, h392⟩ := h392
          refine g_callVI (rest := []) C mv_X11_165 [.ref q387] (c_X6_put (x389.1 _ h386.2.1).1 ((x389.1 _ h386.2.1).2.1.trans h386.2.2) (show xOk (pNw P q387 7 0) b385 from (ok _ h386.2.1).ext x389 h386.2.1 (x389.2 _ h386.2.1 List.not_mem_nil).2.1) (by show I393 b385 1 = 0; rw [h392.2 b385 (fun e9 => h388 (e9 ▸ h386.2.1)), (x389.2 _ h386.2.1 List.not_mem_nil).1]; exact z6 _ h386.2.1 h386.2.2) (in_new (P := P) (kd := 7) (n := 0)) (K_new (P := P) (kd := 7) (n := 0)) h392.1) (x389.1 _ h386.2.1).1 ((x389.1 _ h386.2.1).2.1.trans h386.2.2) rfl rfl (by decide) (Nat.le_of_ble_eq_true rfl) (by decide) dX11_nameless_104 (fun r394 Q395 h396 => ?_)
          subst h396
          exact ret _ _ _ _ _ _ dX11_nameless_107 rfl (by decide) (by decide) (Or.inl ⟨rfl, by first | omega | (intro h9; omega)⟩)
        · have h376 : 65535 < m.toInt := h376
          refine g_iconst (v := (-1)) C dX11_nameless_24 (by decide) ?_
          exact ret _ _ _ _ _ _ dX11_nameless_25 rfl (by decide) (by decide) (Or.inr ⟨rfl, by first | omega | (intro h9; omega)⟩)
    · refine b_if_eq C 24 dX11_nameless_11 (by decide) (fun _ => ?_) (fun h => absurd h (by decide))
      refine g_iconst (v := (-1)) C dX11_nameless_24 (by decide) ?_
      exact ret _ _ _ _ _ _ dX11_nameless_25 rfl (by decide) (by decide) (Or.inr ⟨rfl, by first | omega | (intro h9; omega)⟩)
  · refine b_if_eq C 24 dX11_nameless_4 (by decide) (fun _ => ?_) (fun h => absurd h (by decide))
    refine g_iconst (v := (-1)) C dX11_nameless_24 (by decide) ?_
    exact ret _ _ _ _ _ _ dX11_nameless_25 rfl (by decide) (by decide) (Or.inr ⟨rfl, by first | omega | (intro h9; omega)⟩)
end
section
def sgb (c : Int32) : Prop := c = 10 ∨ (32 ≤ c.toInt ∧ c.toInt ≤ 126)
noncomputable def stc (c : Int32) (n : Nat) : Nat := by
  classical
  exact if sgb c ∧ n < 1000 then n + 1 else n
theorem stc_yes {c : Int32} {n : Nat} (h : sgb c) (h2 : n < 1000) : stc c n = n + 1 := by simp [stc, h, h2]
theorem stc_no {c : Int32} {n : Nat} (h : sgb c → 1000 ≤ n) : stc c n = n := by
  unfold stc
  rw [if_neg (fun q => by have := h q.1; omega)]
theorem stc_le {c : Int32} {n : Nat} (h : n ≤ 1000) : stc c n ≤ 1000 := by
  unfold stc
  split
  · rename_i q; omega
  · exact h
noncomputable def cnt (f : Int32 → Int32) : Nat → Nat → Nat
  | 0, n => n
  | j + 1, n => cnt f j (stc (f (nI (8 * j))) n)
theorem cnt_le {f : Int32 → Int32} : ∀ (j : Nat) {n : Nat}, n ≤ 1000 → cnt f j n ≤ 1000
  | 0, _, h => h
  | j + 1, _, h => cnt_le j (stc_le h)
theorem cnt_congr {f g : Int32 → Int32} : ∀ (j : Nat) {n : Nat}, (∀ i, i < j → f (nI (8 * i)) = g (nI (8 * i))) → cnt f j n = cnt g j n
  | 0, _, _ => rfl
  | j + 1, _, h => by
    unfold cnt
    rw [h j (by omega)]
    exact cnt_congr j (fun i hi => h i (by omega))
def shf (j : Nat) : Int32 := nI (8 * j) + (-8)
theorem shf_s (j : Nat) : shf (j + 1) = nI (8 * j) := by
  unfold shf
  rw [show 8 * (j + 1) = 8 * j + 8 by omega, ← nI_add, Int32.add_assoc, show nI 8 + (-8) = 0 from rfl, Int32.add_zero]
def byU (v : Int64) (s : Int32) : Int32 := ((v.toUInt64 >>> (s.toInt64.toUInt64 &&& Int64.toUInt64 63)).toInt64).toInt32 &&& 255
def byS (v : Int64) (s : Int32) : Int32 := (v >>> (s.toInt64 &&& 63)).toInt32 &&& 255
theorem dX9_takeEight_0 : decode cX9_takeEight 0 = .ok (.bipush 56, 2) := by decide +kernel
theorem dX9_takeEight_2 : decode cX9_takeEight 2 = .ok (.istore_n 3, 1) := by decide +kernel
theorem dX9_takeEight_3 : decode cX9_takeEight 3 = .ok (.iload_n 3, 1) := by decide +kernel
theorem dX9_takeEight_4 : decode cX9_takeEight 4 = .ok (.ifCond .lt 71, 3) := by decide +kernel
theorem dX9_takeEight_7 : decode cX9_takeEight 7 = .ok (.lload_n 1, 1) := by decide +kernel
theorem dX9_takeEight_8 : decode cX9_takeEight 8 = .ok (.iload_n 3, 1) := by decide +kernel
theorem dX9_takeEight_9 : decode cX9_takeEight 9 = .ok (.lushr, 1) := by decide +kernel
theorem dX9_takeEight_10 : decode cX9_takeEight 10 = .ok (.l2i, 1) := by decide +kernel
theorem dX9_takeEight_11 : decode cX9_takeEight 11 = .ok (.sipush 255, 3) := by decide +kernel
theorem dX9_takeEight_14 : decode cX9_takeEight 14 = .ok (.iand, 1) := by decide +kernel
theorem dX9_takeEight_15 : decode cX9_takeEight 15 = .ok (.istore 4, 2) := by decide +kernel
theorem dX9_takeEight_17 : decode cX9_takeEight 17 = .ok (.iload 4, 2) := by decide +kernel
theorem dX9_takeEight_19 : decode cX9_takeEight 19 = .ok (.bipush 10, 2) := by decide +kernel
theorem dX9_takeEight_21 : decode cX9_takeEight 21 = .ok (.if_icmp .eq 17, 3) := by decide +kernel
theorem dX9_takeEight_24 : decode cX9_takeEight 24 = .ok (.iload 4, 2) := by decide +kernel
theorem dX9_takeEight_26 : decode cX9_takeEight 26 = .ok (.bipush 32, 2) := by decide +kernel
theorem dX9_takeEight_28 : decode cX9_takeEight 28 = .ok (.if_icmp .lt 41, 3) := by decide +kernel
theorem dX9_takeEight_31 : decode cX9_takeEight 31 = .ok (.iload 4, 2) := by decide +kernel
theorem dX9_takeEight_33 : decode cX9_takeEight 33 = .ok (.bipush 126, 2) := by decide +kernel
theorem dX9_takeEight_35 : decode cX9_takeEight 35 = .ok (.if_icmp .gt 34, 3) := by decide +kernel
theorem dX9_takeEight_38 : decode cX9_takeEight 38 = .ok (.aload_n 0, 1) := by decide +kernel
theorem dX9_takeEight_39 : decode cX9_takeEight 39 = .ok (.getfield 15, 3) := by decide +kernel
theorem dX9_takeEight_42 : decode cX9_takeEight 42 = .ok (.sipush 1000, 3) := by decide +kernel
theorem dX9_takeEight_45 : decode cX9_takeEight 45 = .ok (.if_icmp .ge 24, 3) := by decide +kernel
theorem dX9_takeEight_48 : decode cX9_takeEight 48 = .ok (.aload_n 0, 1) := by decide +kernel
theorem dX9_takeEight_49 : decode cX9_takeEight 49 = .ok (.getfield 9, 3) := by decide +kernel
theorem dX9_takeEight_52 : decode cX9_takeEight 52 = .ok (.aload_n 0, 1) := by decide +kernel
theorem dX9_takeEight_53 : decode cX9_takeEight 53 = .ok (.getfield 15, 3) := by decide +kernel
theorem dX9_takeEight_56 : decode cX9_takeEight 56 = .ok (.iload 4, 2) := by decide +kernel
theorem dX9_takeEight_58 : decode cX9_takeEight 58 = .ok (.iastore, 1) := by decide +kernel
theorem dX9_takeEight_59 : decode cX9_takeEight 59 = .ok (.aload_n 0, 1) := by decide +kernel
theorem dX9_takeEight_60 : decode cX9_takeEight 60 = .ok (.dup, 1) := by decide +kernel
theorem dX9_takeEight_61 : decode cX9_takeEight 61 = .ok (.getfield 15, 3) := by decide +kernel
theorem dX9_takeEight_64 : decode cX9_takeEight 64 = .ok (.iconst 1, 1) := by decide +kernel
theorem dX9_takeEight_65 : decode cX9_takeEight 65 = .ok (.iadd, 1) := by decide +kernel
theorem dX9_takeEight_66 : decode cX9_takeEight 66 = .ok (.putfield 15, 3) := by decide +kernel
theorem dX9_takeEight_69 : decode cX9_takeEight 69 = .ok (.iinc 3 (-8), 3) := by decide +kernel
theorem dX9_takeEight_72 : decode cX9_takeEight 72 = .ok (.goto (-69), 3) := by decide +kernel
theorem dX9_takeEight_75 : decode cX9_takeEight 75 = .ok (.return_, 1) := by decide +kernel
set_option maxHeartbeats 4000000 in
set_option maxRecDepth 100000 in
theorem c_X9_takeEight {P : PP} {a n : Nat} {v : Int64} (ha : a ∈ pL P) (haK : pK P a = 9) (oka : xOk P a) (hn : n ≤ 1000) (hz : pI P a 1 = nI n) : CtrV yX9_takeEight cX9_takeEight 5 none ({ frames := 1, cells := 0, slots := 0, locals := 64 } : Room) 0 0 P [.ref a, .long v] (fun P2 => ∃ I2, P2 = pWI P I2 (pJ P) ∧ I2 a 1 = nI (cnt (byU v) 8 n)) := by
  refine enV (lv := [(0, .ref a), (1, .long v)]) (by decide) (Nat.le_of_ble_eq_true rfl) rfl (fun E D cy C Ci0 ret => ?_)
  refine g_bipush (v := 56) C dX9_takeEight_0 (by decide) ?_
  refine g_istore_n (lv' := [(3, .int 56), (0, .ref a), (1, .long v)]) C dX9_takeEight_2 rfl (by decide) rfl ?_
  obtain ⟨ar, har⟩ := xFd.at oka haK 0 13 1000 rfl
  have hne : a ≠ ar := fun e => by have h1 := har.2.2.1; rw [← e, haK] at h1; omega
  have lp : ∀ (j n1 : Nat) (I2 : Nat → Nat → Int32), j ≤ 8 → n1 ≤ 1000 → I2 a 1 = nI n1 → cnt (byU v) j n1 = cnt (byU v) 8 n → G E ({ frames := 1, cells := 0, slots := 0, locals := 64 } : Room) D cy 5 (pWI P I2 (pJ P)) 0 0 3 [(3, .int (shf j)), (0, .ref a), (1, .long v)] [] := by
    intro j
    induction j with
    | zero =>
      intro n1 I2 hj h1 h2 h3
      have es : (shf 0).toInt = -8 := by decide
      refine g_iload_n C dX9_takeEight_3 rfl 0 rfl ?_
      refine b_if_lt C 75 dX9_takeEight_4 (by decide) (fun h522 => ?_) (fun h522 => ?_)
      · have h522 : (shf 0).toInt < 0 := h522
        exact ret _ _ _ _ _ dX9_takeEight_75 (by decide) (by decide) (⟨_, rfl, h2.trans (congrArg nI h3)⟩)
      · have h522 : 0 ≤ (shf 0).toInt := h522
        omega
    | succ j ih =>
      intro n1 I2 hj h1 h2 h3
      rw [shf_s]
      have es : (nI (8 * j)).toInt = ((8 * j : Nat) : Int) := ti_nI (by omega)
      have en : (nI n1).toInt = (n1 : Int) := ti_nI (by omega)
      refine g_iload_n C dX9_takeEight_3 rfl 0 rfl ?_
      refine b_if_lt C 75 dX9_takeEight_4 (by decide) (fun h523 => ?_) (fun h523 => ?_)
      · have h523 : (nI (8 * j)).toInt < 0 := h523
        omega
      · have h523 : 0 ≤ (nI (8 * j)).toInt := h523
        refine g_lload_n C dX9_takeEight_7 rfl 2 rfl ?_
        refine g_iload_n C dX9_takeEight_8 rfl 0 rfl ?_
        obtain ⟨x524, ex524⟩ : ∃ z : Int64, z = (Int64.toUInt64 v >>> ((Int32.toInt64 (nI (8 * j))).toUInt64 &&& Int64.toUInt64 63)).toInt64 := ⟨_, rfl⟩
        refine g_lushr (v := x524) C dX9_takeEight_9 ex524.symm ?_
        refine g_l2i (v := Int64.toInt32 x524) C dX9_takeEight_10 rfl ?_
        refine g_sipush (v := 255) C dX9_takeEight_11 (by decide) ?_
        refine g_iand C dX9_takeEight_14 ?_
        refine g_topi (fun x525 ex525 => ?_)
        refine g_istore (lv' := [(4, .int x525), (3, .int (nI (8 * j))), (0, .ref a), (1, .long v)]) C dX9_takeEight_15 (by decide) rfl ?_
        have hc : x525 = byU v (nI (8 * j)) := by rw [ex525, ex524]; rfl
        refine g_iload C dX9_takeEight_17 0 rfl ?_
        refine g_bipush (v := 10) C dX9_takeEight_19 (by decide) ?_
        refine b_icmp_eq C 38 dX9_takeEight_21 (by decide) (fun h526 => ?_) (fun h526 => ?_)
        · have h526 : x525 = 10 := h526
          refine g_aload_n C dX9_takeEight_38 rfl 2 rfl ?_
          refine g_getI C fi_X9_15 (by decide) ha haK dX9_takeEight_39 ?_
          rw [show pI (pWI P I2 (pJ P)) a 1 = (nI n1) from h2]
          refine g_sipush (v := 1000) C dX9_takeEight_42 (by decide) ?_
          refine b_icmp_ge C 69 dX9_takeEight_45 (by decide) (fun h527 => ?_) (fun h527 => ?_)
          · have h527 : 1000 ≤ (nI n1).toInt := h527
            refine g_iinc (v := shf j) (lv' := [(3, .int (shf j)), (4, .int x525), (0, .ref a), (1, .long v)]) C dX9_takeEight_69 1 rfl rfl (by decide) rfl ?_
            refine g_goto C 3 dX9_takeEight_72 (by decide) ?_
            refine g_lv (lv' := [(3, .int (shf j)), (0, .ref a), (1, .long v)]) [0, 2, 3] rfl ?_
            exact ih n1 I2 (by omega) (by omega) h2 (by rw [← h3]; show cnt (byU v) j _ = cnt (byU v) j (stc (byU v (nI (8 * j))) n1); rw [← hc, stc_no (fun h9 => by rcases h9 with h8 | h8 <;> first | exact absurd h8 (by assumption) | omega)])
          · have h527 : (nI n1).toInt < 1000 := h527
            refine g_aload_n C dX9_takeEight_48 rfl 2 rfl ?_
            refine g_getR C fi_X9_9 rfl (har.1) ha haK dX9_takeEight_49 ?_
            refine g_aload_n C dX9_takeEight_52 rfl 2 rfl ?_
            refine g_getI C fi_X9_15 (by decide) ha haK dX9_takeEight_53 ?_
            rw [show pI (pWI P I2 (pJ P)) a 1 = (nI n1) from h2]
            refine g_iload C dX9_takeEight_56 0 rfl ?_
            refine g_iast (j := n1) C har.2.1 har.2.2.1 (IX.inn har.2.2.2 (by omega) (by decide)) dX9_takeEight_58 ?_
            obtain ⟨I528, eI528⟩ : ∃ I9, I9 = va_up I2 ar (va_up (I2 ar) n1 x525) := ⟨_, rfl⟩
            rw [show (pSI (pWI P I2 (pJ P)) ar n1 x525) = pWI P I528 (pJ P) by rw [eI528]; rfl]
            have h529 : I528 a 1 = nI n1 := by rw [eI528, up_ne hne]; exact h2
            refine g_aload_n C dX9_takeEight_59 rfl 2 rfl ?_
            refine g_dup C dX9_takeEight_60 rfl ?_
            refine g_getI C fi_X9_15 (by decide) ha haK dX9_takeEight_61 ?_
            rw [show pI (pWI P I528 (pJ P)) a 1 = (nI n1) from h529]
            refine g_iconst (v := 1) C dX9_takeEight_64 (by decide) ?_
            refine g_iadd C dX9_takeEight_65 ?_
            rw [nI_1]
            refine g_putI C fi_X9_15 rfl ha haK dX9_takeEight_66 ?_
            obtain ⟨I530, eI530⟩ : ∃ I9, I9 = va_up I528 a (va_up (I528 a) 1 (nI (n1 + 1))) := ⟨_, rfl⟩
            rw [show (pSI (pWI P I528 (pJ P)) a 1 (nI (n1 + 1))) = pWI P I530 (pJ P) by rw [eI530]; rfl]
            have h531 : I530 a 1 = nI (n1 + 1) := by rw [eI530, up_self, up_self]
            refine g_iinc (v := shf j) (lv' := [(3, .int (shf j)), (4, .int x525), (0, .ref a), (1, .long v)]) C dX9_takeEight_69 1 rfl rfl (by decide) rfl ?_
            refine g_goto C 3 dX9_takeEight_72 (by decide) ?_
            refine g_lv (lv' := [(3, .int (shf j)), (0, .ref a), (1, .long v)]) [0, 2, 3] rfl ?_
            exact ih (n1 + 1) I530 (by omega) (by omega) h531 (by rw [← h3]; show cnt (byU v) j _ = cnt (byU v) j (stc (byU v (nI (8 * j))) n1); rw [← hc, stc_yes (by first | (exact Or.inl (by assumption)) | (exact Or.inr ⟨by omega, by omega⟩)) (by omega)])
        · have h526 : ¬ x525 = 10 := h526
          refine g_iload C dX9_takeEight_24 0 rfl ?_
          refine g_bipush (v := 32) C dX9_takeEight_26 (by decide) ?_
          refine b_icmp_lt C 69 dX9_takeEight_28 (by decide) (fun h532 => ?_) (fun h532 => ?_)
          · have h532 : x525.toInt < 32 := h532
            refine g_iinc (v := shf j) (lv' := [(3, .int (shf j)), (4, .int x525), (0, .ref a), (1, .long v)]) C dX9_takeEight_69 1 rfl rfl (by decide) rfl ?_
            refine g_goto C 3 dX9_takeEight_72 (by decide) ?_
            refine g_lv (lv' := [(3, .int (shf j)), (0, .ref a), (1, .long v)]) [0, 2, 3] rfl ?_
            exact ih n1 I2 (by omega) (by omega) h2 (by rw [← h3]; show cnt (byU v) j _ = cnt (byU v) j (stc (byU v (nI (8 * j))) n1); rw [← hc, stc_no (fun h9 => by rcases h9 with h8 | h8 <;> first | exact absurd h8 (by assumption) | omega)])
          · have h532 : 32 ≤ x525.toInt := h532
            refine g_iload C dX9_takeEight_31 0 rfl ?_
            refine g_bipush (v := 126) C dX9_takeEight_33 (by decide) ?_
            refine b_icmp_gt C 69 dX9_takeEight_35 (by decide) (fun h533 => ?_) (fun h533 => ?_)
            · have h533 : 126 < x525.toInt := h533
              refine g_iinc (v := shf j) (lv' := [(3, .int (shf j)), (4, .int x525), (0, .ref a), (1, .long v)]) C dX9_takeEight_69 1 rfl rfl (by decide) rfl ?_
              refine g_goto C 3 dX9_takeEight_72 (by decide) ?_
              refine g_lv (lv' := [(3, .int (shf j)), (0, .ref a), (1, .long v)]) [0, 2, 3] rfl ?_
              exact ih n1 I2 (by omega) (by omega) h2 (by rw [← h3]; show cnt (byU v) j _ = cnt (byU v) j (stc (byU v (nI (8 * j))) n1); rw [← hc, stc_no (fun h9 => by rcases h9 with h8 | h8 <;> first | exact absurd h8 (by assumption) | omega)])
            · have h533 : x525.toInt ≤ 126 := h533
              refine g_aload_n C dX9_takeEight_38 rfl 2 rfl ?_
              refine g_getI C fi_X9_15 (by decide) ha haK dX9_takeEight_39 ?_
              rw [show pI (pWI P I2 (pJ P)) a 1 = (nI n1) from h2]
              refine g_sipush (v := 1000) C dX9_takeEight_42 (by decide) ?_
              refine b_icmp_ge C 69 dX9_takeEight_45 (by decide) (fun h534 => ?_) (fun h534 => ?_)
              · have h534 : 1000 ≤ (nI n1).toInt := h534
                refine g_iinc (v := shf j) (lv' := [(3, .int (shf j)), (4, .int x525), (0, .ref a), (1, .long v)]) C dX9_takeEight_69 1 rfl rfl (by decide) rfl ?_
                refine g_goto C 3 dX9_takeEight_72 (by decide) ?_
                refine g_lv (lv' := [(3, .int (shf j)), (0, .ref a), (1, .long v)]) [0, 2, 3] rfl ?_
                exact ih n1 I2 (by omega) (by omega) h2 (by rw [← h3]; show cnt (byU v) j _ = cnt (byU v) j (stc (byU v (nI (8 * j))) n1); rw [← hc, stc_no (fun h9 => by rcases h9 with h8 | h8 <;> first | exact absurd h8 (by assumption) | omega)])
              · have h534 : (nI n1).toInt < 1000 := h534
                refine g_aload_n C dX9_takeEight_48 rfl 2 rfl ?_
                refine g_getR C fi_X9_9 rfl (har.1) ha haK dX9_takeEight_49 ?_
                refine g_aload_n C dX9_takeEight_52 rfl 2 rfl ?_
                refine g_getI C fi_X9_15 (by decide) ha haK dX9_takeEight_53 ?_
                rw [show pI (pWI P I2 (pJ P)) a 1 = (nI n1) from h2]
                refine g_iload C dX9_takeEight_56 0 rfl ?_
                refine g_iast (j := n1) C har.2.1 har.2.2.1 (IX.inn har.2.2.2 (by omega) (by decide)) dX9_takeEight_58 ?_
                obtain ⟨I535, eI535⟩ : ∃ I9, I9 = va_up I2 ar (va_up (I2 ar) n1 x525) := ⟨_, rfl⟩
                rw [show (pSI (pWI P I2 (pJ P)) ar n1 x525) = pWI P I535 (pJ P) by rw [eI535]; rfl]
                have h536 : I535 a 1 = nI n1 := by rw [eI535, up_ne hne]; exact h2
                refine g_aload_n C dX9_takeEight_59 rfl 2 rfl ?_
                refine g_dup C dX9_takeEight_60 rfl ?_
                refine g_getI C fi_X9_15 (by decide) ha haK dX9_takeEight_61 ?_
                rw [show pI (pWI P I535 (pJ P)) a 1 = (nI n1) from h536]
                refine g_iconst (v := 1) C dX9_takeEight_64 (by decide) ?_
                refine g_iadd C dX9_takeEight_65 ?_
                rw [nI_1]
                refine g_putI C fi_X9_15 rfl ha haK dX9_takeEight_66 ?_
                obtain ⟨I537, eI537⟩ : ∃ I9, I9 = va_up I535 a (va_up (I535 a) 1 (nI (n1 + 1))) := ⟨_, rfl⟩
                rw [show (pSI (pWI P I535 (pJ P)) a 1 (nI (n1 + 1))) = pWI P I537 (pJ P) by rw [eI537]; rfl]
                have h538 : I537 a 1 = nI (n1 + 1) := by rw [eI537, up_self, up_self]
                refine g_iinc (v := shf j) (lv' := [(3, .int (shf j)), (4, .int x525), (0, .ref a), (1, .long v)]) C dX9_takeEight_69 1 rfl rfl (by decide) rfl ?_
                refine g_goto C 3 dX9_takeEight_72 (by decide) ?_
                refine g_lv (lv' := [(3, .int (shf j)), (0, .ref a), (1, .long v)]) [0, 2, 3] rfl ?_
                exact ih (n1 + 1) I537 (by omega) (by omega) h538 (by rw [← h3]; show cnt (byU v) j _ = cnt (byU v) j (stc (byU v (nI (8 * j))) n1); rw [← hc, stc_yes (by first | (exact Or.inl (by assumption)) | (exact Or.inr ⟨by omega, by omega⟩)) (by omega)])
  exact lp 8 n _ (by omega) hn hz rfl
theorem dX12_lay_0 : decode cX12_lay 0 = .ok (.bipush 56, 2) := by decide +kernel
theorem dX12_lay_2 : decode cX12_lay 2 = .ok (.istore_n 3, 1) := by decide +kernel
theorem dX12_lay_3 : decode cX12_lay 3 = .ok (.iload_n 3, 1) := by decide +kernel
theorem dX12_lay_4 : decode cX12_lay 4 = .ok (.ifCond .lt 71, 3) := by decide +kernel
theorem dX12_lay_7 : decode cX12_lay 7 = .ok (.lload_n 1, 1) := by decide +kernel
theorem dX12_lay_8 : decode cX12_lay 8 = .ok (.iload_n 3, 1) := by decide +kernel
theorem dX12_lay_9 : decode cX12_lay 9 = .ok (.lshr, 1) := by decide +kernel
theorem dX12_lay_10 : decode cX12_lay 10 = .ok (.l2i, 1) := by decide +kernel
theorem dX12_lay_11 : decode cX12_lay 11 = .ok (.sipush 255, 3) := by decide +kernel
theorem dX12_lay_14 : decode cX12_lay 14 = .ok (.iand, 1) := by decide +kernel
theorem dX12_lay_15 : decode cX12_lay 15 = .ok (.istore 4, 2) := by decide +kernel
theorem dX12_lay_17 : decode cX12_lay 17 = .ok (.iload 4, 2) := by decide +kernel
theorem dX12_lay_19 : decode cX12_lay 19 = .ok (.bipush 10, 2) := by decide +kernel
theorem dX12_lay_21 : decode cX12_lay 21 = .ok (.if_icmp .eq 17, 3) := by decide +kernel
theorem dX12_lay_24 : decode cX12_lay 24 = .ok (.iload 4, 2) := by decide +kernel
theorem dX12_lay_26 : decode cX12_lay 26 = .ok (.bipush 32, 2) := by decide +kernel
theorem dX12_lay_28 : decode cX12_lay 28 = .ok (.if_icmp .lt 41, 3) := by decide +kernel
theorem dX12_lay_31 : decode cX12_lay 31 = .ok (.iload 4, 2) := by decide +kernel
theorem dX12_lay_33 : decode cX12_lay 33 = .ok (.bipush 126, 2) := by decide +kernel
theorem dX12_lay_35 : decode cX12_lay 35 = .ok (.if_icmp .gt 34, 3) := by decide +kernel
theorem dX12_lay_38 : decode cX12_lay 38 = .ok (.aload_n 0, 1) := by decide +kernel
theorem dX12_lay_39 : decode cX12_lay 39 = .ok (.getfield 11, 3) := by decide +kernel
theorem dX12_lay_42 : decode cX12_lay 42 = .ok (.sipush 1000, 3) := by decide +kernel
theorem dX12_lay_45 : decode cX12_lay 45 = .ok (.if_icmp .ge 24, 3) := by decide +kernel
theorem dX12_lay_48 : decode cX12_lay 48 = .ok (.aload_n 0, 1) := by decide +kernel
theorem dX12_lay_49 : decode cX12_lay 49 = .ok (.getfield 14, 3) := by decide +kernel
theorem dX12_lay_52 : decode cX12_lay 52 = .ok (.aload_n 0, 1) := by decide +kernel
theorem dX12_lay_53 : decode cX12_lay 53 = .ok (.getfield 11, 3) := by decide +kernel
theorem dX12_lay_56 : decode cX12_lay 56 = .ok (.iload 4, 2) := by decide +kernel
theorem dX12_lay_58 : decode cX12_lay 58 = .ok (.iastore, 1) := by decide +kernel
theorem dX12_lay_59 : decode cX12_lay 59 = .ok (.aload_n 0, 1) := by decide +kernel
theorem dX12_lay_60 : decode cX12_lay 60 = .ok (.dup, 1) := by decide +kernel
theorem dX12_lay_61 : decode cX12_lay 61 = .ok (.getfield 11, 3) := by decide +kernel
theorem dX12_lay_64 : decode cX12_lay 64 = .ok (.iconst 1, 1) := by decide +kernel
theorem dX12_lay_65 : decode cX12_lay 65 = .ok (.iadd, 1) := by decide +kernel
theorem dX12_lay_66 : decode cX12_lay 66 = .ok (.putfield 11, 3) := by decide +kernel
theorem dX12_lay_69 : decode cX12_lay 69 = .ok (.iinc 3 (-8), 3) := by decide +kernel
theorem dX12_lay_72 : decode cX12_lay 72 = .ok (.goto (-69), 3) := by decide +kernel
theorem dX12_lay_75 : decode cX12_lay 75 = .ok (.return_, 1) := by decide +kernel
set_option maxHeartbeats 4000000 in
set_option maxRecDepth 100000 in
theorem c_X12_lay {P : PP} {a n : Nat} {v : Int64} (ha : a ∈ pL P) (haK : pK P a = 12) (oka : xOk P a) (hn : n ≤ 1000) (hz : pI P a 2 = nI n) : CtrV yX12_lay cX12_lay 5 none ({ frames := 1, cells := 0, slots := 0, locals := 64 } : Room) 0 0 P [.ref a, .long v] (fun P2 => ∃ I2, P2 = pWI P I2 (pJ P) ∧ I2 a 2 = nI (cnt (byS v) 8 n)) := by
  refine enV (lv := [(0, .ref a), (1, .long v)]) (by decide) (Nat.le_of_ble_eq_true rfl) rfl (fun E D cy C Ci0 ret => ?_)
  refine g_bipush (v := 56) C dX12_lay_0 (by decide) ?_
  refine g_istore_n (lv' := [(3, .int 56), (0, .ref a), (1, .long v)]) C dX12_lay_2 rfl (by decide) rfl ?_
  obtain ⟨ar, har⟩ := xFd.at oka haK 1 13 1000 rfl
  have hne : a ≠ ar := fun e => by have h1 := har.2.2.1; rw [← e, haK] at h1; omega
  have lp : ∀ (j n1 : Nat) (I2 : Nat → Nat → Int32), j ≤ 8 → n1 ≤ 1000 → I2 a 2 = nI n1 → cnt (byS v) j n1 = cnt (byS v) 8 n → G E ({ frames := 1, cells := 0, slots := 0, locals := 64 } : Room) D cy 5 (pWI P I2 (pJ P)) 0 0 3 [(3, .int (shf j)), (0, .ref a), (1, .long v)] [] := by
    intro j
    induction j with
    | zero =>
      intro n1 I2 hj h1 h2 h3
      have es : (shf 0).toInt = -8 := by decide
      refine g_iload_n C dX12_lay_3 rfl 0 rfl ?_
      refine b_if_lt C 75 dX12_lay_4 (by decide) (fun h539 => ?_) (fun h539 => ?_)
      · have h539 : (shf 0).toInt < 0 := h539
        exact ret _ _ _ _ _ dX12_lay_75 (by decide) (by decide) (⟨_, rfl, h2.trans (congrArg nI h3)⟩)
      · have h539 : 0 ≤ (shf 0).toInt := h539
        omega
    | succ j ih =>
      intro n1 I2 hj h1 h2 h3
      rw [shf_s]
      have es : (nI (8 * j)).toInt = ((8 * j : Nat) : Int) := ti_nI (by omega)
      have en : (nI n1).toInt = (n1 : Int) := ti_nI (by omega)
      refine g_iload_n C dX12_lay_3 rfl 0 rfl ?_
      refine b_if_lt C 75 dX12_lay_4 (by decide) (fun h540 => ?_) (fun h540 => ?_)
      · have h540 : (nI (8 * j)).toInt < 0 := h540
        omega
      · have h540 : 0 ≤ (nI (8 * j)).toInt := h540
        refine g_lload_n C dX12_lay_7 rfl 2 rfl ?_
        refine g_iload_n C dX12_lay_8 rfl 0 rfl ?_
        obtain ⟨x541, ex541⟩ : ∃ z : Int64, z = v >>> (Int32.toInt64 (nI (8 * j)) &&& 63) := ⟨_, rfl⟩
        refine g_lshr (v := x541) C dX12_lay_9 ex541.symm ?_
        refine g_l2i (v := Int64.toInt32 x541) C dX12_lay_10 rfl ?_
        refine g_sipush (v := 255) C dX12_lay_11 (by decide) ?_
        refine g_iand C dX12_lay_14 ?_
        refine g_topi (fun x542 ex542 => ?_)
        refine g_istore (lv' := [(4, .int x542), (3, .int (nI (8 * j))), (0, .ref a), (1, .long v)]) C dX12_lay_15 (by decide) rfl ?_
        have hc : x542 = byS v (nI (8 * j)) := by rw [ex542, ex541]; rfl
        refine g_iload C dX12_lay_17 0 rfl ?_
        refine g_bipush (v := 10) C dX12_lay_19 (by decide) ?_
        refine b_icmp_eq C 38 dX12_lay_21 (by decide) (fun h543 => ?_) (fun h543 => ?_)
        · have h543 : x542 = 10 := h543
          refine g_aload_n C dX12_lay_38 rfl 2 rfl ?_
          refine g_getI C fi_X12_11 (by decide) ha haK dX12_lay_39 ?_
          rw [show pI (pWI P I2 (pJ P)) a 2 = (nI n1) from h2]
          refine g_sipush (v := 1000) C dX12_lay_42 (by decide) ?_
          refine b_icmp_ge C 69 dX12_lay_45 (by decide) (fun h544 => ?_) (fun h544 => ?_)
          · have h544 : 1000 ≤ (nI n1).toInt := h544
            refine g_iinc (v := shf j) (lv' := [(3, .int (shf j)), (4, .int x542), (0, .ref a), (1, .long v)]) C dX12_lay_69 1 rfl rfl (by decide) rfl ?_
            refine g_goto C 3 dX12_lay_72 (by decide) ?_
            refine g_lv (lv' := [(3, .int (shf j)), (0, .ref a), (1, .long v)]) [0, 2, 3] rfl ?_
            exact ih n1 I2 (by omega) (by omega) h2 (by rw [← h3]; show cnt (byS v) j _ = cnt (byS v) j (stc (byS v (nI (8 * j))) n1); rw [← hc, stc_no (fun h9 => by rcases h9 with h8 | h8 <;> first | exact absurd h8 (by assumption) | omega)])
          · have h544 : (nI n1).toInt < 1000 := h544
            refine g_aload_n C dX12_lay_48 rfl 2 rfl ?_
            refine g_getR C fi_X12_14 rfl (har.1) ha haK dX12_lay_49 ?_
            refine g_aload_n C dX12_lay_52 rfl 2 rfl ?_
            refine g_getI C fi_X12_11 (by decide) ha haK dX12_lay_53 ?_
            rw [show pI (pWI P I2 (pJ P)) a 2 = (nI n1) from h2]
            refine g_iload C dX12_lay_56 0 rfl ?_
            refine g_iast (j := n1) C har.2.1 har.2.2.1 (IX.inn har.2.2.2 (by omega) (by decide)) dX12_lay_58 ?_
            obtain ⟨I545, eI545⟩ : ∃ I9, I9 = va_up I2 ar (va_up (I2 ar) n1 x542) := ⟨_, rfl⟩
            rw [show (pSI (pWI P I2 (pJ P)) ar n1 x542) = pWI P I545 (pJ P) by rw [eI545]; rfl]
            have h546 : I545 a 2 = nI n1 := by rw [eI545, up_ne hne]; exact h2
            refine g_aload_n C dX12_lay_59 rfl 2 rfl ?_
            refine g_dup C dX12_lay_60 rfl ?_
            refine g_getI C fi_X12_11 (by decide) ha haK dX12_lay_61 ?_
            rw [show pI (pWI P I545 (pJ P)) a 2 = (nI n1) from h546]
            refine g_iconst (v := 1) C dX12_lay_64 (by decide) ?_
            refine g_iadd C dX12_lay_65 ?_
            rw [nI_1]
            refine g_putI C fi_X12_11 rfl ha haK dX12_lay_66 ?_
            obtain ⟨I547, eI547⟩ : ∃ I9, I9 = va_up I545 a (va_up (I545 a) 2 (nI (n1 + 1))) := ⟨_, rfl⟩
            rw [show (pSI (pWI P I545 (pJ P)) a 2 (nI (n1 + 1))) = pWI P I547 (pJ P) by rw [eI547]; rfl]
            have h548 : I547 a 2 = nI (n1 + 1) := by rw [eI547, up_self, up_self]
            refine g_iinc (v := shf j) (lv' := [(3, .int (shf j)), (4, .int x542), (0, .ref a), (1, .long v)]) C dX12_lay_69 1 rfl rfl (by decide) rfl ?_
            refine g_goto C 3 dX12_lay_72 (by decide) ?_
            refine g_lv (lv' := [(3, .int (shf j)), (0, .ref a), (1, .long v)]) [0, 2, 3] rfl ?_
            exact ih (n1 + 1) I547 (by omega) (by omega) h548 (by rw [← h3]; show cnt (byS v) j _ = cnt (byS v) j (stc (byS v (nI (8 * j))) n1); rw [← hc, stc_yes (by first | (exact Or.inl (by assumption)) | (exact Or.inr ⟨by omega, by omega⟩)) (by omega)])
        · have h543 : ¬ x542 = 10 := h543
          refine g_iload C dX12_lay_24 0 rfl ?_
          refine g_bipush (v := 32) C dX12_lay_26 (by decide) ?_
          refine b_icmp_lt C 69 dX12_lay_28 (by decide) (fun h549 => ?_) (fun h549 => ?_)
          · have h549 : x542.toInt < 32 := h549
            refine g_iinc (v := shf j) (lv' := [(3, .int (shf j)), (4, .int x542), (0, .ref a), (1, .long v)]) C dX12_lay_69 1 rfl rfl (by decide) rfl ?_
            refine g_goto C 3 dX12_lay_72 (by decide) ?_
            refine g_lv (lv' := [(3, .int (shf j)), (0, .ref a), (1, .long v)]) [0, 2, 3] rfl ?_
            exact ih n1 I2 (by omega) (by omega) h2 (by rw [← h3]; show cnt (byS v) j _ = cnt (byS v) j (stc (byS v (nI (8 * j))) n1); rw [← hc, stc_no (fun h9 => by rcases h9 with h8 | h8 <;> first | exact absurd h8 (by assumption) | omega)])
          · have h549 : 32 ≤ x542.toInt := h549
            refine g_iload C dX12_lay_31 0 rfl ?_
            refine g_bipush (v := 126) C dX12_lay_33 (by decide) ?_
            refine b_icmp_gt C 69 dX12_lay_35 (by decide) (fun h550 => ?_) (fun h550 => ?_)
            · have h550 : 126 < x542.toInt := h550
              refine g_iinc (v := shf j) (lv' := [(3, .int (shf j)), (4, .int x542), (0, .ref a), (1, .long v)]) C dX12_lay_69 1 rfl rfl (by decide) rfl ?_
              refine g_goto C 3 dX12_lay_72 (by decide) ?_
              refine g_lv (lv' := [(3, .int (shf j)), (0, .ref a), (1, .long v)]) [0, 2, 3] rfl ?_
              exact ih n1 I2 (by omega) (by omega) h2 (by rw [← h3]; show cnt (byS v) j _ = cnt (byS v) j (stc (byS v (nI (8 * j))) n1); rw [← hc, stc_no (fun h9 => by rcases h9 with h8 | h8 <;> first | exact absurd h8 (by assumption) | omega)])
            · have h550 : x542.toInt ≤ 126 := h550
              refine g_aload_n C dX12_lay_38 rfl 2 rfl ?_
              refine g_getI C fi_X12_11 (by decide) ha haK dX12_lay_39 ?_
              rw [show pI (pWI P I2 (pJ P)) a 2 = (nI n1) from h2]
              refine g_sipush (v := 1000) C dX12_lay_42 (by decide) ?_
              refine b_icmp_ge C 69 dX12_lay_45 (by decide) (fun h551 => ?_) (fun h551 => ?_)
              · have h551 : 1000 ≤ (nI n1).toInt := h551
                refine g_iinc (v := shf j) (lv' := [(3, .int (shf j)), (4, .int x542), (0, .ref a), (1, .long v)]) C dX12_lay_69 1 rfl rfl (by decide) rfl ?_
                refine g_goto C 3 dX12_lay_72 (by decide) ?_
                refine g_lv (lv' := [(3, .int (shf j)), (0, .ref a), (1, .long v)]) [0, 2, 3] rfl ?_
                exact ih n1 I2 (by omega) (by omega) h2 (by rw [← h3]; show cnt (byS v) j _ = cnt (byS v) j (stc (byS v (nI (8 * j))) n1); rw [← hc, stc_no (fun h9 => by rcases h9 with h8 | h8 <;> first | exact absurd h8 (by assumption) | omega)])
              · have h551 : (nI n1).toInt < 1000 := h551
                refine g_aload_n C dX12_lay_48 rfl 2 rfl ?_
                refine g_getR C fi_X12_14 rfl (har.1) ha haK dX12_lay_49 ?_
                refine g_aload_n C dX12_lay_52 rfl 2 rfl ?_
                refine g_getI C fi_X12_11 (by decide) ha haK dX12_lay_53 ?_
                rw [show pI (pWI P I2 (pJ P)) a 2 = (nI n1) from h2]
                refine g_iload C dX12_lay_56 0 rfl ?_
                refine g_iast (j := n1) C har.2.1 har.2.2.1 (IX.inn har.2.2.2 (by omega) (by decide)) dX12_lay_58 ?_
                obtain ⟨I552, eI552⟩ : ∃ I9, I9 = va_up I2 ar (va_up (I2 ar) n1 x542) := ⟨_, rfl⟩
                rw [show (pSI (pWI P I2 (pJ P)) ar n1 x542) = pWI P I552 (pJ P) by rw [eI552]; rfl]
                have h553 : I552 a 2 = nI n1 := by rw [eI552, up_ne hne]; exact h2
                refine g_aload_n C dX12_lay_59 rfl 2 rfl ?_
                refine g_dup C dX12_lay_60 rfl ?_
                refine g_getI C fi_X12_11 (by decide) ha haK dX12_lay_61 ?_
                rw [show pI (pWI P I552 (pJ P)) a 2 = (nI n1) from h553]
                refine g_iconst (v := 1) C dX12_lay_64 (by decide) ?_
                refine g_iadd C dX12_lay_65 ?_
                rw [nI_1]
                refine g_putI C fi_X12_11 rfl ha haK dX12_lay_66 ?_
                obtain ⟨I554, eI554⟩ : ∃ I9, I9 = va_up I552 a (va_up (I552 a) 2 (nI (n1 + 1))) := ⟨_, rfl⟩
                rw [show (pSI (pWI P I552 (pJ P)) a 2 (nI (n1 + 1))) = pWI P I554 (pJ P) by rw [eI554]; rfl]
                have h555 : I554 a 2 = nI (n1 + 1) := by rw [eI554, up_self, up_self]
                refine g_iinc (v := shf j) (lv' := [(3, .int (shf j)), (4, .int x542), (0, .ref a), (1, .long v)]) C dX12_lay_69 1 rfl rfl (by decide) rfl ?_
                refine g_goto C 3 dX12_lay_72 (by decide) ?_
                refine g_lv (lv' := [(3, .int (shf j)), (0, .ref a), (1, .long v)]) [0, 2, 3] rfl ?_
                exact ih (n1 + 1) I554 (by omega) (by omega) h555 (by rw [← h3]; show cnt (byS v) j _ = cnt (byS v) j (stc (byS v (nI (8 * j))) n1); rw [← hc, stc_yes (by first | (exact Or.inl (by assumption)) | (exact Or.inr ⟨by omega, by omega⟩)) (by omega)])
  exact lp 8 n _ (by omega) hn hz rfl
theorem dX11_feed_0 : decode cX11_feed 0 = .ok (.aload_n 0, 1) := by decide +kernel
theorem dX11_feed_1 : decode cX11_feed 1 = .ok (.getfield 41, 3) := by decide +kernel
theorem dX11_feed_4 : decode cX11_feed 4 = .ok (.getfield 111, 3) := by decide +kernel
theorem dX11_feed_7 : decode cX11_feed 7 = .ok (.astore 7, 2) := by decide +kernel
theorem dX11_feed_9 : decode cX11_feed 9 = .ok (.aload 7, 2) := by decide +kernel
theorem dX11_feed_11 : decode cX11_feed 11 = .ok (.lload_n 1, 1) := by decide +kernel
theorem dX11_feed_12 : decode cX11_feed 12 = .ok (.invokevirtual 115, 3) := by decide +kernel
theorem dX11_feed_15 : decode cX11_feed 15 = .ok (.aload 7, 2) := by decide +kernel
theorem dX11_feed_17 : decode cX11_feed 17 = .ok (.lload_n 3, 1) := by decide +kernel
theorem dX11_feed_18 : decode cX11_feed 18 = .ok (.invokevirtual 115, 3) := by decide +kernel
theorem dX11_feed_21 : decode cX11_feed 21 = .ok (.aload 7, 2) := by decide +kernel
theorem dX11_feed_23 : decode cX11_feed 23 = .ok (.lload 5, 2) := by decide +kernel
theorem dX11_feed_25 : decode cX11_feed 25 = .ok (.invokevirtual 115, 3) := by decide +kernel
theorem dX11_feed_28 : decode cX11_feed 28 = .ok (.aload 7, 2) := by decide +kernel
theorem dX11_feed_30 : decode cX11_feed 30 = .ok (.getfield 121, 3) := by decide +kernel
theorem dX11_feed_33 : decode cX11_feed 33 = .ok (.ireturn, 1) := by decide +kernel
set_option maxHeartbeats 4000000 in
set_option maxRecDepth 100000 in
theorem c_X11_feed {P : PP} {x : Nat} {a : Int64} {b : Int64} {c : Int64} (F : FC P x) : CtrI yX11_feed cX11_feed 8 (some Jvm.ClassFile.FieldType.int) ({ frames := 2, cells := 0, slots := 0, locals := 128 } : Room) 0 0 P [.ref x, .long a, .long b, .long c] (fun r _ => r = nI (cnt (byU c) 8 (cnt (byU b) 8 (cnt (byU a) 8 0)))) := by
  obtain ⟨hx, hxK, ok, z1, z6, z9, zt, zh, zm⟩ := F
  refine enI (lv := [(0, .ref x), (1, .long a), (3, .long b), (5, .long c)]) (by decide) (Nat.le_of_ble_eq_true rfl) rfl (fun E D cy C Ci0 ret => ?_)
  refine g_aload_n C dX11_feed_0 rfl 0 rfl ?_
  obtain ⟨b556, h557⟩ := xFd.at (ok x hx) hxK 7 4 0 rfl
  refine g_getR C fi_X11_41 rfl h557.1 hx hxK dX11_feed_1 ?_
  obtain ⟨b558, h559⟩ := xFd.at (ok b556 h557.2.1) h557.2.2.1 0 9 0 rfl
  refine g_getR C fi_X11_111 rfl h559.1 h557.2.1 h557.2.2.1 dX11_feed_4 ?_
  refine g_astore (lv' := [(7, .ref b558), (0, .ref x), (1, .long a), (3, .long b), (5, .long c)]) C dX11_feed_7 (by decide) rfl ?_
  refine g_aload C dX11_feed_9 0 rfl ?_
  refine g_lload_n C dX11_feed_11 rfl 2 rfl ?_
  refine g_callVV (rest := []) C mv_X11_115 [.long a] (c_X9_takeEight (n := 0) h559.2.1 h559.2.2.1 (ok b558 h559.2.1) (by decide) (z9 b558 h559.2.1 h559.2.2.1)) h559.2.1 h559.2.2.1 rfl rfl (by decide) (Nat.le_of_ble_eq_true rfl) (by decide) dX11_feed_12 (fun Q561 h562 => ?_)
  obtain ⟨I563, rfl, h562⟩ := h562
  refine g_aload C dX11_feed_15 0 rfl ?_
  refine g_lload_n C dX11_feed_17 rfl 3 rfl ?_
  refine g_callVV (rest := []) C mv_X11_115 [.long b] (c_X9_takeEight (n := (cnt (byU a) 8 0)) h559.2.1 h559.2.2.1 (ok b558 h559.2.1) (cnt_le 8 (by decide)) h562) h559.2.1 h559.2.2.1 rfl rfl (by decide) (Nat.le_of_ble_eq_true rfl) (by decide) dX11_feed_18 (fun Q565 h566 => ?_)
  obtain ⟨I567, rfl, h566⟩ := h566
  refine g_aload C dX11_feed_21 0 rfl ?_
  refine g_lload C dX11_feed_23 4 rfl ?_
  refine g_callVV (rest := []) C mv_X11_115 [.long c] (c_X9_takeEight (n := (cnt (byU b) 8 (cnt (byU a) 8 0))) h559.2.1 h559.2.2.1 (ok b558 h559.2.1) (cnt_le 8 (cnt_le 8 (by decide))) h566) h559.2.1 h559.2.2.1 rfl rfl (by decide) (Nat.le_of_ble_eq_true rfl) (by decide) dX11_feed_25 (fun Q569 h570 => ?_)
  obtain ⟨I571, rfl, h570⟩ := h570
  refine g_aload C dX11_feed_28 0 rfl ?_
  refine g_getI C fi_X11_121 (by decide) h559.2.1 h559.2.2.1 dX11_feed_30 ?_
  exact ret _ _ _ _ _ _ dX11_feed_33 rfl (by decide) (by decide) (h570)
theorem dX12_feed_0 : decode cX12_feed 0 = .ok (.aload_n 0, 1) := by decide +kernel
theorem dX12_feed_1 : decode cX12_feed 1 = .ok (.iconst 0, 1) := by decide +kernel
theorem dX12_feed_2 : decode cX12_feed 2 = .ok (.putfield 1, 3) := by decide +kernel
theorem dX12_feed_5 : decode cX12_feed 5 = .ok (.aload_n 0, 1) := by decide +kernel
theorem dX12_feed_6 : decode cX12_feed 6 = .ok (.lload_n 1, 1) := by decide +kernel
theorem dX12_feed_7 : decode cX12_feed 7 = .ok (.invokevirtual 7, 3) := by decide +kernel
theorem dX12_feed_10 : decode cX12_feed 10 = .ok (.aload_n 0, 1) := by decide +kernel
theorem dX12_feed_11 : decode cX12_feed 11 = .ok (.lload_n 3, 1) := by decide +kernel
theorem dX12_feed_12 : decode cX12_feed 12 = .ok (.invokevirtual 7, 3) := by decide +kernel
theorem dX12_feed_15 : decode cX12_feed 15 = .ok (.aload_n 0, 1) := by decide +kernel
theorem dX12_feed_16 : decode cX12_feed 16 = .ok (.lload 5, 2) := by decide +kernel
theorem dX12_feed_18 : decode cX12_feed 18 = .ok (.invokevirtual 7, 3) := by decide +kernel
theorem dX12_feed_21 : decode cX12_feed 21 = .ok (.aload_n 0, 1) := by decide +kernel
theorem dX12_feed_22 : decode cX12_feed 22 = .ok (.getfield 11, 3) := by decide +kernel
theorem dX12_feed_25 : decode cX12_feed 25 = .ok (.ireturn, 1) := by decide +kernel
set_option maxHeartbeats 4000000 in
set_option maxRecDepth 100000 in
theorem c_X12_feed {P : PP} {x : Nat} {a : Int64} {b : Int64} {c : Int64} (F : FM P x) : CtrI yX12_feed cX12_feed 7 (some Jvm.ClassFile.FieldType.int) ({ frames := 2, cells := 0, slots := 0, locals := 128 } : Room) 0 0 P [.ref x, .long a, .long b, .long c] (fun r _ => r = nI (cnt (byS c) 8 (cnt (byS b) 8 (cnt (byS a) 8 0)))) := by
  refine enI (lv := [(0, .ref x), (1, .long a), (3, .long b), (5, .long c)]) (by decide) (Nat.le_of_ble_eq_true rfl) rfl (fun E D cy C Ci0 ret => ?_)
  refine g_aload_n C dX12_feed_0 rfl 0 rfl ?_
  refine g_iconst (v := 0) C dX12_feed_1 (by decide) ?_
  refine g_putI C fi_X12_1 rfl F.1 F.2.1 dX12_feed_2 ?_
  have F := F.thrown (v := 0)
  generalize pSI P x 0 0 = P1 at F ⊢
  obtain ⟨hx, hxK, ok, inj, zp, zs, zm, zt, zo, zh⟩ := F
  refine g_aload_n C dX12_feed_5 rfl 0 rfl ?_
  refine g_lload_n C dX12_feed_6 rfl 1 rfl ?_
  refine g_callVV (rest := []) C mv_X12_7 [.long a] (c_X12_lay (n := 0) hx hxK (ok x hx) (by decide) zt) hx hxK rfl rfl (by decide) (Nat.le_of_ble_eq_true rfl) (by decide) dX12_feed_7 (fun Q573 h574 => ?_)
  obtain ⟨I575, rfl, h574⟩ := h574
  refine g_aload_n C dX12_feed_10 rfl 0 rfl ?_
  refine g_lload_n C dX12_feed_11 rfl 2 rfl ?_
  refine g_callVV (rest := []) C mv_X12_7 [.long b] (c_X12_lay (n := (cnt (byS a) 8 0)) hx hxK (ok x hx) (cnt_le 8 (by decide)) h574) hx hxK rfl rfl (by decide) (Nat.le_of_ble_eq_true rfl) (by decide) dX12_feed_12 (fun Q577 h578 => ?_)
  obtain ⟨I579, rfl, h578⟩ := h578
  refine g_aload_n C dX12_feed_15 rfl 0 rfl ?_
  refine g_lload C dX12_feed_16 3 rfl ?_
  refine g_callVV (rest := []) C mv_X12_7 [.long c] (c_X12_lay (n := (cnt (byS b) 8 (cnt (byS a) 8 0))) hx hxK (ok x hx) (cnt_le 8 (cnt_le 8 (by decide))) h578) hx hxK rfl rfl (by decide) (Nat.le_of_ble_eq_true rfl) (by decide) dX12_feed_18 (fun Q581 h582 => ?_)
  obtain ⟨I583, rfl, h582⟩ := h582
  refine g_aload_n C dX12_feed_21 rfl 0 rfl ?_
  refine g_getI C fi_X12_11 (by decide) hx hxK dX12_feed_22 ?_
  exact ret _ _ _ _ _ _ dX12_feed_25 rfl (by decide) (by decide) (h582)
end
