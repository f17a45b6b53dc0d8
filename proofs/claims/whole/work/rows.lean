section
-- ===== PART A: goes FIRST, ahead of the names: the tables' words, and 'selects' of the private methods out of them =====
/-- a private method of a class that the tables say can be made, by its rows of tables_1 -/
def lw_okq (q : MethodName × Nat) : Prop := (q.1.cls ≠ "java/lang/invoke/MethodHandle" ∧ q.1.cls ≠ "java/lang/invoke/VarHandle") ∧ Cond.instantiable q.1.cls q.2 ∈ tables_1 ∧ Cond.privateMethod q.1 ∈ tables_1 ∧ Cond.instanceMethod q.1 ∈ tables_1
theorem lw_p0 : lw_okq (⟨"PigeonMail$Hall", "clerkAnswers", "(I)V"⟩, 3) := ⟨⟨by decide +kernel, by decide +kernel⟩, List.mem_of_getElem? (i := 101) (by decide +kernel), List.mem_of_getElem? (i := 404) (by decide +kernel), List.mem_of_getElem? (i := 405) (by decide +kernel)⟩
theorem lw_p1 : lw_okq (⟨"PigeonMail$Hall", "mostPressing", "(I)I"⟩, 3) := ⟨⟨by decide +kernel, by decide +kernel⟩, List.mem_of_getElem? (i := 101) (by decide +kernel), List.mem_of_getElem? (i := 408) (by decide +kernel), List.mem_of_getElem? (i := 409) (by decide +kernel)⟩
theorem lw_p2 : lw_okq (⟨"PigeonMail$Hall", "hatch", "(I)V"⟩, 3) := ⟨⟨by decide +kernel, by decide +kernel⟩, List.mem_of_getElem? (i := 101) (by decide +kernel), List.mem_of_getElem? (i := 413) (by decide +kernel), List.mem_of_getElem? (i := 414) (by decide +kernel)⟩
theorem lw_p3 : lw_okq (⟨"PigeonMail$Hall", "birdsEat", "()V"⟩, 3) := ⟨⟨by decide +kernel, by decide +kernel⟩, List.mem_of_getElem? (i := 101) (by decide +kernel), List.mem_of_getElem? (i := 417) (by decide +kernel), List.mem_of_getElem? (i := 418) (by decide +kernel)⟩
theorem lw_p4 : lw_okq (⟨"PigeonMail$Outlook", "sendAll", "(I)I"⟩, 8) := ⟨⟨by decide +kernel, by decide +kernel⟩, List.mem_of_getElem? (i := 119) (by decide +kernel), List.mem_of_getElem? (i := 508) (by decide +kernel), List.mem_of_getElem? (i := 509) (by decide +kernel)⟩
theorem lw_p5 : lw_okq (⟨"PigeonMail$Outlook", "isQuiet", "(I)Z"⟩, 8) := ⟨⟨by decide +kernel, by decide +kernel⟩, List.mem_of_getElem? (i := 119) (by decide +kernel), List.mem_of_getElem? (i := 537) (by decide +kernel), List.mem_of_getElem? (i := 538) (by decide +kernel)⟩
theorem lw_p6 : lw_okq (⟨"PigeonMail$Outlook", "doIfCan", "(I)Z"⟩, 8) := ⟨⟨by decide +kernel, by decide +kernel⟩, List.mem_of_getElem? (i := 119) (by decide +kernel), List.mem_of_getElem? (i := 555) (by decide +kernel), List.mem_of_getElem? (i := 556) (by decide +kernel)⟩
theorem lw_p7 : lw_okq (⟨"PigeonMail$Outlook", "putIfCan", "(II)Z"⟩, 8) := ⟨⟨by decide +kernel, by decide +kernel⟩, List.mem_of_getElem? (i := 119) (by decide +kernel), List.mem_of_getElem? (i := 559) (by decide +kernel), List.mem_of_getElem? (i := 560) (by decide +kernel)⟩
theorem lw_p8 : lw_okq (⟨"PigeonMail$Outlook", "sendIfCan", "(II)Z"⟩, 8) := ⟨⟨by decide +kernel, by decide +kernel⟩, List.mem_of_getElem? (i := 119) (by decide +kernel), List.mem_of_getElem? (i := 564) (by decide +kernel), List.mem_of_getElem? (i := 565) (by decide +kernel)⟩
theorem lw_p9 : lw_okq (⟨"PigeonMail$Outlook", "fillLostWith", "()V"⟩, 8) := ⟨⟨by decide +kernel, by decide +kernel⟩, List.mem_of_getElem? (i := 119) (by decide +kernel), List.mem_of_getElem? (i := 578) (by decide +kernel), List.mem_of_getElem? (i := 579) (by decide +kernel)⟩
theorem lw_p10 : lw_okq (⟨"PigeonMail$Told", "fits", "(I)Z"⟩, 3) := ⟨⟨by decide +kernel, by decide +kernel⟩, List.mem_of_getElem? (i := 188) (by decide +kernel), List.mem_of_getElem? (i := 617) (by decide +kernel), List.mem_of_getElem? (i := 618) (by decide +kernel)⟩
theorem lw_p11 : lw_okq (⟨"PigeonMail$Outlook", "fillGains", "(II)V"⟩, 8) := ⟨⟨by decide +kernel, by decide +kernel⟩, List.mem_of_getElem? (i := 119) (by decide +kernel), List.mem_of_getElem? (i := 633) (by decide +kernel), List.mem_of_getElem? (i := 634) (by decide +kernel)⟩
theorem lw_p12 : lw_okq (⟨"PigeonMail$Outlook", "isRest", "(II)Z"⟩, 8) := ⟨⟨by decide +kernel, by decide +kernel⟩, List.mem_of_getElem? (i := 119) (by decide +kernel), List.mem_of_getElem? (i := 638) (by decide +kernel), List.mem_of_getElem? (i := 639) (by decide +kernel)⟩
theorem lw_p13 : lw_okq (⟨"PigeonMail$Chance", "fill", "(II)I"⟩, 1) := ⟨⟨by decide +kernel, by decide +kernel⟩, List.mem_of_getElem? (i := 206) (by decide +kernel), List.mem_of_getElem? (i := 652) (by decide +kernel), List.mem_of_getElem? (i := 653) (by decide +kernel)⟩
theorem lw_p14 : lw_okq (⟨"PigeonMail$Outlook", "happen", "(I)V"⟩, 8) := ⟨⟨by decide +kernel, by decide +kernel⟩, List.mem_of_getElem? (i := 119) (by decide +kernel), List.mem_of_getElem? (i := 673) (by decide +kernel), List.mem_of_getElem? (i := 674) (by decide +kernel)⟩
theorem lw_p15 : lw_okq (⟨"PigeonMailModel", "readRoom", "()I"⟩, 34) := ⟨⟨by decide +kernel, by decide +kernel⟩, List.mem_of_getElem? (i := 687) (by decide +kernel), List.mem_of_getElem? (i := 812) (by decide +kernel), List.mem_of_getElem? (i := 813) (by decide +kernel)⟩
def lw_privs_1 : List (MethodName × Nat) := [(⟨"PigeonMail$Hall", "clerkAnswers", "(I)V"⟩, 3), (⟨"PigeonMail$Hall", "mostPressing", "(I)I"⟩, 3), (⟨"PigeonMail$Hall", "hatch", "(I)V"⟩, 3), (⟨"PigeonMail$Hall", "birdsEat", "()V"⟩, 3), (⟨"PigeonMail$Outlook", "sendAll", "(I)I"⟩, 8), (⟨"PigeonMail$Outlook", "isQuiet", "(I)Z"⟩, 8), (⟨"PigeonMail$Outlook", "doIfCan", "(I)Z"⟩, 8), (⟨"PigeonMail$Outlook", "putIfCan", "(II)Z"⟩, 8), (⟨"PigeonMail$Outlook", "sendIfCan", "(II)Z"⟩, 8), (⟨"PigeonMail$Outlook", "fillLostWith", "()V"⟩, 8), (⟨"PigeonMail$Told", "fits", "(I)Z"⟩, 3), (⟨"PigeonMail$Outlook", "fillGains", "(II)V"⟩, 8), (⟨"PigeonMail$Outlook", "isRest", "(II)Z"⟩, 8), (⟨"PigeonMail$Chance", "fill", "(II)I"⟩, 1), (⟨"PigeonMail$Outlook", "happen", "(I)V"⟩, 8), (⟨"PigeonMailModel", "readRoom", "()I"⟩, 34)]
theorem lw_r1 : ∀ q ∈ lw_privs_1, lw_okq q := List.forall_mem_cons.mpr ⟨lw_p0, List.forall_mem_cons.mpr ⟨lw_p1, List.forall_mem_cons.mpr ⟨lw_p2, List.forall_mem_cons.mpr ⟨lw_p3, List.forall_mem_cons.mpr ⟨lw_p4, List.forall_mem_cons.mpr ⟨lw_p5, List.forall_mem_cons.mpr ⟨lw_p6, List.forall_mem_cons.mpr ⟨lw_p7, List.forall_mem_cons.mpr ⟨lw_p8, List.forall_mem_cons.mpr ⟨lw_p9, List.forall_mem_cons.mpr ⟨lw_p10, List.forall_mem_cons.mpr ⟨lw_p11, List.forall_mem_cons.mpr ⟨lw_p12, List.forall_mem_cons.mpr ⟨lw_p13, List.forall_mem_cons.mpr ⟨lw_p14, List.forall_mem_cons.mpr ⟨lw_p15, fun _ h => absurd h List.not_mem_nil⟩⟩⟩⟩⟩⟩⟩⟩⟩⟩⟩⟩⟩⟩⟩⟩
theorem lw_p16 : lw_okq (⟨"PigeonMailModel", "from", "(III)I"⟩, 34) := ⟨⟨by decide +kernel, by decide +kernel⟩, List.mem_of_getElem? (i := 687) (by decide +kernel), List.mem_of_getElem? (i := 816) (by decide +kernel), List.mem_of_getElem? (i := 817) (by decide +kernel)⟩
theorem lw_p17 : lw_okq (⟨"PigeonMailModel", "readThing", "()Z"⟩, 34) := ⟨⟨by decide +kernel, by decide +kernel⟩, List.mem_of_getElem? (i := 687) (by decide +kernel), List.mem_of_getElem? (i := 820) (by decide +kernel), List.mem_of_getElem? (i := 821) (by decide +kernel)⟩
theorem lw_p18 : lw_okq (⟨"PigeonMailModel", "readOneLetter", "()Z"⟩, 34) := ⟨⟨by decide +kernel, by decide +kernel⟩, List.mem_of_getElem? (i := 687) (by decide +kernel), List.mem_of_getElem? (i := 824) (by decide +kernel), List.mem_of_getElem? (i := 825) (by decide +kernel)⟩
theorem lw_p19 : lw_okq (⟨"PigeonMailModel", "readIn", "(I)I"⟩, 34) := ⟨⟨by decide +kernel, by decide +kernel⟩, List.mem_of_getElem? (i := 687) (by decide +kernel), List.mem_of_getElem? (i := 828) (by decide +kernel), List.mem_of_getElem? (i := 829) (by decide +kernel)⟩
theorem lw_p20 : lw_okq (⟨"PigeonMailModel", "readOneClerk", "()Z"⟩, 34) := ⟨⟨by decide +kernel, by decide +kernel⟩, List.mem_of_getElem? (i := 687) (by decide +kernel), List.mem_of_getElem? (i := 832) (by decide +kernel), List.mem_of_getElem? (i := 833) (by decide +kernel)⟩
theorem lw_p21 : lw_okq (⟨"PigeonMailModel", "thatAre", "([II)I"⟩, 34) := ⟨⟨by decide +kernel, by decide +kernel⟩, List.mem_of_getElem? (i := 687) (by decide +kernel), List.mem_of_getElem? (i := 844) (by decide +kernel), List.mem_of_getElem? (i := 845) (by decide +kernel)⟩
theorem lw_p22 : lw_okq (⟨"PigeonMailModel", "pairs", "()I"⟩, 34) := ⟨⟨by decide +kernel, by decide +kernel⟩, List.mem_of_getElem? (i := 687) (by decide +kernel), List.mem_of_getElem? (i := 848) (by decide +kernel), List.mem_of_getElem? (i := 849) (by decide +kernel)⟩
theorem lw_p23 : lw_okq (⟨"PigeonMailModel", "inHole", "([II)I"⟩, 34) := ⟨⟨by decide +kernel, by decide +kernel⟩, List.mem_of_getElem? (i := 687) (by decide +kernel), List.mem_of_getElem? (i := 852) (by decide +kernel), List.mem_of_getElem? (i := 853) (by decide +kernel)⟩
theorem lw_p24 : lw_okq (⟨"PigeonMailModel", "noLetter", "(I)Z"⟩, 34) := ⟨⟨by decide +kernel, by decide +kernel⟩, List.mem_of_getElem? (i := 687) (by decide +kernel), List.mem_of_getElem? (i := 863) (by decide +kernel), List.mem_of_getElem? (i := 864) (by decide +kernel)⟩
theorem lw_p25 : lw_okq (⟨"PigeonMailModel", "toWait", "([II)I"⟩, 34) := ⟨⟨by decide +kernel, by decide +kernel⟩, List.mem_of_getElem? (i := 687) (by decide +kernel), List.mem_of_getElem? (i := 867) (by decide +kernel), List.mem_of_getElem? (i := 868) (by decide +kernel)⟩
theorem lw_p26 : lw_okq (⟨"PigeonMailModel", "needs", "([II)I"⟩, 34) := ⟨⟨by decide +kernel, by decide +kernel⟩, List.mem_of_getElem? (i := 687) (by decide +kernel), List.mem_of_getElem? (i := 871) (by decide +kernel), List.mem_of_getElem? (i := 872) (by decide +kernel)⟩
theorem lw_p27 : lw_okq (⟨"PigeonMailModel", "noClerk", "(I)Z"⟩, 34) := ⟨⟨by decide +kernel, by decide +kernel⟩, List.mem_of_getElem? (i := 687) (by decide +kernel), List.mem_of_getElem? (i := 882) (by decide +kernel), List.mem_of_getElem? (i := 883) (by decide +kernel)⟩
theorem lw_p28 : lw_okq (⟨"PigeonMailModel", "note", "()V"⟩, 34) := ⟨⟨by decide +kernel, by decide +kernel⟩, List.mem_of_getElem? (i := 687) (by decide +kernel), List.mem_of_getElem? (i := 895) (by decide +kernel), List.mem_of_getElem? (i := 896) (by decide +kernel)⟩
theorem lw_p29 : lw_okq (⟨"PigeonMailModel", "goDay", "([I)I"⟩, 34) := ⟨⟨by decide +kernel, by decide +kernel⟩, List.mem_of_getElem? (i := 687) (by decide +kernel), List.mem_of_getElem? (i := 899) (by decide +kernel), List.mem_of_getElem? (i := 900) (by decide +kernel)⟩
theorem lw_p30 : lw_okq (⟨"PigeonMailModel", "answer", "([II)V"⟩, 34) := ⟨⟨by decide +kernel, by decide +kernel⟩, List.mem_of_getElem? (i := 687) (by decide +kernel), List.mem_of_getElem? (i := 906) (by decide +kernel), List.mem_of_getElem? (i := 907) (by decide +kernel)⟩
theorem lw_p31 : lw_okq (⟨"PigeonMailModel", "nextOf", "([II)I"⟩, 34) := ⟨⟨by decide +kernel, by decide +kernel⟩, List.mem_of_getElem? (i := 687) (by decide +kernel), List.mem_of_getElem? (i := 910) (by decide +kernel), List.mem_of_getElem? (i := 911) (by decide +kernel)⟩
def lw_privs_2 : List (MethodName × Nat) := [(⟨"PigeonMailModel", "from", "(III)I"⟩, 34), (⟨"PigeonMailModel", "readThing", "()Z"⟩, 34), (⟨"PigeonMailModel", "readOneLetter", "()Z"⟩, 34), (⟨"PigeonMailModel", "readIn", "(I)I"⟩, 34), (⟨"PigeonMailModel", "readOneClerk", "()Z"⟩, 34), (⟨"PigeonMailModel", "thatAre", "([II)I"⟩, 34), (⟨"PigeonMailModel", "pairs", "()I"⟩, 34), (⟨"PigeonMailModel", "inHole", "([II)I"⟩, 34), (⟨"PigeonMailModel", "noLetter", "(I)Z"⟩, 34), (⟨"PigeonMailModel", "toWait", "([II)I"⟩, 34), (⟨"PigeonMailModel", "needs", "([II)I"⟩, 34), (⟨"PigeonMailModel", "noClerk", "(I)Z"⟩, 34), (⟨"PigeonMailModel", "note", "()V"⟩, 34), (⟨"PigeonMailModel", "goDay", "([I)I"⟩, 34), (⟨"PigeonMailModel", "answer", "([II)V"⟩, 34), (⟨"PigeonMailModel", "nextOf", "([II)I"⟩, 34)]
theorem lw_r2 : ∀ q ∈ lw_privs_2, lw_okq q := List.forall_mem_cons.mpr ⟨lw_p16, List.forall_mem_cons.mpr ⟨lw_p17, List.forall_mem_cons.mpr ⟨lw_p18, List.forall_mem_cons.mpr ⟨lw_p19, List.forall_mem_cons.mpr ⟨lw_p20, List.forall_mem_cons.mpr ⟨lw_p21, List.forall_mem_cons.mpr ⟨lw_p22, List.forall_mem_cons.mpr ⟨lw_p23, List.forall_mem_cons.mpr ⟨lw_p24, List.forall_mem_cons.mpr ⟨lw_p25, List.forall_mem_cons.mpr ⟨lw_p26, List.forall_mem_cons.mpr ⟨lw_p27, List.forall_mem_cons.mpr ⟨lw_p28, List.forall_mem_cons.mpr ⟨lw_p29, List.forall_mem_cons.mpr ⟨lw_p30, List.forall_mem_cons.mpr ⟨lw_p31, fun _ h => absurd h List.not_mem_nil⟩⟩⟩⟩⟩⟩⟩⟩⟩⟩⟩⟩⟩⟩⟩⟩
theorem lw_p32 : lw_okq (⟨"PigeonMailModel", "hatch", "([I)I"⟩, 34) := ⟨⟨by decide +kernel, by decide +kernel⟩, List.mem_of_getElem? (i := 687) (by decide +kernel), List.mem_of_getElem? (i := 914) (by decide +kernel), List.mem_of_getElem? (i := 915) (by decide +kernel)⟩
theorem lw_p33 : lw_okq (⟨"PigeonMailModel", "putOut", "([II)V"⟩, 34) := ⟨⟨by decide +kernel, by decide +kernel⟩, List.mem_of_getElem? (i := 687) (by decide +kernel), List.mem_of_getElem? (i := 918) (by decide +kernel), List.mem_of_getElem? (i := 919) (by decide +kernel)⟩
theorem lw_p34 : lw_okq (⟨"PigeonMailModel", "canPut", "([III)Z"⟩, 34) := ⟨⟨by decide +kernel, by decide +kernel⟩, List.mem_of_getElem? (i := 687) (by decide +kernel), List.mem_of_getElem? (i := 926) (by decide +kernel), List.mem_of_getElem? (i := 927) (by decide +kernel)⟩
theorem lw_p35 : lw_okq (⟨"PigeonMailModel", "begin", "()V"⟩, 34) := ⟨⟨by decide +kernel, by decide +kernel⟩, List.mem_of_getElem? (i := 687) (by decide +kernel), List.mem_of_getElem? (i := 953) (by decide +kernel), List.mem_of_getElem? (i := 954) (by decide +kernel)⟩
theorem lw_p36 : lw_okq (⟨"PigeonMailModel", "goDays", "(I)V"⟩, 34) := ⟨⟨by decide +kernel, by decide +kernel⟩, List.mem_of_getElem? (i := 687) (by decide +kernel), List.mem_of_getElem? (i := 957) (by decide +kernel), List.mem_of_getElem? (i := 958) (by decide +kernel)⟩
theorem lw_p37 : lw_okq (⟨"PigeonMailModel", "hatchesThen", "(I)I"⟩, 34) := ⟨⟨by decide +kernel, by decide +kernel⟩, List.mem_of_getElem? (i := 687) (by decide +kernel), List.mem_of_getElem? (i := 965) (by decide +kernel), List.mem_of_getElem? (i := 966) (by decide +kernel)⟩
theorem lw_p38 : lw_okq (⟨"PigeonMailModel", "lost", "([I)I"⟩, 34) := ⟨⟨by decide +kernel, by decide +kernel⟩, List.mem_of_getElem? (i := 687) (by decide +kernel), List.mem_of_getElem? (i := 969) (by decide +kernel), List.mem_of_getElem? (i := 970) (by decide +kernel)⟩
theorem lw_p39 : lw_okq (⟨"PigeonMailModel", "isQuiet", "(I)Z"⟩, 34) := ⟨⟨by decide +kernel, by decide +kernel⟩, List.mem_of_getElem? (i := 687) (by decide +kernel), List.mem_of_getElem? (i := 988) (by decide +kernel), List.mem_of_getElem? (i := 989) (by decide +kernel)⟩
theorem lw_p40 : lw_okq (⟨"PigeonMailModel", "does", "(I)Z"⟩, 34) := ⟨⟨by decide +kernel, by decide +kernel⟩, List.mem_of_getElem? (i := 687) (by decide +kernel), List.mem_of_getElem? (i := 1001) (by decide +kernel), List.mem_of_getElem? (i := 1002) (by decide +kernel)⟩
theorem lw_p41 : lw_okq (⟨"PigeonMailModel", "layGains", "(III)V"⟩, 34) := ⟨⟨by decide +kernel, by decide +kernel⟩, List.mem_of_getElem? (i := 687) (by decide +kernel), List.mem_of_getElem? (i := 1034) (by decide +kernel), List.mem_of_getElem? (i := 1035) (by decide +kernel)⟩
def lw_privs_3 : List (MethodName × Nat) := [(⟨"PigeonMailModel", "hatch", "([I)I"⟩, 34), (⟨"PigeonMailModel", "putOut", "([II)V"⟩, 34), (⟨"PigeonMailModel", "canPut", "([III)Z"⟩, 34), (⟨"PigeonMailModel", "begin", "()V"⟩, 34), (⟨"PigeonMailModel", "goDays", "(I)V"⟩, 34), (⟨"PigeonMailModel", "hatchesThen", "(I)I"⟩, 34), (⟨"PigeonMailModel", "lost", "([I)I"⟩, 34), (⟨"PigeonMailModel", "isQuiet", "(I)Z"⟩, 34), (⟨"PigeonMailModel", "does", "(I)Z"⟩, 34), (⟨"PigeonMailModel", "layGains", "(III)V"⟩, 34)]
theorem lw_r3 : ∀ q ∈ lw_privs_3, lw_okq q := List.forall_mem_cons.mpr ⟨lw_p32, List.forall_mem_cons.mpr ⟨lw_p33, List.forall_mem_cons.mpr ⟨lw_p34, List.forall_mem_cons.mpr ⟨lw_p35, List.forall_mem_cons.mpr ⟨lw_p36, List.forall_mem_cons.mpr ⟨lw_p37, List.forall_mem_cons.mpr ⟨lw_p38, List.forall_mem_cons.mpr ⟨lw_p39, List.forall_mem_cons.mpr ⟨lw_p40, List.forall_mem_cons.mpr ⟨lw_p41, fun _ h => absurd h List.not_mem_nil⟩⟩⟩⟩⟩⟩⟩⟩⟩⟩
def lw_privs : List (MethodName × Nat) := lw_privs_1 ++ (lw_privs_2 ++ (lw_privs_3))
def lw_tbl : List Cond := k2_sels lw_privs ++ tables_1
theorem lw_privs_ok : ∀ q ∈ lw_privs, lw_okq q := by
  show ∀ q ∈ lw_privs_1 ++ (lw_privs_2 ++ (lw_privs_3)), lw_okq q
  exact List.forall_mem_append.mpr ⟨lw_r1, List.forall_mem_append.mpr ⟨lw_r2, lw_r3⟩⟩
end
section
def RX0 : String := "PigeonMail$Chance"
def TX0 : u_T := fun k => match k with
  | _ => ("PigeonMail$Chance", "cases", "[I", true)
def tyX0 : Nat → FieldType := fun k => match k with
  | _ => .array .int
theorem nmX0 : ∀ a, a < 1 → ∀ b, b < 1 → a ≠ b → (TX0 a).2.1 ≠ (TX0 b).2.1 := by decide +kernel
theorem tyX0_ok : ∀ k, k < 1 → parseFieldDescriptor (TX0 k).2.2.1 = some (tyX0 k) := by decide +kernel
abbrev cX0_init : ByteArray := prog_2_method_1_code
def yX0_init : MethodName := ⟨RX0, "<init>", "()V"⟩
abbrev cX0_left : ByteArray := prog_2_method_2_code
def yX0_left : MethodName := ⟨RX0, "left", "(IIIZ)I"⟩
abbrev cX0_fill : ByteArray := prog_2_method_3_code
def yX0_fill : MethodName := ⟨RX0, "fill", "(II)I"⟩
def RX1 : String := "PigeonMail$Hall"
def TX1 : u_T := fun k => match k with
  | 0 => ("PigeonMail$Hall", "plan", "LPigeonMail$Plan;", true)
  | 1 => ("PigeonMail$Hall", "cells", "[I", true)
  | _ => ("PigeonMail$Hall", "answeredBy", "[I", true)
def tyX1 : Nat → FieldType := fun k => match k with
  | 0 => .object "PigeonMail$Plan"
  | 1 => .array .int
  | _ => .array .int
theorem nmX1 : ∀ a, a < 3 → ∀ b, b < 3 → a ≠ b → (TX1 a).2.1 ≠ (TX1 b).2.1 := by decide +kernel
theorem tyX1_ok : ∀ k, k < 3 → parseFieldDescriptor (TX1 k).2.2.1 = some (tyX1 k) := by decide +kernel
abbrev cX1_init : ByteArray := prog_3_method_1_code
def yX1_init : MethodName := ⟨RX1, "<init>", "(LPigeonMail$Plan;)V"⟩
abbrev cX1_begin : ByteArray := prog_3_method_2_code
def yX1_begin : MethodName := ⟨RX1, "begin", "()V"⟩
abbrev cX1_beLike : ByteArray := prog_3_method_3_code
def yX1_beLike : MethodName := ⟨RX1, "beLike", "(LPigeonMail$Hall;)V"⟩
abbrev cX1_holeOf : ByteArray := prog_3_method_4_code
def yX1_holeOf : MethodName := ⟨RX1, "holeOf", "(I)I"⟩
abbrev cX1_waitedOf : ByteArray := prog_3_method_5_code
def yX1_waitedOf : MethodName := ⟨RX1, "waitedOf", "(I)I"⟩
abbrev cX1_fateOf : ByteArray := prog_3_method_6_code
def yX1_fateOf : MethodName := ⟨RX1, "fateOf", "(I)I"⟩
abbrev cX1_rowOf : ByteArray := prog_3_method_7_code
def yX1_rowOf : MethodName := ⟨RX1, "rowOf", "(I)I"⟩
abbrev cX1_grain : ByteArray := prog_3_method_8_code
def yX1_grain : MethodName := ⟨RX1, "grain", "()I"⟩
abbrev cX1_theDay : ByteArray := prog_3_method_9_code
def yX1_theDay : MethodName := ⟨RX1, "theDay", "()I"⟩
abbrev cX1_who : ByteArray := prog_3_method_10_code
def yX1_who : MethodName := ⟨RX1, "who", "(I)I"⟩
abbrev cX1_lost : ByteArray := prog_3_method_11_code
def yX1_lost : MethodName := ⟨RX1, "lost", "()I"⟩
abbrev cX1_whoIsIn : ByteArray := prog_3_method_12_code
def yX1_whoIsIn : MethodName := ⟨RX1, "whoIsIn", "(I)I"⟩
abbrev cX1_pairs : ByteArray := prog_3_method_13_code
def yX1_pairs : MethodName := ⟨RX1, "pairs", "()I"⟩
abbrev cX1_daysLeft : ByteArray := prog_3_method_14_code
def yX1_daysLeft : MethodName := ⟨RX1, "daysLeft", "(I)I"⟩
abbrev cX1_canPut : ByteArray := prog_3_method_15_code
def yX1_canPut : MethodName := ⟨RX1, "canPut", "(II)Z"⟩
abbrev cX1_moveTo : ByteArray := prog_3_method_16_code
def yX1_moveTo : MethodName := ⟨RX1, "moveTo", "(II)V"⟩
abbrev cX1_canSend : ByteArray := prog_3_method_17_code
def yX1_canSend : MethodName := ⟨RX1, "canSend", "(II)Z"⟩
abbrev cX1_sendTo : ByteArray := prog_3_method_18_code
def yX1_sendTo : MethodName := ⟨RX1, "sendTo", "(II)V"⟩
abbrev cX1_addGrain : ByteArray := prog_3_method_19_code
def yX1_addGrain : MethodName := ⟨RX1, "addGrain", "(I)V"⟩
abbrev cX1_answer : ByteArray := prog_3_method_20_code
def yX1_answer : MethodName := ⟨RX1, "answer", "(I)V"⟩
abbrev cX1_passDay : ByteArray := prog_3_method_21_code
def yX1_passDay : MethodName := ⟨RX1, "passDay", "()I"⟩
abbrev cX1_clerkAnswers : ByteArray := prog_3_method_22_code
def yX1_clerkAnswers : MethodName := ⟨RX1, "clerkAnswers", "(I)V"⟩
abbrev cX1_mostPressing : ByteArray := prog_3_method_23_code
def yX1_mostPressing : MethodName := ⟨RX1, "mostPressing", "(I)I"⟩
abbrev cX1_hatch : ByteArray := prog_3_method_24_code
def yX1_hatch : MethodName := ⟨RX1, "hatch", "(I)V"⟩
abbrev cX1_birdsEat : ByteArray := prog_3_method_25_code
def yX1_birdsEat : MethodName := ⟨RX1, "birdsEat", "()V"⟩
def RX2 : String := "PigeonMail$Outlook"
def TX2 : u_T := fun k => match k with
  | 0 => ("PigeonMail$Outlook", "plan", "LPigeonMail$Plan;", true)
  | 1 => ("PigeonMail$Outlook", "now", "LPigeonMail$Hall;", true)
  | 2 => ("PigeonMail$Outlook", "then", "LPigeonMail$Hall;", true)
  | 3 => ("PigeonMail$Outlook", "doings", "[I", true)
  | 4 => ("PigeonMail$Outlook", "lostWith", "[I", true)
  | 5 => ("PigeonMail$Outlook", "gainOfOne", "[I", true)
  | 6 => ("PigeonMail$Outlook", "gainOfOther", "[I", true)
  | _ => ("PigeonMail$Outlook", "seedBehind", "J", false)
def tyX2 : Nat → FieldType := fun k => match k with
  | 0 => .object "PigeonMail$Plan"
  | 1 => .object "PigeonMail$Hall"
  | 2 => .object "PigeonMail$Hall"
  | 3 => .array .int
  | 4 => .array .int
  | 5 => .array .int
  | 6 => .array .int
  | _ => .long
theorem nmX2 : ∀ a, a < 8 → ∀ b, b < 8 → a ≠ b → (TX2 a).2.1 ≠ (TX2 b).2.1 := by decide +kernel
theorem tyX2_ok : ∀ k, k < 8 → parseFieldDescriptor (TX2 k).2.2.1 = some (tyX2 k) := by decide +kernel
abbrev cX2_init : ByteArray := prog_4_method_1_code
def yX2_init : MethodName := ⟨RX2, "<init>", "(LPigeonMail$Plan;LPigeonMail$Hall;)V"⟩
abbrev cX2_whoIn : ByteArray := prog_4_method_2_code
def yX2_whoIn : MethodName := ⟨RX2, "whoIn", "(II)I"⟩
abbrev cX2_daysToHatch : ByteArray := prog_4_method_3_code
def yX2_daysToHatch : MethodName := ⟨RX2, "daysToHatch", "(II)I"⟩
abbrev cX2_bestRows : ByteArray := prog_4_method_4_code
def yX2_bestRows : MethodName := ⟨RX2, "bestRows", "(Z)I"⟩
abbrev cX2_sendAll : ByteArray := prog_4_method_5_code
def yX2_sendAll : MethodName := ⟨RX2, "sendAll", "(I)I"⟩
abbrev cX2_safestHole : ByteArray := prog_4_method_6_code
def yX2_safestHole : MethodName := ⟨RX2, "safestHole", "(I)I"⟩
abbrev cX2_fewestForQuiet : ByteArray := prog_4_method_7_code
def yX2_fewestForQuiet : MethodName := ⟨RX2, "fewestForQuiet", "()I"⟩
abbrev cX2_isQuiet : ByteArray := prog_4_method_8_code
def yX2_isQuiet : MethodName := ⟨RX2, "isQuiet", "(I)Z"⟩
abbrev cX2_firstThatCanNotBe : ByteArray := prog_4_method_9_code
def yX2_firstThatCanNotBe : MethodName := ⟨RX2, "firstThatCanNotBe", "(IJ)I"⟩
abbrev cX2_doIfCan : ByteArray := prog_4_method_10_code
def yX2_doIfCan : MethodName := ⟨RX2, "doIfCan", "(I)Z"⟩
abbrev cX2_putIfCan : ByteArray := prog_4_method_11_code
def yX2_putIfCan : MethodName := ⟨RX2, "putIfCan", "(II)Z"⟩
abbrev cX2_sendIfCan : ByteArray := prog_4_method_12_code
def yX2_sendIfCan : MethodName := ⟨RX2, "sendIfCan", "(II)Z"⟩
abbrev cX2_shareOf : ByteArray := prog_4_method_13_code
def yX2_shareOf : MethodName := ⟨RX2, "shareOf", "(IZ)I"⟩
abbrev cX2_fillLostWith : ByteArray := prog_4_method_14_code
def yX2_fillLostWith : MethodName := ⟨RX2, "fillLostWith", "()V"⟩
abbrev cX2_factorial : ByteArray := prog_4_method_15_code
def yX2_factorial : MethodName := ⟨RX2, "factorial", "(I)I"⟩
abbrev cX2_restsOf : ByteArray := prog_4_method_16_code
def yX2_restsOf : MethodName := ⟨RX2, "restsOf", "(IIZ)I"⟩
abbrev cX2_fillGains : ByteArray := prog_4_method_17_code
def yX2_fillGains : MethodName := ⟨RX2, "fillGains", "(II)V"⟩
abbrev cX2_isRest : ByteArray := prog_4_method_18_code
def yX2_isRest : MethodName := ⟨RX2, "isRest", "(II)Z"⟩
abbrev cX2_birdsOfYears : ByteArray := prog_4_method_19_code
def yX2_birdsOfYears : MethodName := ⟨RX2, "birdsOfYears", "(IJ)I"⟩
abbrev cX2_happen : ByteArray := prog_4_method_20_code
def yX2_happen : MethodName := ⟨RX2, "happen", "(I)V"⟩
def RX3 : String := "PigeonMail$Past"
def TX3 : u_T := fun k => match k with
  | 0 => ("PigeonMail$Past", "shelf", "LPigeonMail$Shelf;", true)
  | 1 => ("PigeonMail$Past", "first", "I", false)
  | _ => ("PigeonMail$Past", "count", "I", false)
def tyX3 : Nat → FieldType := fun k => match k with
  | 0 => .object "PigeonMail$Shelf"
  | 1 => .int
  | _ => .int
theorem nmX3 : ∀ a, a < 3 → ∀ b, b < 3 → a ≠ b → (TX3 a).2.1 ≠ (TX3 b).2.1 := by decide +kernel
theorem tyX3_ok : ∀ k, k < 3 → parseFieldDescriptor (TX3 k).2.2.1 = some (tyX3 k) := by decide +kernel
abbrev cX3_init : ByteArray := prog_5_method_1_code
def yX3_init : MethodName := ⟨RX3, "<init>", "()V"⟩
abbrev cX3_clear : ByteArray := prog_5_method_2_code
def yX3_clear : MethodName := ⟨RX3, "clear", "()V"⟩
abbrev cX3_remember : ByteArray := prog_5_method_3_code
def yX3_remember : MethodName := ⟨RX3, "remember", "(LPigeonMail$Hall;)V"⟩
abbrev cX3_goBack : ByteArray := prog_5_method_4_code
def yX3_goBack : MethodName := ⟨RX3, "goBack", "(LPigeonMail$Hall;)V"⟩
def RX4 : String := "PigeonMail$Plan"
def TX4 : u_T := fun k => match k with
  | 0 => ("PigeonMail$Plan", "letters", "I", false)
  | 1 => ("PigeonMail$Plan", "clerks", "I", false)
  | 2 => ("PigeonMail$Plan", "grain", "I", false)
  | 3 => ("PigeonMail$Plan", "homes", "[I", true)
  | 4 => ("PigeonMail$Plan", "waits", "[I", true)
  | 5 => ("PigeonMail$Plan", "kinds", "[I", true)
  | 6 => ("PigeonMail$Plan", "alone", "[I", true)
  | 7 => ("PigeonMail$Plan", "posts", "[I", true)
  | _ => ("PigeonMail$Plan", "answers", "[I", true)
def tyX4 : Nat → FieldType := fun k => match k with
  | 0 => .int
  | 1 => .int
  | 2 => .int
  | 3 => .array .int
  | 4 => .array .int
  | 5 => .array .int
  | 6 => .array .int
  | 7 => .array .int
  | _ => .array .int
theorem nmX4 : ∀ a, a < 9 → ∀ b, b < 9 → a ≠ b → (TX4 a).2.1 ≠ (TX4 b).2.1 := by decide +kernel
theorem tyX4_ok : ∀ k, k < 9 → parseFieldDescriptor (TX4 k).2.2.1 = some (tyX4 k) := by decide +kernel
abbrev cX4_init : ByteArray := prog_6_method_1_code
def yX4_init : MethodName := ⟨RX4, "<init>", "()V"⟩
abbrev cX4_clear : ByteArray := prog_6_method_2_code
def yX4_clear : MethodName := ⟨RX4, "clear", "()V"⟩
abbrev cX4_hasLetter : ByteArray := prog_6_method_3_code
def yX4_hasLetter : MethodName := ⟨RX4, "hasLetter", "(I)Z"⟩
abbrev cX4_hasClerk : ByteArray := prog_6_method_4_code
def yX4_hasClerk : MethodName := ⟨RX4, "hasClerk", "(I)Z"⟩
abbrev cX4_homesIn : ByteArray := prog_6_method_5_code
def yX4_homesIn : MethodName := ⟨RX4, "homesIn", "(I)I"⟩
def RX5 : String := "PigeonMail$Script"
def TX5 : u_T := fun k => match k with
  | 0 => ("PigeonMail$Script", "bytes", "[I", true)
  | 1 => ("PigeonMail$Script", "length", "I", false)
  | _ => ("PigeonMail$Script", "draft", "LPigeonMail$Plan;", true)
def tyX5 : Nat → FieldType := fun k => match k with
  | 0 => .array .int
  | 1 => .int
  | _ => .object "PigeonMail$Plan"
theorem nmX5 : ∀ a, a < 3 → ∀ b, b < 3 → a ≠ b → (TX5 a).2.1 ≠ (TX5 b).2.1 := by decide +kernel
theorem tyX5_ok : ∀ k, k < 3 → parseFieldDescriptor (TX5 k).2.2.1 = some (tyX5 k) := by decide +kernel
abbrev cX5_init : ByteArray := prog_7_method_1_code
def yX5_init : MethodName := ⟨RX5, "<init>", "()V"⟩
abbrev cX5_add : ByteArray := prog_7_method_2_code
def yX5_add : MethodName := ⟨RX5, "add", "(I)I"⟩
abbrev cX5_clear : ByteArray := prog_7_method_3_code
def yX5_clear : MethodName := ⟨RX5, "clear", "()I"⟩
abbrev cX5_firstFault : ByteArray := prog_7_method_4_code
def yX5_firstFault : MethodName := ⟨RX5, "firstFault", "()I"⟩
abbrev cX5_readInto : ByteArray := prog_7_method_5_code
def yX5_readInto : MethodName := ⟨RX5, "readInto", "(LPigeonMail$Plan;)I"⟩
abbrev cX5_readOutside : ByteArray := prog_7_method_6_code
def yX5_readOutside : MethodName := ⟨RX5, "readOutside", "(LPigeonMail$Plan;II)I"⟩
abbrev cX5_readInside : ByteArray := prog_7_method_7_code
def yX5_readInside : MethodName := ⟨RX5, "readInside", "(LPigeonMail$Plan;II)I"⟩
abbrev cX5_isFigure : ByteArray := prog_7_method_8_code
def yX5_isFigure : MethodName := ⟨RX5, "isFigure", "(III)Z"⟩
def RX6 : String := "PigeonMail$Shelf"
def TX6 : u_T := fun k => match k with
  | 0 => ("PigeonMail$Shelf", "size", "I", true)
  | _ => ("PigeonMail$Shelf", "cells", "[I", true)
def tyX6 : Nat → FieldType := fun k => match k with
  | 0 => .int
  | _ => .array .int
theorem nmX6 : ∀ a, a < 2 → ∀ b, b < 2 → a ≠ b → (TX6 a).2.1 ≠ (TX6 b).2.1 := by decide +kernel
theorem tyX6_ok : ∀ k, k < 2 → parseFieldDescriptor (TX6 k).2.2.1 = some (tyX6 k) := by decide +kernel
abbrev cX6_init : ByteArray := prog_8_method_1_code
def yX6_init : MethodName := ⟨RX6, "<init>", "(I)V"⟩
abbrev cX6_store : ByteArray := prog_8_method_2_code
def yX6_store : MethodName := ⟨RX6, "store", "(ILPigeonMail$Hall;)V"⟩
abbrev cX6_fetch : ByteArray := prog_8_method_3_code
def yX6_fetch : MethodName := ⟨RX6, "fetch", "(ILPigeonMail$Hall;)V"⟩
def RX7 : String := "PigeonMail$Told"
def TX7 : u_T := fun k => match k with
  | 0 => ("PigeonMail$Told", "days", "[I", true)
  | 1 => ("PigeonMail$Told", "hatched", "[Z", true)
  | _ => ("PigeonMail$Told", "count", "I", false)
def tyX7 : Nat → FieldType := fun k => match k with
  | 0 => .array .int
  | 1 => .array .boolean
  | _ => .int
theorem nmX7 : ∀ a, a < 3 → ∀ b, b < 3 → a ≠ b → (TX7 a).2.1 ≠ (TX7 b).2.1 := by decide +kernel
theorem tyX7_ok : ∀ k, k < 3 → parseFieldDescriptor (TX7 k).2.2.1 = some (tyX7 k) := by decide +kernel
abbrev cX7_init : ByteArray := prog_9_method_1_code
def yX7_init : MethodName := ⟨RX7, "<init>", "()V"⟩
abbrev cX7_add : ByteArray := prog_9_method_2_code
def yX7_add : MethodName := ⟨RX7, "add", "(IZ)I"⟩
abbrev cX7_clear : ByteArray := prog_9_method_3_code
def yX7_clear : MethodName := ⟨RX7, "clear", "()I"⟩
abbrev cX7_howMany : ByteArray := prog_9_method_4_code
def yX7_howMany : MethodName := ⟨RX7, "howMany", "()I"⟩
abbrev cX7_first : ByteArray := prog_9_method_5_code
def yX7_first : MethodName := ⟨RX7, "first", "()I"⟩
abbrev cX7_fits : ByteArray := prog_9_method_6_code
def yX7_fits : MethodName := ⟨RX7, "fits", "(I)Z"⟩
def RX8 : String := "PigeonMail"
def TX8 : u_T := fun k => match k with
  | 0 => ("PigeonMail", "script", "LPigeonMail$Script;", true)
  | 1 => ("PigeonMail", "plan", "LPigeonMail$Plan;", true)
  | 2 => ("PigeonMail", "now", "LPigeonMail$Hall;", true)
  | 3 => ("PigeonMail", "outlook", "LPigeonMail$Outlook;", true)
  | 4 => ("PigeonMail", "past", "LPigeonMail$Past;", true)
  | 5 => ("PigeonMail", "slots", "LPigeonMail$Shelf;", true)
  | 6 => ("PigeonMail", "kept", "[Z", true)
  | 7 => ("PigeonMail", "told", "LPigeonMail$Told;", true)
  | 8 => ("PigeonMail", "chance", "LPigeonMail$Chance;", true)
  | _ => ("PigeonMail", "theSeed", "J", false)
def tyX8 : Nat → FieldType := fun k => match k with
  | 0 => .object "PigeonMail$Script"
  | 1 => .object "PigeonMail$Plan"
  | 2 => .object "PigeonMail$Hall"
  | 3 => .object "PigeonMail$Outlook"
  | 4 => .object "PigeonMail$Past"
  | 5 => .object "PigeonMail$Shelf"
  | 6 => .array .boolean
  | 7 => .object "PigeonMail$Told"
  | 8 => .object "PigeonMail$Chance"
  | _ => .long
theorem nmX8 : ∀ a, a < 10 → ∀ b, b < 10 → a ≠ b → (TX8 a).2.1 ≠ (TX8 b).2.1 := by decide +kernel
theorem tyX8_ok : ∀ k, k < 10 → parseFieldDescriptor (TX8 k).2.2.1 = some (tyX8 k) := by decide +kernel
abbrev cX8_init : ByteArray := prog_1_method_1_code
def yX8_init : MethodName := ⟨RX8, "<init>", "()V"⟩
abbrev cX8_write : ByteArray := prog_1_method_2_code
def yX8_write : MethodName := ⟨RX8, "write", "(I)I"⟩
abbrev cX8_wipe : ByteArray := prog_1_method_3_code
def yX8_wipe : MethodName := ⟨RX8, "wipe", "()I"⟩
abbrev cX8_fault : ByteArray := prog_1_method_4_code
def yX8_fault : MethodName := ⟨RX8, "fault", "()I"⟩
abbrev cX8_room : ByteArray := prog_1_method_5_code
def yX8_room : MethodName := ⟨RX8, "room", "()I"⟩
abbrev cX8_about : ByteArray := prog_1_method_6_code
def yX8_about : MethodName := ⟨RX8, "about", "(I)I"⟩
abbrev cX8_letter : ByteArray := prog_1_method_7_code
def yX8_letter : MethodName := ⟨RX8, "letter", "(II)I"⟩
abbrev cX8_clerk : ByteArray := prog_1_method_8_code
def yX8_clerk : MethodName := ⟨RX8, "clerk", "(II)I"⟩
abbrev cX8_hole : ByteArray := prog_1_method_9_code
def yX8_hole : MethodName := ⟨RX8, "hole", "(I)I"⟩
abbrev cX8_day : ByteArray := prog_1_method_10_code
def yX8_day : MethodName := ⟨RX8, "day", "()I"⟩
abbrev cX8_put : ByteArray := prog_1_method_11_code
def yX8_put : MethodName := ⟨RX8, "put", "(II)I"⟩
abbrev cX8_feed : ByteArray := prog_1_method_12_code
def yX8_feed : MethodName := ⟨RX8, "feed", "(I)I"⟩
abbrev cX8_send : ByteArray := prog_1_method_13_code
def yX8_send : MethodName := ⟨RX8, "send", "(II)I"⟩
abbrev cX8_undo : ByteArray := prog_1_method_14_code
def yX8_undo : MethodName := ⟨RX8, "undo", "()I"⟩
abbrev cX8_ahead : ByteArray := prog_1_method_15_code
def yX8_ahead : MethodName := ⟨RX8, "ahead", "(II)I"⟩
abbrev cX8_hatches : ByteArray := prog_1_method_16_code
def yX8_hatches : MethodName := ⟨RX8, "hatches", "(I)I"⟩
abbrev cX8_rows : ByteArray := prog_1_method_17_code
def yX8_rows : MethodName := ⟨RX8, "rows", "(Z)I"⟩
abbrev cX8_saved : ByteArray := prog_1_method_18_code
def yX8_saved : MethodName := ⟨RX8, "saved", "(I)I"⟩
abbrev cX8_quiet : ByteArray := prog_1_method_19_code
def yX8_quiet : MethodName := ⟨RX8, "quiet", "()I"⟩
abbrev cX8_judge : ByteArray := prog_1_method_20_code
def yX8_judge : MethodName := ⟨RX8, "judge", "(IJ)I"⟩
abbrev cX8_share : ByteArray := prog_1_method_21_code
def yX8_share : MethodName := ⟨RX8, "share", "(IZ)I"⟩
abbrev cX8_tell : ByteArray := prog_1_method_22_code
def yX8_tell : MethodName := ⟨RX8, "tell", "(II)I"⟩
abbrev cX8_untell : ByteArray := prog_1_method_23_code
def yX8_untell : MethodName := ⟨RX8, "untell", "()I"⟩
abbrev cX8_may : ByteArray := prog_1_method_24_code
def yX8_may : MethodName := ⟨RX8, "may", "(I)I"⟩
abbrev cX8_rests : ByteArray := prog_1_method_25_code
def yX8_rests : MethodName := ⟨RX8, "rests", "(III)I"⟩
abbrev cX8_hawks : ByteArray := prog_1_method_26_code
def yX8_hawks : MethodName := ⟨RX8, "hawks", "(IIZ)I"⟩
abbrev cX8_seed : ByteArray := prog_1_method_27_code
def yX8_seed : MethodName := ⟨RX8, "seed", "(J)J"⟩
abbrev cX8_years : ByteArray := prog_1_method_28_code
def yX8_years : MethodName := ⟨RX8, "years", "(I)I"⟩
abbrev cX8_keep : ByteArray := prog_1_method_29_code
def yX8_keep : MethodName := ⟨RX8, "keep", "(I)I"⟩
abbrev cX8_again : ByteArray := prog_1_method_30_code
def yX8_again : MethodName := ⟨RX8, "again", "(I)I"⟩
abbrev cX8_isHole : ByteArray := prog_1_method_31_code
def yX8_isHole : MethodName := ⟨RX8, "isHole", "(I)Z"⟩
abbrev cX8_isRow : ByteArray := prog_1_method_32_code
def yX8_isRow : MethodName := ⟨RX8, "isRow", "(I)Z"⟩
abbrev cX8_waitAlone : ByteArray := prog_1_method_33_code
def yX8_waitAlone : MethodName := ⟨RX8, "waitAlone", "(II)I"⟩
abbrev cX8_part : ByteArray := prog_1_method_34_code
def yX8_part : MethodName := ⟨RX8, "part", "(IIZ)I"⟩
def RX9 : String := "PigeonMailModel"
def TX9 : u_T := fun k => match k with
  | 0 => ("PigeonMailModel", "thrown", "I", false)
  | 1 => ("PigeonMailModel", "text", "[I", true)
  | 2 => ("PigeonMailModel", "textSize", "I", false)
  | 3 => ("PigeonMailModel", "place", "I", false)
  | 4 => ("PigeonMailModel", "letters", "I", false)
  | 5 => ("PigeonMailModel", "wait", "[I", true)
  | 6 => ("PigeonMailModel", "kind", "[I", true)
  | 7 => ("PigeonMailModel", "clerks", "I", false)
  | 8 => ("PigeonMailModel", "answers", "[I", true)
  | 9 => ("PigeonMailModel", "readGrain", "I", false)
  | 10 => ("PigeonMailModel", "readLetters", "I", false)
  | 11 => ("PigeonMailModel", "readLetter", "[I", true)
  | 12 => ("PigeonMailModel", "readClerks", "I", false)
  | 13 => ("PigeonMailModel", "readClerk", "[I", true)
  | 14 => ("PigeonMailModel", "page", "[I", true)
  | 15 => ("PigeonMailModel", "trial", "[I", true)
  | 16 => ("PigeonMailModel", "book", "[I", true)
  | 17 => ("PigeonMailModel", "acts", "I", false)
  | 18 => ("PigeonMailModel", "kept", "[I", true)
  | 19 => ("PigeonMailModel", "isKept", "[Z", true)
  | 20 => ("PigeonMailModel", "told", "I", false)
  | 21 => ("PigeonMailModel", "toldDay", "[I", true)
  | 22 => ("PigeonMailModel", "toldIs", "[I", true)
  | 23 => ("PigeonMailModel", "seed", "J", false)
  | 24 => ("PigeonMailModel", "some", "I", false)
  | 25 => ("PigeonMailModel", "did", "[I", true)
  | 26 => ("PigeonMailModel", "fewWay", "I", false)
  | 27 => ("PigeonMailModel", "few", "I", false)
  | 28 => ("PigeonMailModel", "mayMany", "I", false)
  | 29 => ("PigeonMailModel", "mayFirst", "I", false)
  | 30 => ("PigeonMailModel", "restMany", "I", false)
  | 31 => ("PigeonMailModel", "restFirst", "I", false)
  | 32 => ("PigeonMailModel", "gains", "[I", true)
  | _ => ("PigeonMailModel", "value", "[I", true)
def tyX9 : Nat → FieldType := fun k => match k with
  | 0 => .int
  | 1 => .array .int
  | 2 => .int
  | 3 => .int
  | 4 => .int
  | 5 => .array .int
  | 6 => .array .int
  | 7 => .int
  | 8 => .array .int
  | 9 => .int
  | 10 => .int
  | 11 => .array .int
  | 12 => .int
  | 13 => .array .int
  | 14 => .array .int
  | 15 => .array .int
  | 16 => .array .int
  | 17 => .int
  | 18 => .array .int
  | 19 => .array .boolean
  | 20 => .int
  | 21 => .array .int
  | 22 => .array .int
  | 23 => .long
  | 24 => .int
  | 25 => .array .int
  | 26 => .int
  | 27 => .int
  | 28 => .int
  | 29 => .int
  | 30 => .int
  | 31 => .int
  | 32 => .array .int
  | _ => .array .int
theorem nmX9 : ∀ a, a < 34 → ∀ b, b < 34 → a ≠ b → (TX9 a).2.1 ≠ (TX9 b).2.1 := by decide +kernel
theorem tyX9_ok : ∀ k, k < 34 → parseFieldDescriptor (TX9 k).2.2.1 = some (tyX9 k) := by decide +kernel
abbrev cX9_init : ByteArray := prog_11_method_1_code
def yX9_init : MethodName := ⟨RX9, "<init>", "()V"⟩
abbrev cX9_in : ByteArray := prog_11_method_3_code
def yX9_in : MethodName := ⟨RX9, "in", "(JJJ)Z"⟩
abbrev cX9_has : ByteArray := prog_11_method_4_code
def yX9_has : MethodName := ⟨RX9, "has", "(II)Z"⟩
abbrev cX9_many : ByteArray := prog_11_method_5_code
def yX9_many : MethodName := ⟨RX9, "many", "(I)I"⟩
abbrev cX9_power : ByteArray := prog_11_method_6_code
def yX9_power : MethodName := ⟨RX9, "power", "(II)I"⟩
abbrev cX9_noLetter : ByteArray := prog_11_method_7_code
def yX9_noLetter : MethodName := ⟨RX9, "noLetter", "(I)Z"⟩
abbrev cX9_noClerk : ByteArray := prog_11_method_8_code
def yX9_noClerk : MethodName := ⟨RX9, "noClerk", "(I)Z"⟩
abbrev cX9_write : ByteArray := prog_11_method_9_code
def yX9_write : MethodName := ⟨RX9, "write", "(I)I"⟩
abbrev cX9_wipe : ByteArray := prog_11_method_10_code
def yX9_wipe : MethodName := ⟨RX9, "wipe", "()I"⟩
abbrev cX9_from : ByteArray := prog_11_method_11_code
def yX9_from : MethodName := ⟨RX9, "from", "(III)I"⟩
abbrev cX9_readIn : ByteArray := prog_11_method_12_code
def yX9_readIn : MethodName := ⟨RX9, "readIn", "(I)I"⟩
abbrev cX9_readOneLetter : ByteArray := prog_11_method_13_code
def yX9_readOneLetter : MethodName := ⟨RX9, "readOneLetter", "()Z"⟩
abbrev cX9_readOneClerk : ByteArray := prog_11_method_14_code
def yX9_readOneClerk : MethodName := ⟨RX9, "readOneClerk", "()Z"⟩
abbrev cX9_readThing : ByteArray := prog_11_method_15_code
def yX9_readThing : MethodName := ⟨RX9, "readThing", "()Z"⟩
abbrev cX9_readRoom : ByteArray := prog_11_method_16_code
def yX9_readRoom : MethodName := ⟨RX9, "readRoom", "()I"⟩
abbrev cX9_fault : ByteArray := prog_11_method_17_code
def yX9_fault : MethodName := ⟨RX9, "fault", "()I"⟩
abbrev cX9_room : ByteArray := prog_11_method_18_code
def yX9_room : MethodName := ⟨RX9, "room", "()I"⟩
abbrev cX9_halfOf : ByteArray := prog_11_method_19_code
def yX9_halfOf : MethodName := ⟨RX9, "halfOf", "(I)I"⟩
abbrev cX9_needs : ByteArray := prog_11_method_20_code
def yX9_needs : MethodName := ⟨RX9, "needs", "([II)I"⟩
abbrev cX9_toWait : ByteArray := prog_11_method_21_code
def yX9_toWait : MethodName := ⟨RX9, "toWait", "([II)I"⟩
abbrev cX9_thatAre : ByteArray := prog_11_method_22_code
def yX9_thatAre : MethodName := ⟨RX9, "thatAre", "([II)I"⟩
abbrev cX9_lost : ByteArray := prog_11_method_23_code
def yX9_lost : MethodName := ⟨RX9, "lost", "([I)I"⟩
abbrev cX9_inHole : ByteArray := prog_11_method_24_code
def yX9_inHole : MethodName := ⟨RX9, "inHole", "([II)I"⟩
abbrev cX9_pairs : ByteArray := prog_11_method_25_code
def yX9_pairs : MethodName := ⟨RX9, "pairs", "()I"⟩
abbrev cX9_nextOf : ByteArray := prog_11_method_26_code
def yX9_nextOf : MethodName := ⟨RX9, "nextOf", "([II)I"⟩
abbrev cX9_answer : ByteArray := prog_11_method_27_code
def yX9_answer : MethodName := ⟨RX9, "answer", "([II)V"⟩
abbrev cX9_putOut : ByteArray := prog_11_method_28_code
def yX9_putOut : MethodName := ⟨RX9, "putOut", "([II)V"⟩
abbrev cX9_hatch : ByteArray := prog_11_method_29_code
def yX9_hatch : MethodName := ⟨RX9, "hatch", "([I)I"⟩
abbrev cX9_goDay : ByteArray := prog_11_method_30_code
def yX9_goDay : MethodName := ⟨RX9, "goDay", "([I)I"⟩
abbrev cX9_goDays : ByteArray := prog_11_method_31_code
def yX9_goDays : MethodName := ⟨RX9, "goDays", "(I)V"⟩
abbrev cX9_about : ByteArray := prog_11_method_32_code
def yX9_about : MethodName := ⟨RX9, "about", "(I)I"⟩
abbrev cX9_letter : ByteArray := prog_11_method_33_code
def yX9_letter : MethodName := ⟨RX9, "letter", "(II)I"⟩
abbrev cX9_clerk : ByteArray := prog_11_method_34_code
def yX9_clerk : MethodName := ⟨RX9, "clerk", "(II)I"⟩
abbrev cX9_hole : ByteArray := prog_11_method_35_code
def yX9_hole : MethodName := ⟨RX9, "hole", "(I)I"⟩
abbrev cX9_note : ByteArray := prog_11_method_36_code
def yX9_note : MethodName := ⟨RX9, "note", "()V"⟩
abbrev cX9_day : ByteArray := prog_11_method_37_code
def yX9_day : MethodName := ⟨RX9, "day", "()I"⟩
abbrev cX9_canPut : ByteArray := prog_11_method_38_code
def yX9_canPut : MethodName := ⟨RX9, "canPut", "([III)Z"⟩
abbrev cX9_put : ByteArray := prog_11_method_39_code
def yX9_put : MethodName := ⟨RX9, "put", "(II)I"⟩
abbrev cX9_goFeed : ByteArray := prog_11_method_40_code
def yX9_goFeed : MethodName := ⟨RX9, "goFeed", "([II)V"⟩
abbrev cX9_feed : ByteArray := prog_11_method_41_code
def yX9_feed : MethodName := ⟨RX9, "feed", "(I)I"⟩
abbrev cX9_send : ByteArray := prog_11_method_42_code
def yX9_send : MethodName := ⟨RX9, "send", "(II)I"⟩
abbrev cX9_undo : ByteArray := prog_11_method_43_code
def yX9_undo : MethodName := ⟨RX9, "undo", "()I"⟩
abbrev cX9_begin : ByteArray := prog_11_method_44_code
def yX9_begin : MethodName := ⟨RX9, "begin", "()V"⟩
abbrev cX9_ahead : ByteArray := prog_11_method_45_code
def yX9_ahead : MethodName := ⟨RX9, "ahead", "(II)I"⟩
abbrev cX9_hatchesThen : ByteArray := prog_11_method_46_code
def yX9_hatchesThen : MethodName := ⟨RX9, "hatchesThen", "(I)I"⟩
abbrev cX9_hatches : ByteArray := prog_11_method_47_code
def yX9_hatches : MethodName := ⟨RX9, "hatches", "(I)I"⟩
abbrev cX9_rows : ByteArray := prog_11_method_48_code
def yX9_rows : MethodName := ⟨RX9, "rows", "(Z)I"⟩
abbrev cX9_saved : ByteArray := prog_11_method_49_code
def yX9_saved : MethodName := ⟨RX9, "saved", "(I)I"⟩
abbrev cX9_isQuiet : ByteArray := prog_11_method_50_code
def yX9_isQuiet : MethodName := ⟨RX9, "isQuiet", "(I)Z"⟩
abbrev cX9_quiet : ByteArray := prog_11_method_51_code
def yX9_quiet : MethodName := ⟨RX9, "quiet", "()I"⟩
abbrev cX9_longPower : ByteArray := prog_11_method_52_code
def yX9_longPower : MethodName := ⟨RX9, "longPower", "(JI)J"⟩
abbrev cX9_does : ByteArray := prog_11_method_53_code
def yX9_does : MethodName := ⟨RX9, "does", "(I)Z"⟩
abbrev cX9_judge : ByteArray := prog_11_method_54_code
def yX9_judge : MethodName := ⟨RX9, "judge", "(IJ)I"⟩
abbrev cX9_ways : ByteArray := prog_11_method_55_code
def yX9_ways : MethodName := ⟨RX9, "ways", "(I)I"⟩
abbrev cX9_divisor : ByteArray := prog_11_method_56_code
def yX9_divisor : MethodName := ⟨RX9, "divisor", "(II)I"⟩
abbrev cX9_fraction : ByteArray := prog_11_method_57_code
def yX9_fraction : MethodName := ⟨RX9, "fraction", "(IIZ)I"⟩
abbrev cX9_share : ByteArray := prog_11_method_58_code
def yX9_share : MethodName := ⟨RX9, "share", "(IZ)I"⟩
abbrev cX9_tell : ByteArray := prog_11_method_59_code
def yX9_tell : MethodName := ⟨RX9, "tell", "(II)I"⟩
abbrev cX9_untell : ByteArray := prog_11_method_60_code
def yX9_untell : MethodName := ⟨RX9, "untell", "()I"⟩
abbrev cX9_may : ByteArray := prog_11_method_61_code
def yX9_may : MethodName := ⟨RX9, "may", "(I)I"⟩
abbrev cX9_layGains : ByteArray := prog_11_method_62_code
def yX9_layGains : MethodName := ⟨RX9, "layGains", "(III)V"⟩
abbrev cX9_rests : ByteArray := prog_11_method_63_code
def yX9_rests : MethodName := ⟨RX9, "rests", "(III)I"⟩
abbrev cX9_hawks : ByteArray := prog_11_method_64_code
def yX9_hawks : MethodName := ⟨RX9, "hawks", "(IIZ)I"⟩
abbrev cX9_seed : ByteArray := prog_11_method_65_code
def yX9_seed : MethodName := ⟨RX9, "seed", "(J)J"⟩
abbrev cX9_years : ByteArray := prog_11_method_66_code
def yX9_years : MethodName := ⟨RX9, "years", "(I)I"⟩
abbrev cX9_keep : ByteArray := prog_11_method_67_code
def yX9_keep : MethodName := ⟨RX9, "keep", "(I)I"⟩
abbrev cX9_again : ByteArray := prog_11_method_68_code
def yX9_again : MethodName := ⟨RX9, "again", "(I)I"⟩
def RJ6 : String := "java/lang/Integer"
def TJ6 : u_T := fun k => match k with
  | _ => ("", "", "", false)
def tyJ6 : Nat → FieldType := fun k => match k with
  | _ => .int
theorem nmJ6 : ∀ a, a < 0 → ∀ b, b < 0 → a ≠ b → (TJ6 a).2.1 ≠ (TJ6 b).2.1 := by decide +kernel
theorem tyJ6_ok : ∀ k, k < 0 → parseFieldDescriptor (TJ6 k).2.2.1 = some (tyJ6 k) := by decide +kernel
abbrev cJ6_bitCount_0f7a4 : ByteArray := prog_12_method_49_code
def yJ6_bitCount_0f7a4 : MethodName := ⟨RJ6, "bitCount", "(I)I"⟩
def RJ9 : String := "java/lang/Math"
def TJ9 : u_T := fun k => match k with
  | _ => ("", "", "", false)
def tyJ9 : Nat → FieldType := fun k => match k with
  | _ => .int
theorem nmJ9 : ∀ a, a < 0 → ∀ b, b < 0 → a ≠ b → (TJ9 a).2.1 ≠ (TJ9 b).2.1 := by decide +kernel
theorem tyJ9_ok : ∀ k, k < 0 → parseFieldDescriptor (TJ9 k).2.2.1 = some (tyJ9 k) := by decide +kernel
abbrev cJ9_abs_0f7a4 : ByteArray := prog_13_method_59_code
def yJ9_abs_0f7a4 : MethodName := ⟨RJ9, "abs", "(I)I"⟩
abbrev cJ9_max_7cf53 : ByteArray := prog_13_method_65_code
def yJ9_max_7cf53 : MethodName := ⟨RJ9, "max", "(II)I"⟩
abbrev cJ9_min_7cf53 : ByteArray := prog_13_method_69_code
def yJ9_min_7cf53 : MethodName := ⟨RJ9, "min", "(II)I"⟩
def RJ10 : String := "java/lang/System"
def TJ10 : u_T := fun k => match k with
  | _ => ("", "", "", false)
def tyJ10 : Nat → FieldType := fun k => match k with
  | _ => .int
theorem nmJ10 : ∀ a, a < 0 → ∀ b, b < 0 → a ≠ b → (TJ10 a).2.1 ≠ (TJ10 b).2.1 := by decide +kernel
theorem tyJ10_ok : ∀ k, k < 0 → parseFieldDescriptor (TJ10 k).2.2.1 = some (tyJ10 k) := by decide +kernel
def RL : String := "PigeonMailLaw"
abbrev cL_law : ByteArray := code
def yL_law : MethodName := ⟨RL, "law", "([I)Z"⟩
abbrev vwCl : List vw_C := [(RX0, TX0, 1), (RX1, TX1, 3), (RX2, TX2, 8), (RX3, TX3, 3), (RX4, TX4, 9), (RX5, TX5, 3), (RX6, TX6, 2), (RX7, TX7, 3), (RX8, TX8, 10), (RX9, TX9, 34)]
end
section
theorem dX0_init_0 : decode cX0_init 0 = .ok (.aload_n 0, 1) := by decide +kernel
theorem dX0_init_1 : decode cX0_init 1 = .ok (.invokespecial 3, 3) := by decide +kernel
theorem dX0_init_4 : decode cX0_init 4 = .ok (.aload_n 0, 1) := by decide +kernel
theorem dX0_init_5 : decode cX0_init 5 = .ok (.bipush 7, 2) := by decide +kernel
theorem dX0_init_7 : decode cX0_init 7 = .ok (.newarray .int, 2) := by decide +kernel
theorem dX0_init_9 : decode cX0_init 9 = .ok (.putfield 9, 3) := by decide +kernel
theorem dX0_init_12 : decode cX0_init 12 = .ok (.return_, 1) := by decide +kernel
theorem dX0_left_0 : decode cX0_left 0 = .ok (.aload_n 0, 1) := by decide +kernel
theorem dX0_left_1 : decode cX0_left 1 = .ok (.iload_n 1, 1) := by decide +kernel
theorem dX0_left_2 : decode cX0_left 2 = .ok (.bipush 6, 2) := by decide +kernel
theorem dX0_left_4 : decode cX0_left 4 = .ok (.invokestatic 15, 3) := by decide +kernel
theorem dX0_left_7 : decode cX0_left 7 = .ok (.iload_n 3, 1) := by decide +kernel
theorem dX0_left_8 : decode cX0_left 8 = .ok (.invokevirtual 21, 3) := by decide +kernel
theorem dX0_left_11 : decode cX0_left 11 = .ok (.istore 5, 2) := by decide +kernel
theorem dX0_left_13 : decode cX0_left 13 = .ok (.iconst 0, 1) := by decide +kernel
theorem dX0_left_14 : decode cX0_left 14 = .ok (.istore 6, 2) := by decide +kernel
theorem dX0_left_16 : decode cX0_left 16 = .ok (.iconst 0, 1) := by decide +kernel
theorem dX0_left_17 : decode cX0_left 17 = .ok (.iload_n 2, 1) := by decide +kernel
theorem dX0_left_18 : decode cX0_left 18 = .ok (.invokestatic 24, 3) := by decide +kernel
theorem dX0_left_21 : decode cX0_left 21 = .ok (.istore 7, 2) := by decide +kernel
theorem dX0_left_23 : decode cX0_left 23 = .ok (.iload 7, 2) := by decide +kernel
theorem dX0_left_25 : decode cX0_left 25 = .ok (.bipush 6, 2) := by decide +kernel
theorem dX0_left_27 : decode cX0_left 27 = .ok (.if_icmp .gt 21, 3) := by decide +kernel
theorem dX0_left_30 : decode cX0_left 30 = .ok (.iload 6, 2) := by decide +kernel
theorem dX0_left_32 : decode cX0_left 32 = .ok (.aload_n 0, 1) := by decide +kernel
theorem dX0_left_33 : decode cX0_left 33 = .ok (.getfield 9, 3) := by decide +kernel
theorem dX0_left_36 : decode cX0_left 36 = .ok (.iload 7, 2) := by decide +kernel
theorem dX0_left_38 : decode cX0_left 38 = .ok (.iaload, 1) := by decide +kernel
theorem dX0_left_39 : decode cX0_left 39 = .ok (.iadd, 1) := by decide +kernel
theorem dX0_left_40 : decode cX0_left 40 = .ok (.istore 6, 2) := by decide +kernel
theorem dX0_left_42 : decode cX0_left 42 = .ok (.iinc 7 1, 3) := by decide +kernel
theorem dX0_left_45 : decode cX0_left 45 = .ok (.goto (-22), 3) := by decide +kernel
theorem dX0_left_48 : decode cX0_left 48 = .ok (.iload 6, 2) := by decide +kernel
theorem dX0_left_50 : decode cX0_left 50 = .ok (.iconst 1, 1) := by decide +kernel
theorem dX0_left_51 : decode cX0_left 51 = .ok (.iload 5, 2) := by decide +kernel
theorem dX0_left_53 : decode cX0_left 53 = .ok (.invokestatic 24, 3) := by decide +kernel
theorem dX0_left_56 : decode cX0_left 56 = .ok (.iload 4, 2) := by decide +kernel
theorem dX0_left_58 : decode cX0_left 58 = .ok (.invokestatic 27, 3) := by decide +kernel
theorem dX0_left_61 : decode cX0_left 61 = .ok (.ireturn, 1) := by decide +kernel
theorem dX0_fill_0 : decode cX0_fill 0 = .ok (.iconst 1, 1) := by decide +kernel
theorem dX0_fill_1 : decode cX0_fill 1 = .ok (.istore_n 3, 1) := by decide +kernel
theorem dX0_fill_2 : decode cX0_fill 2 = .ok (.iload_n 3, 1) := by decide +kernel
theorem dX0_fill_3 : decode cX0_fill 3 = .ok (.bipush 6, 2) := by decide +kernel
theorem dX0_fill_5 : decode cX0_fill 5 = .ok (.if_icmp .gt 16, 3) := by decide +kernel
theorem dX0_fill_8 : decode cX0_fill 8 = .ok (.aload_n 0, 1) := by decide +kernel
theorem dX0_fill_9 : decode cX0_fill 9 = .ok (.getfield 9, 3) := by decide +kernel
theorem dX0_fill_12 : decode cX0_fill 12 = .ok (.iload_n 3, 1) := by decide +kernel
theorem dX0_fill_13 : decode cX0_fill 13 = .ok (.iconst 0, 1) := by decide +kernel
theorem dX0_fill_14 : decode cX0_fill 14 = .ok (.iastore, 1) := by decide +kernel
theorem dX0_fill_15 : decode cX0_fill 15 = .ok (.iinc 3 1, 3) := by decide +kernel
theorem dX0_fill_18 : decode cX0_fill 18 = .ok (.goto (-16), 3) := by decide +kernel
theorem dX0_fill_21 : decode cX0_fill 21 = .ok (.aload_n 0, 1) := by decide +kernel
theorem dX0_fill_22 : decode cX0_fill 22 = .ok (.getfield 9, 3) := by decide +kernel
theorem dX0_fill_25 : decode cX0_fill 25 = .ok (.iconst 0, 1) := by decide +kernel
theorem dX0_fill_26 : decode cX0_fill 26 = .ok (.iconst 1, 1) := by decide +kernel
theorem dX0_fill_27 : decode cX0_fill 27 = .ok (.iastore, 1) := by decide +kernel
theorem dX0_fill_28 : decode cX0_fill 28 = .ok (.iconst 1, 1) := by decide +kernel
theorem dX0_fill_29 : decode cX0_fill 29 = .ok (.istore_n 3, 1) := by decide +kernel
theorem dX0_fill_30 : decode cX0_fill 30 = .ok (.iconst 0, 1) := by decide +kernel
theorem dX0_fill_31 : decode cX0_fill 31 = .ok (.istore 4, 2) := by decide +kernel
theorem dX0_fill_33 : decode cX0_fill 33 = .ok (.iload 4, 2) := by decide +kernel
theorem dX0_fill_35 : decode cX0_fill 35 = .ok (.iload_n 1, 1) := by decide +kernel
theorem dX0_fill_36 : decode cX0_fill 36 = .ok (.if_icmp .ge 70, 3) := by decide +kernel
theorem dX0_fill_39 : decode cX0_fill 39 = .ok (.bipush 6, 2) := by decide +kernel
theorem dX0_fill_41 : decode cX0_fill 41 = .ok (.istore 5, 2) := by decide +kernel
theorem dX0_fill_43 : decode cX0_fill 43 = .ok (.iload 5, 2) := by decide +kernel
theorem dX0_fill_45 : decode cX0_fill 45 = .ok (.ifCond .le 40, 3) := by decide +kernel
theorem dX0_fill_48 : decode cX0_fill 48 = .ok (.aload_n 0, 1) := by decide +kernel
theorem dX0_fill_49 : decode cX0_fill 49 = .ok (.getfield 9, 3) := by decide +kernel
theorem dX0_fill_52 : decode cX0_fill 52 = .ok (.iload 5, 2) := by decide +kernel
theorem dX0_fill_54 : decode cX0_fill 54 = .ok (.aload_n 0, 1) := by decide +kernel
theorem dX0_fill_55 : decode cX0_fill 55 = .ok (.getfield 9, 3) := by decide +kernel
theorem dX0_fill_58 : decode cX0_fill 58 = .ok (.iload 5, 2) := by decide +kernel
theorem dX0_fill_60 : decode cX0_fill 60 = .ok (.iaload, 1) := by decide +kernel
theorem dX0_fill_61 : decode cX0_fill 61 = .ok (.iload_n 2, 1) := by decide +kernel
theorem dX0_fill_62 : decode cX0_fill 62 = .ok (.imul, 1) := by decide +kernel
theorem dX0_fill_63 : decode cX0_fill 63 = .ok (.aload_n 0, 1) := by decide +kernel
theorem dX0_fill_64 : decode cX0_fill 64 = .ok (.getfield 9, 3) := by decide +kernel
theorem dX0_fill_67 : decode cX0_fill 67 = .ok (.iload 5, 2) := by decide +kernel
theorem dX0_fill_69 : decode cX0_fill 69 = .ok (.iconst 1, 1) := by decide +kernel
theorem dX0_fill_70 : decode cX0_fill 70 = .ok (.isub, 1) := by decide +kernel
theorem dX0_fill_71 : decode cX0_fill 71 = .ok (.iaload, 1) := by decide +kernel
theorem dX0_fill_72 : decode cX0_fill 72 = .ok (.bipush 10, 2) := by decide +kernel
theorem dX0_fill_74 : decode cX0_fill 74 = .ok (.iload_n 2, 1) := by decide +kernel
theorem dX0_fill_75 : decode cX0_fill 75 = .ok (.isub, 1) := by decide +kernel
theorem dX0_fill_76 : decode cX0_fill 76 = .ok (.imul, 1) := by decide +kernel
theorem dX0_fill_77 : decode cX0_fill 77 = .ok (.iadd, 1) := by decide +kernel
theorem dX0_fill_78 : decode cX0_fill 78 = .ok (.iastore, 1) := by decide +kernel
theorem dX0_fill_79 : decode cX0_fill 79 = .ok (.iinc 5 (-1), 3) := by decide +kernel
theorem dX0_fill_82 : decode cX0_fill 82 = .ok (.goto (-39), 3) := by decide +kernel
theorem dX0_fill_85 : decode cX0_fill 85 = .ok (.aload_n 0, 1) := by decide +kernel
theorem dX0_fill_86 : decode cX0_fill 86 = .ok (.getfield 9, 3) := by decide +kernel
theorem dX0_fill_89 : decode cX0_fill 89 = .ok (.iconst 0, 1) := by decide +kernel
theorem dX0_fill_90 : decode cX0_fill 90 = .ok (.dup2, 1) := by decide +kernel
theorem dX0_fill_91 : decode cX0_fill 91 = .ok (.iaload, 1) := by decide +kernel
theorem dX0_fill_92 : decode cX0_fill 92 = .ok (.iload_n 2, 1) := by decide +kernel
theorem dX0_fill_93 : decode cX0_fill 93 = .ok (.imul, 1) := by decide +kernel
theorem dX0_fill_94 : decode cX0_fill 94 = .ok (.iastore, 1) := by decide +kernel
theorem dX0_fill_95 : decode cX0_fill 95 = .ok (.iload_n 3, 1) := by decide +kernel
theorem dX0_fill_96 : decode cX0_fill 96 = .ok (.bipush 10, 2) := by decide +kernel
theorem dX0_fill_98 : decode cX0_fill 98 = .ok (.imul, 1) := by decide +kernel
theorem dX0_fill_99 : decode cX0_fill 99 = .ok (.istore_n 3, 1) := by decide +kernel
theorem dX0_fill_100 : decode cX0_fill 100 = .ok (.iinc 4 1, 3) := by decide +kernel
theorem dX0_fill_103 : decode cX0_fill 103 = .ok (.goto (-70), 3) := by decide +kernel
theorem dX0_fill_106 : decode cX0_fill 106 = .ok (.iload_n 3, 1) := by decide +kernel
theorem dX0_fill_107 : decode cX0_fill 107 = .ok (.ireturn, 1) := by decide +kernel
theorem dX1_init_0 : decode cX1_init 0 = .ok (.aload_n 0, 1) := by decide +kernel
theorem dX1_init_1 : decode cX1_init 1 = .ok (.invokespecial 5, 3) := by decide +kernel
theorem dX1_init_4 : decode cX1_init 4 = .ok (.aload_n 0, 1) := by decide +kernel
theorem dX1_init_5 : decode cX1_init 5 = .ok (.bipush 23, 2) := by decide +kernel
theorem dX1_init_7 : decode cX1_init 7 = .ok (.newarray .int, 2) := by decide +kernel
theorem dX1_init_9 : decode cX1_init 9 = .ok (.putfield 11, 3) := by decide +kernel
theorem dX1_init_12 : decode cX1_init 12 = .ok (.aload_n 0, 1) := by decide +kernel
theorem dX1_init_13 : decode cX1_init 13 = .ok (.iconst 3, 1) := by decide +kernel
theorem dX1_init_14 : decode cX1_init 14 = .ok (.newarray .int, 2) := by decide +kernel
theorem dX1_init_16 : decode cX1_init 16 = .ok (.putfield 15, 3) := by decide +kernel
theorem dX1_init_19 : decode cX1_init 19 = .ok (.aload_n 0, 1) := by decide +kernel
theorem dX1_init_20 : decode cX1_init 20 = .ok (.aload_n 1, 1) := by decide +kernel
theorem dX1_init_21 : decode cX1_init 21 = .ok (.putfield 18, 3) := by decide +kernel
theorem dX1_init_24 : decode cX1_init 24 = .ok (.return_, 1) := by decide +kernel
theorem dX1_begin_0 : decode cX1_begin 0 = .ok (.iconst 0, 1) := by decide +kernel
theorem dX1_begin_1 : decode cX1_begin 1 = .ok (.istore_n 1, 1) := by decide +kernel
theorem dX1_begin_2 : decode cX1_begin 2 = .ok (.iload_n 1, 1) := by decide +kernel
theorem dX1_begin_3 : decode cX1_begin 3 = .ok (.aload_n 0, 1) := by decide +kernel
theorem dX1_begin_4 : decode cX1_begin 4 = .ok (.getfield 18, 3) := by decide +kernel
theorem dX1_begin_7 : decode cX1_begin 7 = .ok (.getfield 22, 3) := by decide +kernel
theorem dX1_begin_10 : decode cX1_begin 10 = .ok (.if_icmp .ge 46, 3) := by decide +kernel
theorem dX1_begin_13 : decode cX1_begin 13 = .ok (.aload_n 0, 1) := by decide +kernel
theorem dX1_begin_14 : decode cX1_begin 14 = .ok (.getfield 11, 3) := by decide +kernel
theorem dX1_begin_17 : decode cX1_begin 17 = .ok (.iconst 0, 1) := by decide +kernel
theorem dX1_begin_18 : decode cX1_begin 18 = .ok (.iload_n 1, 1) := by decide +kernel
theorem dX1_begin_19 : decode cX1_begin 19 = .ok (.iadd, 1) := by decide +kernel
theorem dX1_begin_20 : decode cX1_begin 20 = .ok (.aload_n 0, 1) := by decide +kernel
theorem dX1_begin_21 : decode cX1_begin 21 = .ok (.getfield 18, 3) := by decide +kernel
theorem dX1_begin_24 : decode cX1_begin 24 = .ok (.getfield 28, 3) := by decide +kernel
theorem dX1_begin_27 : decode cX1_begin 27 = .ok (.iload_n 1, 1) := by decide +kernel
theorem dX1_begin_28 : decode cX1_begin 28 = .ok (.iaload, 1) := by decide +kernel
theorem dX1_begin_29 : decode cX1_begin 29 = .ok (.iastore, 1) := by decide +kernel
theorem dX1_begin_30 : decode cX1_begin 30 = .ok (.aload_n 0, 1) := by decide +kernel
theorem dX1_begin_31 : decode cX1_begin 31 = .ok (.getfield 11, 3) := by decide +kernel
theorem dX1_begin_34 : decode cX1_begin 34 = .ok (.bipush 6, 2) := by decide +kernel
theorem dX1_begin_36 : decode cX1_begin 36 = .ok (.iload_n 1, 1) := by decide +kernel
theorem dX1_begin_37 : decode cX1_begin 37 = .ok (.iadd, 1) := by decide +kernel
theorem dX1_begin_38 : decode cX1_begin 38 = .ok (.iconst 0, 1) := by decide +kernel
theorem dX1_begin_39 : decode cX1_begin 39 = .ok (.iastore, 1) := by decide +kernel
theorem dX1_begin_40 : decode cX1_begin 40 = .ok (.aload_n 0, 1) := by decide +kernel
theorem dX1_begin_41 : decode cX1_begin 41 = .ok (.getfield 11, 3) := by decide +kernel
theorem dX1_begin_44 : decode cX1_begin 44 = .ok (.bipush 12, 2) := by decide +kernel
theorem dX1_begin_46 : decode cX1_begin 46 = .ok (.iload_n 1, 1) := by decide +kernel
theorem dX1_begin_47 : decode cX1_begin 47 = .ok (.iadd, 1) := by decide +kernel
theorem dX1_begin_48 : decode cX1_begin 48 = .ok (.iconst 0, 1) := by decide +kernel
theorem dX1_begin_49 : decode cX1_begin 49 = .ok (.iastore, 1) := by decide +kernel
theorem dX1_begin_50 : decode cX1_begin 50 = .ok (.iinc 1 1, 3) := by decide +kernel
theorem dX1_begin_53 : decode cX1_begin 53 = .ok (.goto (-51), 3) := by decide +kernel
theorem dX1_begin_56 : decode cX1_begin 56 = .ok (.iconst 0, 1) := by decide +kernel
theorem dX1_begin_57 : decode cX1_begin 57 = .ok (.istore_n 1, 1) := by decide +kernel
theorem dX1_begin_58 : decode cX1_begin 58 = .ok (.iload_n 1, 1) := by decide +kernel
theorem dX1_begin_59 : decode cX1_begin 59 = .ok (.aload_n 0, 1) := by decide +kernel
theorem dX1_begin_60 : decode cX1_begin 60 = .ok (.getfield 18, 3) := by decide +kernel
theorem dX1_begin_63 : decode cX1_begin 63 = .ok (.getfield 31, 3) := by decide +kernel
theorem dX1_begin_66 : decode cX1_begin 66 = .ok (.if_icmp .ge 27, 3) := by decide +kernel
theorem dX1_begin_69 : decode cX1_begin 69 = .ok (.aload_n 0, 1) := by decide +kernel
theorem dX1_begin_70 : decode cX1_begin 70 = .ok (.getfield 11, 3) := by decide +kernel
theorem dX1_begin_73 : decode cX1_begin 73 = .ok (.bipush 18, 2) := by decide +kernel
theorem dX1_begin_75 : decode cX1_begin 75 = .ok (.iload_n 1, 1) := by decide +kernel
theorem dX1_begin_76 : decode cX1_begin 76 = .ok (.iadd, 1) := by decide +kernel
theorem dX1_begin_77 : decode cX1_begin 77 = .ok (.aload_n 0, 1) := by decide +kernel
theorem dX1_begin_78 : decode cX1_begin 78 = .ok (.getfield 18, 3) := by decide +kernel
theorem dX1_begin_81 : decode cX1_begin 81 = .ok (.getfield 34, 3) := by decide +kernel
theorem dX1_begin_84 : decode cX1_begin 84 = .ok (.iload_n 1, 1) := by decide +kernel
theorem dX1_begin_85 : decode cX1_begin 85 = .ok (.iaload, 1) := by decide +kernel
theorem dX1_begin_86 : decode cX1_begin 86 = .ok (.iastore, 1) := by decide +kernel
theorem dX1_begin_87 : decode cX1_begin 87 = .ok (.iinc 1 1, 3) := by decide +kernel
theorem dX1_begin_90 : decode cX1_begin 90 = .ok (.goto (-32), 3) := by decide +kernel
theorem dX1_begin_93 : decode cX1_begin 93 = .ok (.aload_n 0, 1) := by decide +kernel
theorem dX1_begin_94 : decode cX1_begin 94 = .ok (.getfield 11, 3) := by decide +kernel
theorem dX1_begin_97 : decode cX1_begin 97 = .ok (.bipush 21, 2) := by decide +kernel
theorem dX1_begin_99 : decode cX1_begin 99 = .ok (.aload_n 0, 1) := by decide +kernel
theorem dX1_begin_100 : decode cX1_begin 100 = .ok (.getfield 18, 3) := by decide +kernel
theorem dX1_begin_103 : decode cX1_begin 103 = .ok (.getfield 37, 3) := by decide +kernel
theorem dX1_begin_106 : decode cX1_begin 106 = .ok (.iastore, 1) := by decide +kernel
theorem dX1_begin_107 : decode cX1_begin 107 = .ok (.aload_n 0, 1) := by decide +kernel
theorem dX1_begin_108 : decode cX1_begin 108 = .ok (.getfield 11, 3) := by decide +kernel
theorem dX1_begin_111 : decode cX1_begin 111 = .ok (.bipush 22, 2) := by decide +kernel
theorem dX1_begin_113 : decode cX1_begin 113 = .ok (.iconst 0, 1) := by decide +kernel
theorem dX1_begin_114 : decode cX1_begin 114 = .ok (.iastore, 1) := by decide +kernel
theorem dX1_begin_115 : decode cX1_begin 115 = .ok (.return_, 1) := by decide +kernel
theorem dX1_beLike_0 : decode cX1_beLike 0 = .ok (.aload_n 1, 1) := by decide +kernel
theorem dX1_beLike_1 : decode cX1_beLike 1 = .ok (.getfield 11, 3) := by decide +kernel
theorem dX1_beLike_4 : decode cX1_beLike 4 = .ok (.iconst 0, 1) := by decide +kernel
theorem dX1_beLike_5 : decode cX1_beLike 5 = .ok (.aload_n 0, 1) := by decide +kernel
theorem dX1_beLike_6 : decode cX1_beLike 6 = .ok (.getfield 11, 3) := by decide +kernel
theorem dX1_beLike_9 : decode cX1_beLike 9 = .ok (.iconst 0, 1) := by decide +kernel
theorem dX1_beLike_10 : decode cX1_beLike 10 = .ok (.bipush 23, 2) := by decide +kernel
theorem dX1_beLike_12 : decode cX1_beLike 12 = .ok (.invokestatic 40, 3) := by decide +kernel
theorem dX1_beLike_15 : decode cX1_beLike 15 = .ok (.iconst 0, 1) := by decide +kernel
theorem dX1_beLike_16 : decode cX1_beLike 16 = .ok (.istore_n 2, 1) := by decide +kernel
theorem dX1_beLike_17 : decode cX1_beLike 17 = .ok (.iload_n 2, 1) := by decide +kernel
theorem dX1_beLike_18 : decode cX1_beLike 18 = .ok (.iconst 3, 1) := by decide +kernel
theorem dX1_beLike_19 : decode cX1_beLike 19 = .ok (.if_icmp .ge 16, 3) := by decide +kernel
theorem dX1_beLike_22 : decode cX1_beLike 22 = .ok (.aload_n 0, 1) := by decide +kernel
theorem dX1_beLike_23 : decode cX1_beLike 23 = .ok (.getfield 15, 3) := by decide +kernel
theorem dX1_beLike_26 : decode cX1_beLike 26 = .ok (.iload_n 2, 1) := by decide +kernel
theorem dX1_beLike_27 : decode cX1_beLike 27 = .ok (.iconst 0, 1) := by decide +kernel
theorem dX1_beLike_28 : decode cX1_beLike 28 = .ok (.iastore, 1) := by decide +kernel
theorem dX1_beLike_29 : decode cX1_beLike 29 = .ok (.iinc 2 1, 3) := by decide +kernel
theorem dX1_beLike_32 : decode cX1_beLike 32 = .ok (.goto (-15), 3) := by decide +kernel
theorem dX1_beLike_35 : decode cX1_beLike 35 = .ok (.return_, 1) := by decide +kernel
theorem dX1_holeOf_0 : decode cX1_holeOf 0 = .ok (.aload_n 0, 1) := by decide +kernel
theorem dX1_holeOf_1 : decode cX1_holeOf 1 = .ok (.getfield 11, 3) := by decide +kernel
theorem dX1_holeOf_4 : decode cX1_holeOf 4 = .ok (.iconst 0, 1) := by decide +kernel
theorem dX1_holeOf_5 : decode cX1_holeOf 5 = .ok (.iload_n 1, 1) := by decide +kernel
theorem dX1_holeOf_6 : decode cX1_holeOf 6 = .ok (.iadd, 1) := by decide +kernel
theorem dX1_holeOf_7 : decode cX1_holeOf 7 = .ok (.iaload, 1) := by decide +kernel
theorem dX1_holeOf_8 : decode cX1_holeOf 8 = .ok (.ireturn, 1) := by decide +kernel
theorem dX1_waitedOf_0 : decode cX1_waitedOf 0 = .ok (.aload_n 0, 1) := by decide +kernel
theorem dX1_waitedOf_1 : decode cX1_waitedOf 1 = .ok (.getfield 11, 3) := by decide +kernel
theorem dX1_waitedOf_4 : decode cX1_waitedOf 4 = .ok (.bipush 6, 2) := by decide +kernel
theorem dX1_waitedOf_6 : decode cX1_waitedOf 6 = .ok (.iload_n 1, 1) := by decide +kernel
theorem dX1_waitedOf_7 : decode cX1_waitedOf 7 = .ok (.iadd, 1) := by decide +kernel
theorem dX1_waitedOf_8 : decode cX1_waitedOf 8 = .ok (.iaload, 1) := by decide +kernel
theorem dX1_waitedOf_9 : decode cX1_waitedOf 9 = .ok (.ireturn, 1) := by decide +kernel
theorem dX1_fateOf_0 : decode cX1_fateOf 0 = .ok (.aload_n 0, 1) := by decide +kernel
theorem dX1_fateOf_1 : decode cX1_fateOf 1 = .ok (.getfield 11, 3) := by decide +kernel
theorem dX1_fateOf_4 : decode cX1_fateOf 4 = .ok (.bipush 12, 2) := by decide +kernel
theorem dX1_fateOf_6 : decode cX1_fateOf 6 = .ok (.iload_n 1, 1) := by decide +kernel
theorem dX1_fateOf_7 : decode cX1_fateOf 7 = .ok (.iadd, 1) := by decide +kernel
theorem dX1_fateOf_8 : decode cX1_fateOf 8 = .ok (.iaload, 1) := by decide +kernel
theorem dX1_fateOf_9 : decode cX1_fateOf 9 = .ok (.ireturn, 1) := by decide +kernel
theorem dX1_rowOf_0 : decode cX1_rowOf 0 = .ok (.aload_n 0, 1) := by decide +kernel
theorem dX1_rowOf_1 : decode cX1_rowOf 1 = .ok (.getfield 11, 3) := by decide +kernel
theorem dX1_rowOf_4 : decode cX1_rowOf 4 = .ok (.bipush 18, 2) := by decide +kernel
theorem dX1_rowOf_6 : decode cX1_rowOf 6 = .ok (.iload_n 1, 1) := by decide +kernel
theorem dX1_rowOf_7 : decode cX1_rowOf 7 = .ok (.iadd, 1) := by decide +kernel
theorem dX1_rowOf_8 : decode cX1_rowOf 8 = .ok (.iaload, 1) := by decide +kernel
theorem dX1_rowOf_9 : decode cX1_rowOf 9 = .ok (.ireturn, 1) := by decide +kernel
theorem dX1_grain_0 : decode cX1_grain 0 = .ok (.aload_n 0, 1) := by decide +kernel
theorem dX1_grain_1 : decode cX1_grain 1 = .ok (.getfield 11, 3) := by decide +kernel
theorem dX1_grain_4 : decode cX1_grain 4 = .ok (.bipush 21, 2) := by decide +kernel
theorem dX1_grain_6 : decode cX1_grain 6 = .ok (.iaload, 1) := by decide +kernel
theorem dX1_grain_7 : decode cX1_grain 7 = .ok (.ireturn, 1) := by decide +kernel
theorem dX1_theDay_0 : decode cX1_theDay 0 = .ok (.aload_n 0, 1) := by decide +kernel
theorem dX1_theDay_1 : decode cX1_theDay 1 = .ok (.getfield 11, 3) := by decide +kernel
theorem dX1_theDay_4 : decode cX1_theDay 4 = .ok (.bipush 22, 2) := by decide +kernel
theorem dX1_theDay_6 : decode cX1_theDay 6 = .ok (.iaload, 1) := by decide +kernel
theorem dX1_theDay_7 : decode cX1_theDay 7 = .ok (.ireturn, 1) := by decide +kernel
theorem dX1_who_0 : decode cX1_who 0 = .ok (.iconst 0, 1) := by decide +kernel
theorem dX1_who_1 : decode cX1_who 1 = .ok (.istore_n 2, 1) := by decide +kernel
theorem dX1_who_2 : decode cX1_who 2 = .ok (.iconst 0, 1) := by decide +kernel
theorem dX1_who_3 : decode cX1_who 3 = .ok (.istore_n 3, 1) := by decide +kernel
theorem dX1_who_4 : decode cX1_who 4 = .ok (.iload_n 3, 1) := by decide +kernel
theorem dX1_who_5 : decode cX1_who 5 = .ok (.aload_n 0, 1) := by decide +kernel
theorem dX1_who_6 : decode cX1_who 6 = .ok (.getfield 18, 3) := by decide +kernel
theorem dX1_who_9 : decode cX1_who 9 = .ok (.getfield 22, 3) := by decide +kernel
theorem dX1_who_12 : decode cX1_who 12 = .ok (.if_icmp .ge 28, 3) := by decide +kernel
theorem dX1_who_15 : decode cX1_who 15 = .ok (.aload_n 0, 1) := by decide +kernel
theorem dX1_who_16 : decode cX1_who 16 = .ok (.getfield 11, 3) := by decide +kernel
theorem dX1_who_19 : decode cX1_who 19 = .ok (.bipush 12, 2) := by decide +kernel
theorem dX1_who_21 : decode cX1_who 21 = .ok (.iload_n 3, 1) := by decide +kernel
theorem dX1_who_22 : decode cX1_who 22 = .ok (.iadd, 1) := by decide +kernel
theorem dX1_who_23 : decode cX1_who 23 = .ok (.iaload, 1) := by decide +kernel
theorem dX1_who_24 : decode cX1_who 24 = .ok (.iload_n 1, 1) := by decide +kernel
theorem dX1_who_25 : decode cX1_who 25 = .ok (.if_icmp .ne 9, 3) := by decide +kernel
theorem dX1_who_28 : decode cX1_who 28 = .ok (.iload_n 2, 1) := by decide +kernel
theorem dX1_who_29 : decode cX1_who 29 = .ok (.iconst 1, 1) := by decide +kernel
theorem dX1_who_30 : decode cX1_who 30 = .ok (.iload_n 3, 1) := by decide +kernel
theorem dX1_who_31 : decode cX1_who 31 = .ok (.ishl, 1) := by decide +kernel
theorem dX1_who_32 : decode cX1_who 32 = .ok (.ior, 1) := by decide +kernel
theorem dX1_who_33 : decode cX1_who 33 = .ok (.istore_n 2, 1) := by decide +kernel
theorem dX1_who_34 : decode cX1_who 34 = .ok (.iinc 3 1, 3) := by decide +kernel
theorem dX1_who_37 : decode cX1_who 37 = .ok (.goto (-33), 3) := by decide +kernel
theorem dX1_who_40 : decode cX1_who 40 = .ok (.iload_n 2, 1) := by decide +kernel
theorem dX1_who_41 : decode cX1_who 41 = .ok (.ireturn, 1) := by decide +kernel
theorem dX1_lost_0 : decode cX1_lost 0 = .ok (.aload_n 0, 1) := by decide +kernel
theorem dX1_lost_1 : decode cX1_lost 1 = .ok (.iconst 2, 1) := by decide +kernel
theorem dX1_lost_2 : decode cX1_lost 2 = .ok (.invokevirtual 46, 3) := by decide +kernel
theorem dX1_lost_5 : decode cX1_lost 5 = .ok (.aload_n 0, 1) := by decide +kernel
theorem dX1_lost_6 : decode cX1_lost 6 = .ok (.iconst 3, 1) := by decide +kernel
theorem dX1_lost_7 : decode cX1_lost 7 = .ok (.invokevirtual 46, 3) := by decide +kernel
theorem dX1_lost_10 : decode cX1_lost 10 = .ok (.ior, 1) := by decide +kernel
theorem dX1_lost_11 : decode cX1_lost 11 = .ok (.invokestatic 50, 3) := by decide +kernel
theorem dX1_lost_14 : decode cX1_lost 14 = .ok (.ireturn, 1) := by decide +kernel
theorem dX1_whoIsIn_0 : decode cX1_whoIsIn 0 = .ok (.iconst 0, 1) := by decide +kernel
theorem dX1_whoIsIn_1 : decode cX1_whoIsIn 1 = .ok (.istore_n 2, 1) := by decide +kernel
theorem dX1_whoIsIn_2 : decode cX1_whoIsIn 2 = .ok (.iconst 0, 1) := by decide +kernel
theorem dX1_whoIsIn_3 : decode cX1_whoIsIn 3 = .ok (.istore_n 3, 1) := by decide +kernel
theorem dX1_whoIsIn_4 : decode cX1_whoIsIn 4 = .ok (.iload_n 3, 1) := by decide +kernel
theorem dX1_whoIsIn_5 : decode cX1_whoIsIn 5 = .ok (.aload_n 0, 1) := by decide +kernel
theorem dX1_whoIsIn_6 : decode cX1_whoIsIn 6 = .ok (.getfield 18, 3) := by decide +kernel
theorem dX1_whoIsIn_9 : decode cX1_whoIsIn 9 = .ok (.getfield 22, 3) := by decide +kernel
theorem dX1_whoIsIn_12 : decode cX1_whoIsIn 12 = .ok (.if_icmp .ge 49, 3) := by decide +kernel
theorem dX1_whoIsIn_15 : decode cX1_whoIsIn 15 = .ok (.aload_n 0, 1) := by decide +kernel
theorem dX1_whoIsIn_16 : decode cX1_whoIsIn 16 = .ok (.getfield 11, 3) := by decide +kernel
theorem dX1_whoIsIn_19 : decode cX1_whoIsIn 19 = .ok (.bipush 12, 2) := by decide +kernel
theorem dX1_whoIsIn_21 : decode cX1_whoIsIn 21 = .ok (.iload_n 3, 1) := by decide +kernel
theorem dX1_whoIsIn_22 : decode cX1_whoIsIn 22 = .ok (.iadd, 1) := by decide +kernel
theorem dX1_whoIsIn_23 : decode cX1_whoIsIn 23 = .ok (.iaload, 1) := by decide +kernel
theorem dX1_whoIsIn_24 : decode cX1_whoIsIn 24 = .ok (.istore 4, 2) := by decide +kernel
theorem dX1_whoIsIn_26 : decode cX1_whoIsIn 26 = .ok (.aload_n 0, 1) := by decide +kernel
theorem dX1_whoIsIn_27 : decode cX1_whoIsIn 27 = .ok (.getfield 11, 3) := by decide +kernel
theorem dX1_whoIsIn_30 : decode cX1_whoIsIn 30 = .ok (.iconst 0, 1) := by decide +kernel
theorem dX1_whoIsIn_31 : decode cX1_whoIsIn 31 = .ok (.iload_n 3, 1) := by decide +kernel
theorem dX1_whoIsIn_32 : decode cX1_whoIsIn 32 = .ok (.iadd, 1) := by decide +kernel
theorem dX1_whoIsIn_33 : decode cX1_whoIsIn 33 = .ok (.iaload, 1) := by decide +kernel
theorem dX1_whoIsIn_34 : decode cX1_whoIsIn 34 = .ok (.iload_n 1, 1) := by decide +kernel
theorem dX1_whoIsIn_35 : decode cX1_whoIsIn 35 = .ok (.if_icmp .ne 20, 3) := by decide +kernel
theorem dX1_whoIsIn_38 : decode cX1_whoIsIn 38 = .ok (.iload 4, 2) := by decide +kernel
theorem dX1_whoIsIn_40 : decode cX1_whoIsIn 40 = .ok (.ifCond .eq 9, 3) := by decide +kernel
theorem dX1_whoIsIn_43 : decode cX1_whoIsIn 43 = .ok (.iload 4, 2) := by decide +kernel
theorem dX1_whoIsIn_45 : decode cX1_whoIsIn 45 = .ok (.iconst 2, 1) := by decide +kernel
theorem dX1_whoIsIn_46 : decode cX1_whoIsIn 46 = .ok (.if_icmp .ne 9, 3) := by decide +kernel
theorem dX1_whoIsIn_49 : decode cX1_whoIsIn 49 = .ok (.iload_n 2, 1) := by decide +kernel
theorem dX1_whoIsIn_50 : decode cX1_whoIsIn 50 = .ok (.iconst 1, 1) := by decide +kernel
theorem dX1_whoIsIn_51 : decode cX1_whoIsIn 51 = .ok (.iload_n 3, 1) := by decide +kernel
theorem dX1_whoIsIn_52 : decode cX1_whoIsIn 52 = .ok (.ishl, 1) := by decide +kernel
theorem dX1_whoIsIn_53 : decode cX1_whoIsIn 53 = .ok (.ior, 1) := by decide +kernel
theorem dX1_whoIsIn_54 : decode cX1_whoIsIn 54 = .ok (.istore_n 2, 1) := by decide +kernel
theorem dX1_whoIsIn_55 : decode cX1_whoIsIn 55 = .ok (.iinc 3 1, 3) := by decide +kernel
theorem dX1_whoIsIn_58 : decode cX1_whoIsIn 58 = .ok (.goto (-54), 3) := by decide +kernel
theorem dX1_whoIsIn_61 : decode cX1_whoIsIn 61 = .ok (.iload_n 2, 1) := by decide +kernel
theorem dX1_whoIsIn_62 : decode cX1_whoIsIn 62 = .ok (.ireturn, 1) := by decide +kernel
theorem dX1_pairs_0 : decode cX1_pairs 0 = .ok (.aload_n 0, 1) := by decide +kernel
theorem dX1_pairs_1 : decode cX1_pairs 1 = .ok (.iconst 2, 1) := by decide +kernel
theorem dX1_pairs_2 : decode cX1_pairs 2 = .ok (.invokevirtual 46, 3) := by decide +kernel
theorem dX1_pairs_5 : decode cX1_pairs 5 = .ok (.istore_n 1, 1) := by decide +kernel
theorem dX1_pairs_6 : decode cX1_pairs 6 = .ok (.iconst 0, 1) := by decide +kernel
theorem dX1_pairs_7 : decode cX1_pairs 7 = .ok (.istore_n 2, 1) := by decide +kernel
theorem dX1_pairs_8 : decode cX1_pairs 8 = .ok (.iconst 0, 1) := by decide +kernel
theorem dX1_pairs_9 : decode cX1_pairs 9 = .ok (.istore_n 3, 1) := by decide +kernel
theorem dX1_pairs_10 : decode cX1_pairs 10 = .ok (.iload_n 3, 1) := by decide +kernel
theorem dX1_pairs_11 : decode cX1_pairs 11 = .ok (.bipush 12, 2) := by decide +kernel
theorem dX1_pairs_13 : decode cX1_pairs 13 = .ok (.if_icmp .ge 29, 3) := by decide +kernel
theorem dX1_pairs_16 : decode cX1_pairs 16 = .ok (.aload_n 0, 1) := by decide +kernel
theorem dX1_pairs_17 : decode cX1_pairs 17 = .ok (.iload_n 3, 1) := by decide +kernel
theorem dX1_pairs_18 : decode cX1_pairs 18 = .ok (.invokevirtual 55, 3) := by decide +kernel
theorem dX1_pairs_21 : decode cX1_pairs 21 = .ok (.iload_n 1, 1) := by decide +kernel
theorem dX1_pairs_22 : decode cX1_pairs 22 = .ok (.iand, 1) := by decide +kernel
theorem dX1_pairs_23 : decode cX1_pairs 23 = .ok (.invokestatic 50, 3) := by decide +kernel
theorem dX1_pairs_26 : decode cX1_pairs 26 = .ok (.iconst 2, 1) := by decide +kernel
theorem dX1_pairs_27 : decode cX1_pairs 27 = .ok (.if_icmp .lt 9, 3) := by decide +kernel
theorem dX1_pairs_30 : decode cX1_pairs 30 = .ok (.iload_n 2, 1) := by decide +kernel
theorem dX1_pairs_31 : decode cX1_pairs 31 = .ok (.iconst 1, 1) := by decide +kernel
theorem dX1_pairs_32 : decode cX1_pairs 32 = .ok (.iload_n 3, 1) := by decide +kernel
theorem dX1_pairs_33 : decode cX1_pairs 33 = .ok (.ishl, 1) := by decide +kernel
theorem dX1_pairs_34 : decode cX1_pairs 34 = .ok (.ior, 1) := by decide +kernel
theorem dX1_pairs_35 : decode cX1_pairs 35 = .ok (.istore_n 2, 1) := by decide +kernel
theorem dX1_pairs_36 : decode cX1_pairs 36 = .ok (.iinc 3 1, 3) := by decide +kernel
theorem dX1_pairs_39 : decode cX1_pairs 39 = .ok (.goto (-29), 3) := by decide +kernel
theorem dX1_pairs_42 : decode cX1_pairs 42 = .ok (.iload_n 2, 1) := by decide +kernel
theorem dX1_pairs_43 : decode cX1_pairs 43 = .ok (.ireturn, 1) := by decide +kernel
theorem dX1_daysLeft_0 : decode cX1_daysLeft 0 = .ok (.aload_n 0, 1) := by decide +kernel
theorem dX1_daysLeft_1 : decode cX1_daysLeft 1 = .ok (.getfield 18, 3) := by decide +kernel
theorem dX1_daysLeft_4 : decode cX1_daysLeft 4 = .ok (.getfield 58, 3) := by decide +kernel
theorem dX1_daysLeft_7 : decode cX1_daysLeft 7 = .ok (.iload_n 1, 1) := by decide +kernel
theorem dX1_daysLeft_8 : decode cX1_daysLeft 8 = .ok (.iaload, 1) := by decide +kernel
theorem dX1_daysLeft_9 : decode cX1_daysLeft 9 = .ok (.aload_n 0, 1) := by decide +kernel
theorem dX1_daysLeft_10 : decode cX1_daysLeft 10 = .ok (.getfield 11, 3) := by decide +kernel
theorem dX1_daysLeft_13 : decode cX1_daysLeft 13 = .ok (.bipush 6, 2) := by decide +kernel
theorem dX1_daysLeft_15 : decode cX1_daysLeft 15 = .ok (.iload_n 1, 1) := by decide +kernel
theorem dX1_daysLeft_16 : decode cX1_daysLeft 16 = .ok (.iadd, 1) := by decide +kernel
theorem dX1_daysLeft_17 : decode cX1_daysLeft 17 = .ok (.iaload, 1) := by decide +kernel
theorem dX1_daysLeft_18 : decode cX1_daysLeft 18 = .ok (.isub, 1) := by decide +kernel
theorem dX1_daysLeft_19 : decode cX1_daysLeft 19 = .ok (.istore_n 2, 1) := by decide +kernel
theorem dX1_daysLeft_20 : decode cX1_daysLeft 20 = .ok (.aload_n 0, 1) := by decide +kernel
theorem dX1_daysLeft_21 : decode cX1_daysLeft 21 = .ok (.getfield 18, 3) := by decide +kernel
theorem dX1_daysLeft_24 : decode cX1_daysLeft 24 = .ok (.getfield 61, 3) := by decide +kernel
theorem dX1_daysLeft_27 : decode cX1_daysLeft 27 = .ok (.iload_n 1, 1) := by decide +kernel
theorem dX1_daysLeft_28 : decode cX1_daysLeft 28 = .ok (.iaload, 1) := by decide +kernel
theorem dX1_daysLeft_29 : decode cX1_daysLeft 29 = .ok (.iconst 3, 1) := by decide +kernel
theorem dX1_daysLeft_30 : decode cX1_daysLeft 30 = .ok (.if_icmp .ne 68, 3) := by decide +kernel
theorem dX1_daysLeft_33 : decode cX1_daysLeft 33 = .ok (.aload_n 0, 1) := by decide +kernel
theorem dX1_daysLeft_34 : decode cX1_daysLeft 34 = .ok (.getfield 11, 3) := by decide +kernel
theorem dX1_daysLeft_37 : decode cX1_daysLeft 37 = .ok (.iconst 0, 1) := by decide +kernel
theorem dX1_daysLeft_38 : decode cX1_daysLeft 38 = .ok (.iload_n 1, 1) := by decide +kernel
theorem dX1_daysLeft_39 : decode cX1_daysLeft 39 = .ok (.iadd, 1) := by decide +kernel
theorem dX1_daysLeft_40 : decode cX1_daysLeft 40 = .ok (.iaload, 1) := by decide +kernel
theorem dX1_daysLeft_41 : decode cX1_daysLeft 41 = .ok (.istore_n 3, 1) := by decide +kernel
theorem dX1_daysLeft_42 : decode cX1_daysLeft 42 = .ok (.iconst 0, 1) := by decide +kernel
theorem dX1_daysLeft_43 : decode cX1_daysLeft 43 = .ok (.istore 4, 2) := by decide +kernel
theorem dX1_daysLeft_45 : decode cX1_daysLeft 45 = .ok (.iload 4, 2) := by decide +kernel
theorem dX1_daysLeft_47 : decode cX1_daysLeft 47 = .ok (.aload_n 0, 1) := by decide +kernel
theorem dX1_daysLeft_48 : decode cX1_daysLeft 48 = .ok (.getfield 18, 3) := by decide +kernel
theorem dX1_daysLeft_51 : decode cX1_daysLeft 51 = .ok (.getfield 22, 3) := by decide +kernel
theorem dX1_daysLeft_54 : decode cX1_daysLeft 54 = .ok (.if_icmp .ge 44, 3) := by decide +kernel
theorem dX1_daysLeft_57 : decode cX1_daysLeft 57 = .ok (.iload 4, 2) := by decide +kernel
theorem dX1_daysLeft_59 : decode cX1_daysLeft 59 = .ok (.iload_n 1, 1) := by decide +kernel
theorem dX1_daysLeft_60 : decode cX1_daysLeft 60 = .ok (.if_icmp .eq 32, 3) := by decide +kernel
theorem dX1_daysLeft_63 : decode cX1_daysLeft 63 = .ok (.aload_n 0, 1) := by decide +kernel
theorem dX1_daysLeft_64 : decode cX1_daysLeft 64 = .ok (.getfield 11, 3) := by decide +kernel
theorem dX1_daysLeft_67 : decode cX1_daysLeft 67 = .ok (.bipush 12, 2) := by decide +kernel
theorem dX1_daysLeft_69 : decode cX1_daysLeft 69 = .ok (.iload 4, 2) := by decide +kernel
theorem dX1_daysLeft_71 : decode cX1_daysLeft 71 = .ok (.iadd, 1) := by decide +kernel
theorem dX1_daysLeft_72 : decode cX1_daysLeft 72 = .ok (.iaload, 1) := by decide +kernel
theorem dX1_daysLeft_73 : decode cX1_daysLeft 73 = .ok (.ifCond .ne 19, 3) := by decide +kernel
theorem dX1_daysLeft_76 : decode cX1_daysLeft 76 = .ok (.aload_n 0, 1) := by decide +kernel
theorem dX1_daysLeft_77 : decode cX1_daysLeft 77 = .ok (.getfield 11, 3) := by decide +kernel
theorem dX1_daysLeft_80 : decode cX1_daysLeft 80 = .ok (.iconst 0, 1) := by decide +kernel
theorem dX1_daysLeft_81 : decode cX1_daysLeft 81 = .ok (.iload 4, 2) := by decide +kernel
theorem dX1_daysLeft_83 : decode cX1_daysLeft 83 = .ok (.iadd, 1) := by decide +kernel
theorem dX1_daysLeft_84 : decode cX1_daysLeft 84 = .ok (.iaload, 1) := by decide +kernel
theorem dX1_daysLeft_85 : decode cX1_daysLeft 85 = .ok (.iload_n 3, 1) := by decide +kernel
theorem dX1_daysLeft_86 : decode cX1_daysLeft 86 = .ok (.if_icmp .ne 6, 3) := by decide +kernel
theorem dX1_daysLeft_89 : decode cX1_daysLeft 89 = .ok (.iinc 2 1, 3) := by decide +kernel
theorem dX1_daysLeft_92 : decode cX1_daysLeft 92 = .ok (.iinc 4 1, 3) := by decide +kernel
theorem dX1_daysLeft_95 : decode cX1_daysLeft 95 = .ok (.goto (-50), 3) := by decide +kernel
theorem dX1_daysLeft_98 : decode cX1_daysLeft 98 = .ok (.iload_n 2, 1) := by decide +kernel
theorem dX1_daysLeft_99 : decode cX1_daysLeft 99 = .ok (.ifCond .ge 7, 3) := by decide +kernel
theorem dX1_daysLeft_102 : decode cX1_daysLeft 102 = .ok (.iconst 0, 1) := by decide +kernel
theorem dX1_daysLeft_103 : decode cX1_daysLeft 103 = .ok (.goto 4, 3) := by decide +kernel
theorem dX1_daysLeft_106 : decode cX1_daysLeft 106 = .ok (.iload_n 2, 1) := by decide +kernel
theorem dX1_daysLeft_107 : decode cX1_daysLeft 107 = .ok (.ireturn, 1) := by decide +kernel
theorem dX1_canPut_0 : decode cX1_canPut 0 = .ok (.aload_n 0, 1) := by decide +kernel
theorem dX1_canPut_1 : decode cX1_canPut 1 = .ok (.getfield 18, 3) := by decide +kernel
theorem dX1_canPut_4 : decode cX1_canPut 4 = .ok (.iload_n 1, 1) := by decide +kernel
theorem dX1_canPut_5 : decode cX1_canPut 5 = .ok (.invokevirtual 64, 3) := by decide +kernel
theorem dX1_canPut_8 : decode cX1_canPut 8 = .ok (.ifCond .eq 50, 3) := by decide +kernel
theorem dX1_canPut_11 : decode cX1_canPut 11 = .ok (.iload_n 2, 1) := by decide +kernel
theorem dX1_canPut_12 : decode cX1_canPut 12 = .ok (.invokestatic 68, 3) := by decide +kernel
theorem dX1_canPut_15 : decode cX1_canPut 15 = .ok (.ifCond .eq 43, 3) := by decide +kernel
theorem dX1_canPut_18 : decode cX1_canPut 18 = .ok (.aload_n 0, 1) := by decide +kernel
theorem dX1_canPut_19 : decode cX1_canPut 19 = .ok (.getfield 11, 3) := by decide +kernel
theorem dX1_canPut_22 : decode cX1_canPut 22 = .ok (.bipush 12, 2) := by decide +kernel
theorem dX1_canPut_24 : decode cX1_canPut 24 = .ok (.iload_n 1, 1) := by decide +kernel
theorem dX1_canPut_25 : decode cX1_canPut 25 = .ok (.iadd, 1) := by decide +kernel
theorem dX1_canPut_26 : decode cX1_canPut 26 = .ok (.iaload, 1) := by decide +kernel
theorem dX1_canPut_27 : decode cX1_canPut 27 = .ok (.ifCond .ne 31, 3) := by decide +kernel
theorem dX1_canPut_30 : decode cX1_canPut 30 = .ok (.aload_n 0, 1) := by decide +kernel
theorem dX1_canPut_31 : decode cX1_canPut 31 = .ok (.getfield 11, 3) := by decide +kernel
theorem dX1_canPut_34 : decode cX1_canPut 34 = .ok (.iconst 0, 1) := by decide +kernel
theorem dX1_canPut_35 : decode cX1_canPut 35 = .ok (.iload_n 1, 1) := by decide +kernel
theorem dX1_canPut_36 : decode cX1_canPut 36 = .ok (.iadd, 1) := by decide +kernel
theorem dX1_canPut_37 : decode cX1_canPut 37 = .ok (.iaload, 1) := by decide +kernel
theorem dX1_canPut_38 : decode cX1_canPut 38 = .ok (.iload_n 2, 1) := by decide +kernel
theorem dX1_canPut_39 : decode cX1_canPut 39 = .ok (.if_icmp .eq 19, 3) := by decide +kernel
theorem dX1_canPut_42 : decode cX1_canPut 42 = .ok (.aload_n 0, 1) := by decide +kernel
theorem dX1_canPut_43 : decode cX1_canPut 43 = .ok (.iload_n 2, 1) := by decide +kernel
theorem dX1_canPut_44 : decode cX1_canPut 44 = .ok (.invokevirtual 55, 3) := by decide +kernel
theorem dX1_canPut_47 : decode cX1_canPut 47 = .ok (.invokestatic 50, 3) := by decide +kernel
theorem dX1_canPut_50 : decode cX1_canPut 50 = .ok (.iconst 2, 1) := by decide +kernel
theorem dX1_canPut_51 : decode cX1_canPut 51 = .ok (.if_icmp .ge 7, 3) := by decide +kernel
theorem dX1_canPut_54 : decode cX1_canPut 54 = .ok (.iconst 1, 1) := by decide +kernel
theorem dX1_canPut_55 : decode cX1_canPut 55 = .ok (.goto 4, 3) := by decide +kernel
theorem dX1_canPut_58 : decode cX1_canPut 58 = .ok (.iconst 0, 1) := by decide +kernel
theorem dX1_canPut_59 : decode cX1_canPut 59 = .ok (.ireturn, 1) := by decide +kernel
theorem dX1_moveTo_0 : decode cX1_moveTo 0 = .ok (.aload_n 0, 1) := by decide +kernel
theorem dX1_moveTo_1 : decode cX1_moveTo 1 = .ok (.getfield 11, 3) := by decide +kernel
theorem dX1_moveTo_4 : decode cX1_moveTo 4 = .ok (.iconst 0, 1) := by decide +kernel
theorem dX1_moveTo_5 : decode cX1_moveTo 5 = .ok (.iload_n 1, 1) := by decide +kernel
theorem dX1_moveTo_6 : decode cX1_moveTo 6 = .ok (.iadd, 1) := by decide +kernel
theorem dX1_moveTo_7 : decode cX1_moveTo 7 = .ok (.iload_n 2, 1) := by decide +kernel
theorem dX1_moveTo_8 : decode cX1_moveTo 8 = .ok (.iastore, 1) := by decide +kernel
theorem dX1_moveTo_9 : decode cX1_moveTo 9 = .ok (.return_, 1) := by decide +kernel
theorem dX1_canSend_0 : decode cX1_canSend 0 = .ok (.aload_n 0, 1) := by decide +kernel
theorem dX1_canSend_1 : decode cX1_canSend 1 = .ok (.getfield 18, 3) := by decide +kernel
theorem dX1_canSend_4 : decode cX1_canSend 4 = .ok (.iload_n 1, 1) := by decide +kernel
theorem dX1_canSend_5 : decode cX1_canSend 5 = .ok (.invokevirtual 71, 3) := by decide +kernel
theorem dX1_canSend_8 : decode cX1_canSend 8 = .ok (.ifCond .eq 27, 3) := by decide +kernel
theorem dX1_canSend_11 : decode cX1_canSend 11 = .ok (.iload_n 2, 1) := by decide +kernel
theorem dX1_canSend_12 : decode cX1_canSend 12 = .ok (.invokestatic 74, 3) := by decide +kernel
theorem dX1_canSend_15 : decode cX1_canSend 15 = .ok (.ifCond .eq 20, 3) := by decide +kernel
theorem dX1_canSend_18 : decode cX1_canSend 18 = .ok (.aload_n 0, 1) := by decide +kernel
theorem dX1_canSend_19 : decode cX1_canSend 19 = .ok (.getfield 11, 3) := by decide +kernel
theorem dX1_canSend_22 : decode cX1_canSend 22 = .ok (.bipush 18, 2) := by decide +kernel
theorem dX1_canSend_24 : decode cX1_canSend 24 = .ok (.iload_n 1, 1) := by decide +kernel
theorem dX1_canSend_25 : decode cX1_canSend 25 = .ok (.iadd, 1) := by decide +kernel
theorem dX1_canSend_26 : decode cX1_canSend 26 = .ok (.iaload, 1) := by decide +kernel
theorem dX1_canSend_27 : decode cX1_canSend 27 = .ok (.iload_n 2, 1) := by decide +kernel
theorem dX1_canSend_28 : decode cX1_canSend 28 = .ok (.if_icmp .eq 7, 3) := by decide +kernel
theorem dX1_canSend_31 : decode cX1_canSend 31 = .ok (.iconst 1, 1) := by decide +kernel
theorem dX1_canSend_32 : decode cX1_canSend 32 = .ok (.goto 4, 3) := by decide +kernel
theorem dX1_canSend_35 : decode cX1_canSend 35 = .ok (.iconst 0, 1) := by decide +kernel
theorem dX1_canSend_36 : decode cX1_canSend 36 = .ok (.ireturn, 1) := by decide +kernel
theorem dX1_sendTo_0 : decode cX1_sendTo 0 = .ok (.aload_n 0, 1) := by decide +kernel
theorem dX1_sendTo_1 : decode cX1_sendTo 1 = .ok (.getfield 11, 3) := by decide +kernel
theorem dX1_sendTo_4 : decode cX1_sendTo 4 = .ok (.bipush 18, 2) := by decide +kernel
theorem dX1_sendTo_6 : decode cX1_sendTo 6 = .ok (.iload_n 1, 1) := by decide +kernel
theorem dX1_sendTo_7 : decode cX1_sendTo 7 = .ok (.iadd, 1) := by decide +kernel
theorem dX1_sendTo_8 : decode cX1_sendTo 8 = .ok (.iload_n 2, 1) := by decide +kernel
theorem dX1_sendTo_9 : decode cX1_sendTo 9 = .ok (.iastore, 1) := by decide +kernel
theorem dX1_sendTo_10 : decode cX1_sendTo 10 = .ok (.return_, 1) := by decide +kernel
theorem dX1_addGrain_0 : decode cX1_addGrain 0 = .ok (.aload_n 0, 1) := by decide +kernel
theorem dX1_addGrain_1 : decode cX1_addGrain 1 = .ok (.getfield 11, 3) := by decide +kernel
theorem dX1_addGrain_4 : decode cX1_addGrain 4 = .ok (.bipush 21, 2) := by decide +kernel
theorem dX1_addGrain_6 : decode cX1_addGrain 6 = .ok (.bipush 99, 2) := by decide +kernel
theorem dX1_addGrain_8 : decode cX1_addGrain 8 = .ok (.aload_n 0, 1) := by decide +kernel
theorem dX1_addGrain_9 : decode cX1_addGrain 9 = .ok (.getfield 11, 3) := by decide +kernel
theorem dX1_addGrain_12 : decode cX1_addGrain 12 = .ok (.bipush 21, 2) := by decide +kernel
theorem dX1_addGrain_14 : decode cX1_addGrain 14 = .ok (.iaload, 1) := by decide +kernel
theorem dX1_addGrain_15 : decode cX1_addGrain 15 = .ok (.iload_n 1, 1) := by decide +kernel
theorem dX1_addGrain_16 : decode cX1_addGrain 16 = .ok (.iadd, 1) := by decide +kernel
theorem dX1_addGrain_17 : decode cX1_addGrain 17 = .ok (.invokestatic 77, 3) := by decide +kernel
theorem dX1_addGrain_20 : decode cX1_addGrain 20 = .ok (.iastore, 1) := by decide +kernel
theorem dX1_addGrain_21 : decode cX1_addGrain 21 = .ok (.return_, 1) := by decide +kernel
theorem dX1_answer_0 : decode cX1_answer 0 = .ok (.aload_n 0, 1) := by decide +kernel
theorem dX1_answer_1 : decode cX1_answer 1 = .ok (.getfield 11, 3) := by decide +kernel
theorem dX1_answer_4 : decode cX1_answer 4 = .ok (.bipush 12, 2) := by decide +kernel
theorem dX1_answer_6 : decode cX1_answer 6 = .ok (.iload_n 1, 1) := by decide +kernel
theorem dX1_answer_7 : decode cX1_answer 7 = .ok (.iadd, 1) := by decide +kernel
theorem dX1_answer_8 : decode cX1_answer 8 = .ok (.iconst 1, 1) := by decide +kernel
theorem dX1_answer_9 : decode cX1_answer 9 = .ok (.iastore, 1) := by decide +kernel
theorem dX1_answer_10 : decode cX1_answer 10 = .ok (.return_, 1) := by decide +kernel
theorem dX1_passDay_0 : decode cX1_passDay 0 = .ok (.iconst 0, 1) := by decide +kernel
theorem dX1_passDay_1 : decode cX1_passDay 1 = .ok (.istore_n 1, 1) := by decide +kernel
theorem dX1_passDay_2 : decode cX1_passDay 2 = .ok (.iload_n 1, 1) := by decide +kernel
theorem dX1_passDay_3 : decode cX1_passDay 3 = .ok (.aload_n 0, 1) := by decide +kernel
theorem dX1_passDay_4 : decode cX1_passDay 4 = .ok (.getfield 18, 3) := by decide +kernel
theorem dX1_passDay_7 : decode cX1_passDay 7 = .ok (.getfield 31, 3) := by decide +kernel
theorem dX1_passDay_10 : decode cX1_passDay 10 = .ok (.if_icmp .ge 14, 3) := by decide +kernel
theorem dX1_passDay_13 : decode cX1_passDay 13 = .ok (.aload_n 0, 1) := by decide +kernel
theorem dX1_passDay_14 : decode cX1_passDay 14 = .ok (.iload_n 1, 1) := by decide +kernel
theorem dX1_passDay_15 : decode cX1_passDay 15 = .ok (.invokevirtual 83, 3) := by decide +kernel
theorem dX1_passDay_18 : decode cX1_passDay 18 = .ok (.iinc 1 1, 3) := by decide +kernel
theorem dX1_passDay_21 : decode cX1_passDay 21 = .ok (.goto (-19), 3) := by decide +kernel
theorem dX1_passDay_24 : decode cX1_passDay 24 = .ok (.iconst 0, 1) := by decide +kernel
theorem dX1_passDay_25 : decode cX1_passDay 25 = .ok (.istore_n 1, 1) := by decide +kernel
theorem dX1_passDay_26 : decode cX1_passDay 26 = .ok (.iload_n 1, 1) := by decide +kernel
theorem dX1_passDay_27 : decode cX1_passDay 27 = .ok (.aload_n 0, 1) := by decide +kernel
theorem dX1_passDay_28 : decode cX1_passDay 28 = .ok (.getfield 18, 3) := by decide +kernel
theorem dX1_passDay_31 : decode cX1_passDay 31 = .ok (.getfield 22, 3) := by decide +kernel
theorem dX1_passDay_34 : decode cX1_passDay 34 = .ok (.if_icmp .ge 34, 3) := by decide +kernel
theorem dX1_passDay_37 : decode cX1_passDay 37 = .ok (.aload_n 0, 1) := by decide +kernel
theorem dX1_passDay_38 : decode cX1_passDay 38 = .ok (.getfield 11, 3) := by decide +kernel
theorem dX1_passDay_41 : decode cX1_passDay 41 = .ok (.bipush 12, 2) := by decide +kernel
theorem dX1_passDay_43 : decode cX1_passDay 43 = .ok (.iload_n 1, 1) := by decide +kernel
theorem dX1_passDay_44 : decode cX1_passDay 44 = .ok (.iadd, 1) := by decide +kernel
theorem dX1_passDay_45 : decode cX1_passDay 45 = .ok (.iaload, 1) := by decide +kernel
theorem dX1_passDay_46 : decode cX1_passDay 46 = .ok (.ifCond .ne 16, 3) := by decide +kernel
theorem dX1_passDay_49 : decode cX1_passDay 49 = .ok (.aload_n 0, 1) := by decide +kernel
theorem dX1_passDay_50 : decode cX1_passDay 50 = .ok (.getfield 11, 3) := by decide +kernel
theorem dX1_passDay_53 : decode cX1_passDay 53 = .ok (.bipush 6, 2) := by decide +kernel
theorem dX1_passDay_55 : decode cX1_passDay 55 = .ok (.iload_n 1, 1) := by decide +kernel
theorem dX1_passDay_56 : decode cX1_passDay 56 = .ok (.iadd, 1) := by decide +kernel
theorem dX1_passDay_57 : decode cX1_passDay 57 = .ok (.dup2, 1) := by decide +kernel
theorem dX1_passDay_58 : decode cX1_passDay 58 = .ok (.iaload, 1) := by decide +kernel
theorem dX1_passDay_59 : decode cX1_passDay 59 = .ok (.iconst 1, 1) := by decide +kernel
theorem dX1_passDay_60 : decode cX1_passDay 60 = .ok (.iadd, 1) := by decide +kernel
theorem dX1_passDay_61 : decode cX1_passDay 61 = .ok (.iastore, 1) := by decide +kernel
theorem dX1_passDay_62 : decode cX1_passDay 62 = .ok (.iinc 1 1, 3) := by decide +kernel
theorem dX1_passDay_65 : decode cX1_passDay 65 = .ok (.goto (-39), 3) := by decide +kernel
theorem dX1_passDay_68 : decode cX1_passDay 68 = .ok (.iconst 0, 1) := by decide +kernel
theorem dX1_passDay_69 : decode cX1_passDay 69 = .ok (.istore_n 1, 1) := by decide +kernel
theorem dX1_passDay_70 : decode cX1_passDay 70 = .ok (.iconst 0, 1) := by decide +kernel
theorem dX1_passDay_71 : decode cX1_passDay 71 = .ok (.istore_n 2, 1) := by decide +kernel
theorem dX1_passDay_72 : decode cX1_passDay 72 = .ok (.iload_n 2, 1) := by decide +kernel
theorem dX1_passDay_73 : decode cX1_passDay 73 = .ok (.aload_n 0, 1) := by decide +kernel
theorem dX1_passDay_74 : decode cX1_passDay 74 = .ok (.getfield 18, 3) := by decide +kernel
theorem dX1_passDay_77 : decode cX1_passDay 77 = .ok (.getfield 22, 3) := by decide +kernel
theorem dX1_passDay_80 : decode cX1_passDay 80 = .ok (.if_icmp .ge 37, 3) := by decide +kernel
theorem dX1_passDay_83 : decode cX1_passDay 83 = .ok (.aload_n 0, 1) := by decide +kernel
theorem dX1_passDay_84 : decode cX1_passDay 84 = .ok (.getfield 11, 3) := by decide +kernel
theorem dX1_passDay_87 : decode cX1_passDay 87 = .ok (.bipush 12, 2) := by decide +kernel
theorem dX1_passDay_89 : decode cX1_passDay 89 = .ok (.iload_n 2, 1) := by decide +kernel
theorem dX1_passDay_90 : decode cX1_passDay 90 = .ok (.iadd, 1) := by decide +kernel
theorem dX1_passDay_91 : decode cX1_passDay 91 = .ok (.iaload, 1) := by decide +kernel
theorem dX1_passDay_92 : decode cX1_passDay 92 = .ok (.ifCond .ne 19, 3) := by decide +kernel
theorem dX1_passDay_95 : decode cX1_passDay 95 = .ok (.aload_n 0, 1) := by decide +kernel
theorem dX1_passDay_96 : decode cX1_passDay 96 = .ok (.iload_n 2, 1) := by decide +kernel
theorem dX1_passDay_97 : decode cX1_passDay 97 = .ok (.invokevirtual 87, 3) := by decide +kernel
theorem dX1_passDay_100 : decode cX1_passDay 100 = .ok (.ifCond .ne 11, 3) := by decide +kernel
theorem dX1_passDay_103 : decode cX1_passDay 103 = .ok (.aload_n 0, 1) := by decide +kernel
theorem dX1_passDay_104 : decode cX1_passDay 104 = .ok (.iload_n 2, 1) := by decide +kernel
theorem dX1_passDay_105 : decode cX1_passDay 105 = .ok (.invokevirtual 90, 3) := by decide +kernel
theorem dX1_passDay_108 : decode cX1_passDay 108 = .ok (.iinc 1 1, 3) := by decide +kernel
theorem dX1_passDay_111 : decode cX1_passDay 111 = .ok (.iinc 2 1, 3) := by decide +kernel
theorem dX1_passDay_114 : decode cX1_passDay 114 = .ok (.goto (-42), 3) := by decide +kernel
theorem dX1_passDay_117 : decode cX1_passDay 117 = .ok (.aload_n 0, 1) := by decide +kernel
theorem dX1_passDay_118 : decode cX1_passDay 118 = .ok (.invokevirtual 93, 3) := by decide +kernel
theorem dX1_passDay_121 : decode cX1_passDay 121 = .ok (.aload_n 0, 1) := by decide +kernel
theorem dX1_passDay_122 : decode cX1_passDay 122 = .ok (.getfield 11, 3) := by decide +kernel
theorem dX1_passDay_125 : decode cX1_passDay 125 = .ok (.bipush 22, 2) := by decide +kernel
theorem dX1_passDay_127 : decode cX1_passDay 127 = .ok (.dup2, 1) := by decide +kernel
theorem dX1_passDay_128 : decode cX1_passDay 128 = .ok (.iaload, 1) := by decide +kernel
theorem dX1_passDay_129 : decode cX1_passDay 129 = .ok (.iconst 1, 1) := by decide +kernel
theorem dX1_passDay_130 : decode cX1_passDay 130 = .ok (.iadd, 1) := by decide +kernel
theorem dX1_passDay_131 : decode cX1_passDay 131 = .ok (.iastore, 1) := by decide +kernel
theorem dX1_passDay_132 : decode cX1_passDay 132 = .ok (.iload_n 1, 1) := by decide +kernel
theorem dX1_passDay_133 : decode cX1_passDay 133 = .ok (.ireturn, 1) := by decide +kernel
theorem dX1_clerkAnswers_0 : decode cX1_clerkAnswers 0 = .ok (.iconst 0, 1) := by decide +kernel
theorem dX1_clerkAnswers_1 : decode cX1_clerkAnswers 1 = .ok (.istore_n 2, 1) := by decide +kernel
theorem dX1_clerkAnswers_2 : decode cX1_clerkAnswers 2 = .ok (.iload_n 2, 1) := by decide +kernel
theorem dX1_clerkAnswers_3 : decode cX1_clerkAnswers 3 = .ok (.aload_n 0, 1) := by decide +kernel
theorem dX1_clerkAnswers_4 : decode cX1_clerkAnswers 4 = .ok (.getfield 18, 3) := by decide +kernel
theorem dX1_clerkAnswers_7 : decode cX1_clerkAnswers 7 = .ok (.getfield 96, 3) := by decide +kernel
theorem dX1_clerkAnswers_10 : decode cX1_clerkAnswers 10 = .ok (.iload_n 1, 1) := by decide +kernel
theorem dX1_clerkAnswers_11 : decode cX1_clerkAnswers 11 = .ok (.iaload, 1) := by decide +kernel
theorem dX1_clerkAnswers_12 : decode cX1_clerkAnswers 12 = .ok (.if_icmp .ge 50, 3) := by decide +kernel
theorem dX1_clerkAnswers_15 : decode cX1_clerkAnswers 15 = .ok (.aload_n 0, 1) := by decide +kernel
theorem dX1_clerkAnswers_16 : decode cX1_clerkAnswers 16 = .ok (.aload_n 0, 1) := by decide +kernel
theorem dX1_clerkAnswers_17 : decode cX1_clerkAnswers 17 = .ok (.getfield 11, 3) := by decide +kernel
theorem dX1_clerkAnswers_20 : decode cX1_clerkAnswers 20 = .ok (.bipush 18, 2) := by decide +kernel
theorem dX1_clerkAnswers_22 : decode cX1_clerkAnswers 22 = .ok (.iload_n 1, 1) := by decide +kernel
theorem dX1_clerkAnswers_23 : decode cX1_clerkAnswers 23 = .ok (.iadd, 1) := by decide +kernel
theorem dX1_clerkAnswers_24 : decode cX1_clerkAnswers 24 = .ok (.iaload, 1) := by decide +kernel
theorem dX1_clerkAnswers_25 : decode cX1_clerkAnswers 25 = .ok (.invokevirtual 99, 3) := by decide +kernel
theorem dX1_clerkAnswers_28 : decode cX1_clerkAnswers 28 = .ok (.istore_n 3, 1) := by decide +kernel
theorem dX1_clerkAnswers_29 : decode cX1_clerkAnswers 29 = .ok (.iload_n 3, 1) := by decide +kernel
theorem dX1_clerkAnswers_30 : decode cX1_clerkAnswers 30 = .ok (.bipush (-9), 2) := by decide +kernel
theorem dX1_clerkAnswers_32 : decode cX1_clerkAnswers 32 = .ok (.if_icmp .ne 4, 3) := by decide +kernel
theorem dX1_clerkAnswers_35 : decode cX1_clerkAnswers 35 = .ok (.return_, 1) := by decide +kernel
theorem dX1_clerkAnswers_36 : decode cX1_clerkAnswers 36 = .ok (.aload_n 0, 1) := by decide +kernel
theorem dX1_clerkAnswers_37 : decode cX1_clerkAnswers 37 = .ok (.getfield 11, 3) := by decide +kernel
theorem dX1_clerkAnswers_40 : decode cX1_clerkAnswers 40 = .ok (.bipush 12, 2) := by decide +kernel
theorem dX1_clerkAnswers_42 : decode cX1_clerkAnswers 42 = .ok (.iload_n 3, 1) := by decide +kernel
theorem dX1_clerkAnswers_43 : decode cX1_clerkAnswers 43 = .ok (.iadd, 1) := by decide +kernel
theorem dX1_clerkAnswers_44 : decode cX1_clerkAnswers 44 = .ok (.iconst 1, 1) := by decide +kernel
theorem dX1_clerkAnswers_45 : decode cX1_clerkAnswers 45 = .ok (.iastore, 1) := by decide +kernel
theorem dX1_clerkAnswers_46 : decode cX1_clerkAnswers 46 = .ok (.aload_n 0, 1) := by decide +kernel
theorem dX1_clerkAnswers_47 : decode cX1_clerkAnswers 47 = .ok (.getfield 15, 3) := by decide +kernel
theorem dX1_clerkAnswers_50 : decode cX1_clerkAnswers 50 = .ok (.iload_n 1, 1) := by decide +kernel
theorem dX1_clerkAnswers_51 : decode cX1_clerkAnswers 51 = .ok (.dup2, 1) := by decide +kernel
theorem dX1_clerkAnswers_52 : decode cX1_clerkAnswers 52 = .ok (.iaload, 1) := by decide +kernel
theorem dX1_clerkAnswers_53 : decode cX1_clerkAnswers 53 = .ok (.iconst 1, 1) := by decide +kernel
theorem dX1_clerkAnswers_54 : decode cX1_clerkAnswers 54 = .ok (.iadd, 1) := by decide +kernel
theorem dX1_clerkAnswers_55 : decode cX1_clerkAnswers 55 = .ok (.iastore, 1) := by decide +kernel
theorem dX1_clerkAnswers_56 : decode cX1_clerkAnswers 56 = .ok (.iinc 2 1, 3) := by decide +kernel
theorem dX1_clerkAnswers_59 : decode cX1_clerkAnswers 59 = .ok (.goto (-57), 3) := by decide +kernel
theorem dX1_clerkAnswers_62 : decode cX1_clerkAnswers 62 = .ok (.return_, 1) := by decide +kernel
theorem dX1_mostPressing_0 : decode cX1_mostPressing 0 = .ok (.bipush (-9), 2) := by decide +kernel
theorem dX1_mostPressing_2 : decode cX1_mostPressing 2 = .ok (.istore_n 2, 1) := by decide +kernel
theorem dX1_mostPressing_3 : decode cX1_mostPressing 3 = .ok (.iconst 0, 1) := by decide +kernel
theorem dX1_mostPressing_4 : decode cX1_mostPressing 4 = .ok (.istore_n 3, 1) := by decide +kernel
theorem dX1_mostPressing_5 : decode cX1_mostPressing 5 = .ok (.iconst 0, 1) := by decide +kernel
theorem dX1_mostPressing_6 : decode cX1_mostPressing 6 = .ok (.istore 4, 2) := by decide +kernel
theorem dX1_mostPressing_8 : decode cX1_mostPressing 8 = .ok (.iload 4, 2) := by decide +kernel
theorem dX1_mostPressing_10 : decode cX1_mostPressing 10 = .ok (.aload_n 0, 1) := by decide +kernel
theorem dX1_mostPressing_11 : decode cX1_mostPressing 11 = .ok (.getfield 18, 3) := by decide +kernel
theorem dX1_mostPressing_14 : decode cX1_mostPressing 14 = .ok (.getfield 22, 3) := by decide +kernel
theorem dX1_mostPressing_17 : decode cX1_mostPressing 17 = .ok (.if_icmp .ge 63, 3) := by decide +kernel
theorem dX1_mostPressing_20 : decode cX1_mostPressing 20 = .ok (.aload_n 0, 1) := by decide +kernel
theorem dX1_mostPressing_21 : decode cX1_mostPressing 21 = .ok (.getfield 11, 3) := by decide +kernel
theorem dX1_mostPressing_24 : decode cX1_mostPressing 24 = .ok (.bipush 12, 2) := by decide +kernel
theorem dX1_mostPressing_26 : decode cX1_mostPressing 26 = .ok (.iload 4, 2) := by decide +kernel
theorem dX1_mostPressing_28 : decode cX1_mostPressing 28 = .ok (.iadd, 1) := by decide +kernel
theorem dX1_mostPressing_29 : decode cX1_mostPressing 29 = .ok (.iaload, 1) := by decide +kernel
theorem dX1_mostPressing_30 : decode cX1_mostPressing 30 = .ok (.ifCond .ne 44, 3) := by decide +kernel
theorem dX1_mostPressing_33 : decode cX1_mostPressing 33 = .ok (.aload_n 0, 1) := by decide +kernel
theorem dX1_mostPressing_34 : decode cX1_mostPressing 34 = .ok (.getfield 11, 3) := by decide +kernel
theorem dX1_mostPressing_37 : decode cX1_mostPressing 37 = .ok (.iconst 0, 1) := by decide +kernel
theorem dX1_mostPressing_38 : decode cX1_mostPressing 38 = .ok (.iload 4, 2) := by decide +kernel
theorem dX1_mostPressing_40 : decode cX1_mostPressing 40 = .ok (.iadd, 1) := by decide +kernel
theorem dX1_mostPressing_41 : decode cX1_mostPressing 41 = .ok (.iaload, 1) := by decide +kernel
theorem dX1_mostPressing_42 : decode cX1_mostPressing 42 = .ok (.iconst 4, 1) := by decide +kernel
theorem dX1_mostPressing_43 : decode cX1_mostPressing 43 = .ok (.idiv, 1) := by decide +kernel
theorem dX1_mostPressing_44 : decode cX1_mostPressing 44 = .ok (.iload_n 1, 1) := by decide +kernel
theorem dX1_mostPressing_45 : decode cX1_mostPressing 45 = .ok (.if_icmp .ne 29, 3) := by decide +kernel
theorem dX1_mostPressing_48 : decode cX1_mostPressing 48 = .ok (.aload_n 0, 1) := by decide +kernel
theorem dX1_mostPressing_49 : decode cX1_mostPressing 49 = .ok (.iload 4, 2) := by decide +kernel
theorem dX1_mostPressing_51 : decode cX1_mostPressing 51 = .ok (.invokevirtual 87, 3) := by decide +kernel
theorem dX1_mostPressing_54 : decode cX1_mostPressing 54 = .ok (.istore 5, 2) := by decide +kernel
theorem dX1_mostPressing_56 : decode cX1_mostPressing 56 = .ok (.iload_n 2, 1) := by decide +kernel
theorem dX1_mostPressing_57 : decode cX1_mostPressing 57 = .ok (.bipush (-9), 2) := by decide +kernel
theorem dX1_mostPressing_59 : decode cX1_mostPressing 59 = .ok (.if_icmp .eq 9, 3) := by decide +kernel
theorem dX1_mostPressing_62 : decode cX1_mostPressing 62 = .ok (.iload 5, 2) := by decide +kernel
theorem dX1_mostPressing_64 : decode cX1_mostPressing 64 = .ok (.iload_n 3, 1) := by decide +kernel
theorem dX1_mostPressing_65 : decode cX1_mostPressing 65 = .ok (.if_icmp .ge 9, 3) := by decide +kernel
theorem dX1_mostPressing_68 : decode cX1_mostPressing 68 = .ok (.iload 4, 2) := by decide +kernel
theorem dX1_mostPressing_70 : decode cX1_mostPressing 70 = .ok (.istore_n 2, 1) := by decide +kernel
theorem dX1_mostPressing_71 : decode cX1_mostPressing 71 = .ok (.iload 5, 2) := by decide +kernel
theorem dX1_mostPressing_73 : decode cX1_mostPressing 73 = .ok (.istore_n 3, 1) := by decide +kernel
theorem dX1_mostPressing_74 : decode cX1_mostPressing 74 = .ok (.iinc 4 1, 3) := by decide +kernel
theorem dX1_mostPressing_77 : decode cX1_mostPressing 77 = .ok (.goto (-69), 3) := by decide +kernel
theorem dX1_mostPressing_80 : decode cX1_mostPressing 80 = .ok (.iload_n 2, 1) := by decide +kernel
theorem dX1_mostPressing_81 : decode cX1_mostPressing 81 = .ok (.ireturn, 1) := by decide +kernel
theorem dX1_hatch_0 : decode cX1_hatch 0 = .ok (.aload_n 0, 1) := by decide +kernel
theorem dX1_hatch_1 : decode cX1_hatch 1 = .ok (.getfield 11, 3) := by decide +kernel
theorem dX1_hatch_4 : decode cX1_hatch 4 = .ok (.bipush 12, 2) := by decide +kernel
theorem dX1_hatch_6 : decode cX1_hatch 6 = .ok (.iload_n 1, 1) := by decide +kernel
theorem dX1_hatch_7 : decode cX1_hatch 7 = .ok (.iadd, 1) := by decide +kernel
theorem dX1_hatch_8 : decode cX1_hatch 8 = .ok (.iconst 2, 1) := by decide +kernel
theorem dX1_hatch_9 : decode cX1_hatch 9 = .ok (.iastore, 1) := by decide +kernel
theorem dX1_hatch_10 : decode cX1_hatch 10 = .ok (.aload_n 0, 1) := by decide +kernel
theorem dX1_hatch_11 : decode cX1_hatch 11 = .ok (.getfield 11, 3) := by decide +kernel
theorem dX1_hatch_14 : decode cX1_hatch 14 = .ok (.iconst 0, 1) := by decide +kernel
theorem dX1_hatch_15 : decode cX1_hatch 15 = .ok (.iload_n 1, 1) := by decide +kernel
theorem dX1_hatch_16 : decode cX1_hatch 16 = .ok (.iadd, 1) := by decide +kernel
theorem dX1_hatch_17 : decode cX1_hatch 17 = .ok (.iaload, 1) := by decide +kernel
theorem dX1_hatch_18 : decode cX1_hatch 18 = .ok (.istore_n 2, 1) := by decide +kernel
theorem dX1_hatch_19 : decode cX1_hatch 19 = .ok (.aload_n 0, 1) := by decide +kernel
theorem dX1_hatch_20 : decode cX1_hatch 20 = .ok (.getfield 18, 3) := by decide +kernel
theorem dX1_hatch_23 : decode cX1_hatch 23 = .ok (.getfield 61, 3) := by decide +kernel
theorem dX1_hatch_26 : decode cX1_hatch 26 = .ok (.iload_n 1, 1) := by decide +kernel
theorem dX1_hatch_27 : decode cX1_hatch 27 = .ok (.iaload, 1) := by decide +kernel
theorem dX1_hatch_28 : decode cX1_hatch 28 = .ok (.iconst 1, 1) := by decide +kernel
theorem dX1_hatch_29 : decode cX1_hatch 29 = .ok (.if_icmp .ne 8, 3) := by decide +kernel
theorem dX1_hatch_32 : decode cX1_hatch 32 = .ok (.iload_n 2, 1) := by decide +kernel
theorem dX1_hatch_33 : decode cX1_hatch 33 = .ok (.iconst 4, 1) := by decide +kernel
theorem dX1_hatch_34 : decode cX1_hatch 34 = .ok (.if_icmp .ge 4, 3) := by decide +kernel
theorem dX1_hatch_37 : decode cX1_hatch 37 = .ok (.return_, 1) := by decide +kernel
theorem dX1_hatch_38 : decode cX1_hatch 38 = .ok (.iconst 0, 1) := by decide +kernel
theorem dX1_hatch_39 : decode cX1_hatch 39 = .ok (.istore_n 3, 1) := by decide +kernel
theorem dX1_hatch_40 : decode cX1_hatch 40 = .ok (.iload_n 3, 1) := by decide +kernel
theorem dX1_hatch_41 : decode cX1_hatch 41 = .ok (.aload_n 0, 1) := by decide +kernel
theorem dX1_hatch_42 : decode cX1_hatch 42 = .ok (.getfield 18, 3) := by decide +kernel
theorem dX1_hatch_45 : decode cX1_hatch 45 = .ok (.getfield 22, 3) := by decide +kernel
theorem dX1_hatch_48 : decode cX1_hatch 48 = .ok (.if_icmp .ge 44, 3) := by decide +kernel
theorem dX1_hatch_51 : decode cX1_hatch 51 = .ok (.aload_n 0, 1) := by decide +kernel
theorem dX1_hatch_52 : decode cX1_hatch 52 = .ok (.getfield 11, 3) := by decide +kernel
theorem dX1_hatch_55 : decode cX1_hatch 55 = .ok (.bipush 12, 2) := by decide +kernel
theorem dX1_hatch_57 : decode cX1_hatch 57 = .ok (.iload_n 3, 1) := by decide +kernel
theorem dX1_hatch_58 : decode cX1_hatch 58 = .ok (.iadd, 1) := by decide +kernel
theorem dX1_hatch_59 : decode cX1_hatch 59 = .ok (.iaload, 1) := by decide +kernel
theorem dX1_hatch_60 : decode cX1_hatch 60 = .ok (.ifCond .ne 26, 3) := by decide +kernel
theorem dX1_hatch_63 : decode cX1_hatch 63 = .ok (.aload_n 0, 1) := by decide +kernel
theorem dX1_hatch_64 : decode cX1_hatch 64 = .ok (.getfield 11, 3) := by decide +kernel
theorem dX1_hatch_67 : decode cX1_hatch 67 = .ok (.iconst 0, 1) := by decide +kernel
theorem dX1_hatch_68 : decode cX1_hatch 68 = .ok (.iload_n 3, 1) := by decide +kernel
theorem dX1_hatch_69 : decode cX1_hatch 69 = .ok (.iadd, 1) := by decide +kernel
theorem dX1_hatch_70 : decode cX1_hatch 70 = .ok (.iaload, 1) := by decide +kernel
theorem dX1_hatch_71 : decode cX1_hatch 71 = .ok (.iload_n 2, 1) := by decide +kernel
theorem dX1_hatch_72 : decode cX1_hatch 72 = .ok (.if_icmp .ne 14, 3) := by decide +kernel
theorem dX1_hatch_75 : decode cX1_hatch 75 = .ok (.aload_n 0, 1) := by decide +kernel
theorem dX1_hatch_76 : decode cX1_hatch 76 = .ok (.getfield 11, 3) := by decide +kernel
theorem dX1_hatch_79 : decode cX1_hatch 79 = .ok (.iconst 0, 1) := by decide +kernel
theorem dX1_hatch_80 : decode cX1_hatch 80 = .ok (.iload_n 3, 1) := by decide +kernel
theorem dX1_hatch_81 : decode cX1_hatch 81 = .ok (.iadd, 1) := by decide +kernel
theorem dX1_hatch_82 : decode cX1_hatch 82 = .ok (.iload_n 2, 1) := by decide +kernel
theorem dX1_hatch_83 : decode cX1_hatch 83 = .ok (.iconst 4, 1) := by decide +kernel
theorem dX1_hatch_84 : decode cX1_hatch 84 = .ok (.isub, 1) := by decide +kernel
theorem dX1_hatch_85 : decode cX1_hatch 85 = .ok (.iastore, 1) := by decide +kernel
theorem dX1_hatch_86 : decode cX1_hatch 86 = .ok (.iinc 3 1, 3) := by decide +kernel
theorem dX1_hatch_89 : decode cX1_hatch 89 = .ok (.goto (-49), 3) := by decide +kernel
theorem dX1_hatch_92 : decode cX1_hatch 92 = .ok (.return_, 1) := by decide +kernel
theorem dX1_birdsEat_0 : decode cX1_birdsEat 0 = .ok (.iconst 0, 1) := by decide +kernel
theorem dX1_birdsEat_1 : decode cX1_birdsEat 1 = .ok (.istore_n 1, 1) := by decide +kernel
theorem dX1_birdsEat_2 : decode cX1_birdsEat 2 = .ok (.iload_n 1, 1) := by decide +kernel
theorem dX1_birdsEat_3 : decode cX1_birdsEat 3 = .ok (.aload_n 0, 1) := by decide +kernel
theorem dX1_birdsEat_4 : decode cX1_birdsEat 4 = .ok (.getfield 18, 3) := by decide +kernel
theorem dX1_birdsEat_7 : decode cX1_birdsEat 7 = .ok (.getfield 22, 3) := by decide +kernel
theorem dX1_birdsEat_10 : decode cX1_birdsEat 10 = .ok (.if_icmp .ge 56, 3) := by decide +kernel
theorem dX1_birdsEat_13 : decode cX1_birdsEat 13 = .ok (.aload_n 0, 1) := by decide +kernel
theorem dX1_birdsEat_14 : decode cX1_birdsEat 14 = .ok (.getfield 11, 3) := by decide +kernel
theorem dX1_birdsEat_17 : decode cX1_birdsEat 17 = .ok (.bipush 12, 2) := by decide +kernel
theorem dX1_birdsEat_19 : decode cX1_birdsEat 19 = .ok (.iload_n 1, 1) := by decide +kernel
theorem dX1_birdsEat_20 : decode cX1_birdsEat 20 = .ok (.iadd, 1) := by decide +kernel
theorem dX1_birdsEat_21 : decode cX1_birdsEat 21 = .ok (.iaload, 1) := by decide +kernel
theorem dX1_birdsEat_22 : decode cX1_birdsEat 22 = .ok (.iconst 2, 1) := by decide +kernel
theorem dX1_birdsEat_23 : decode cX1_birdsEat 23 = .ok (.if_icmp .ne 37, 3) := by decide +kernel
theorem dX1_birdsEat_26 : decode cX1_birdsEat 26 = .ok (.aload_n 0, 1) := by decide +kernel
theorem dX1_birdsEat_27 : decode cX1_birdsEat 27 = .ok (.getfield 11, 3) := by decide +kernel
theorem dX1_birdsEat_30 : decode cX1_birdsEat 30 = .ok (.bipush 21, 2) := by decide +kernel
theorem dX1_birdsEat_32 : decode cX1_birdsEat 32 = .ok (.iaload, 1) := by decide +kernel
theorem dX1_birdsEat_33 : decode cX1_birdsEat 33 = .ok (.ifCond .le 17, 3) := by decide +kernel
theorem dX1_birdsEat_36 : decode cX1_birdsEat 36 = .ok (.aload_n 0, 1) := by decide +kernel
theorem dX1_birdsEat_37 : decode cX1_birdsEat 37 = .ok (.getfield 11, 3) := by decide +kernel
theorem dX1_birdsEat_40 : decode cX1_birdsEat 40 = .ok (.bipush 21, 2) := by decide +kernel
theorem dX1_birdsEat_42 : decode cX1_birdsEat 42 = .ok (.dup2, 1) := by decide +kernel
theorem dX1_birdsEat_43 : decode cX1_birdsEat 43 = .ok (.iaload, 1) := by decide +kernel
theorem dX1_birdsEat_44 : decode cX1_birdsEat 44 = .ok (.iconst 1, 1) := by decide +kernel
theorem dX1_birdsEat_45 : decode cX1_birdsEat 45 = .ok (.isub, 1) := by decide +kernel
theorem dX1_birdsEat_46 : decode cX1_birdsEat 46 = .ok (.iastore, 1) := by decide +kernel
theorem dX1_birdsEat_47 : decode cX1_birdsEat 47 = .ok (.goto 13, 3) := by decide +kernel
theorem dX1_birdsEat_50 : decode cX1_birdsEat 50 = .ok (.aload_n 0, 1) := by decide +kernel
theorem dX1_birdsEat_51 : decode cX1_birdsEat 51 = .ok (.getfield 11, 3) := by decide +kernel
theorem dX1_birdsEat_54 : decode cX1_birdsEat 54 = .ok (.bipush 12, 2) := by decide +kernel
theorem dX1_birdsEat_56 : decode cX1_birdsEat 56 = .ok (.iload_n 1, 1) := by decide +kernel
theorem dX1_birdsEat_57 : decode cX1_birdsEat 57 = .ok (.iadd, 1) := by decide +kernel
theorem dX1_birdsEat_58 : decode cX1_birdsEat 58 = .ok (.iconst 3, 1) := by decide +kernel
theorem dX1_birdsEat_59 : decode cX1_birdsEat 59 = .ok (.iastore, 1) := by decide +kernel
theorem dX1_birdsEat_60 : decode cX1_birdsEat 60 = .ok (.iinc 1 1, 3) := by decide +kernel
theorem dX1_birdsEat_63 : decode cX1_birdsEat 63 = .ok (.goto (-61), 3) := by decide +kernel
theorem dX1_birdsEat_66 : decode cX1_birdsEat 66 = .ok (.return_, 1) := by decide +kernel
theorem dX2_init_0 : decode cX2_init 0 = .ok (.aload_n 0, 1) := by decide +kernel
theorem dX2_init_1 : decode cX2_init 1 = .ok (.invokespecial 3, 3) := by decide +kernel
theorem dX2_init_4 : decode cX2_init 4 = .ok (.aload_n 0, 1) := by decide +kernel
theorem dX2_init_5 : decode cX2_init 5 = .ok (.iconst 4, 1) := by decide +kernel
theorem dX2_init_6 : decode cX2_init 6 = .ok (.newarray .int, 2) := by decide +kernel
theorem dX2_init_8 : decode cX2_init 8 = .ok (.putfield 9, 3) := by decide +kernel
theorem dX2_init_11 : decode cX2_init 11 = .ok (.aload_n 0, 1) := by decide +kernel
theorem dX2_init_12 : decode cX2_init 12 = .ok (.bipush 8, 2) := by decide +kernel
theorem dX2_init_14 : decode cX2_init 14 = .ok (.newarray .int, 2) := by decide +kernel
theorem dX2_init_16 : decode cX2_init 16 = .ok (.putfield 15, 3) := by decide +kernel
theorem dX2_init_19 : decode cX2_init 19 = .ok (.aload_n 0, 1) := by decide +kernel
theorem dX2_init_20 : decode cX2_init 20 = .ok (.bipush 9, 2) := by decide +kernel
theorem dX2_init_22 : decode cX2_init 22 = .ok (.newarray .int, 2) := by decide +kernel
theorem dX2_init_24 : decode cX2_init 24 = .ok (.putfield 18, 3) := by decide +kernel
theorem dX2_init_27 : decode cX2_init 27 = .ok (.aload_n 0, 1) := by decide +kernel
theorem dX2_init_28 : decode cX2_init 28 = .ok (.bipush 9, 2) := by decide +kernel
theorem dX2_init_30 : decode cX2_init 30 = .ok (.newarray .int, 2) := by decide +kernel
theorem dX2_init_32 : decode cX2_init 32 = .ok (.putfield 21, 3) := by decide +kernel
theorem dX2_init_35 : decode cX2_init 35 = .ok (.aload_n 0, 1) := by decide +kernel
theorem dX2_init_36 : decode cX2_init 36 = .ok (.aload_n 1, 1) := by decide +kernel
theorem dX2_init_37 : decode cX2_init 37 = .ok (.putfield 24, 3) := by decide +kernel
theorem dX2_init_40 : decode cX2_init 40 = .ok (.aload_n 0, 1) := by decide +kernel
theorem dX2_init_41 : decode cX2_init 41 = .ok (.aload_n 2, 1) := by decide +kernel
theorem dX2_init_42 : decode cX2_init 42 = .ok (.putfield 28, 3) := by decide +kernel
theorem dX2_init_45 : decode cX2_init 45 = .ok (.aload_n 0, 1) := by decide +kernel
theorem dX2_init_46 : decode cX2_init 46 = .ok (.new 32, 3) := by decide +kernel
theorem dX2_init_49 : decode cX2_init 49 = .ok (.dup, 1) := by decide +kernel
theorem dX2_init_50 : decode cX2_init 50 = .ok (.aload_n 1, 1) := by decide +kernel
theorem dX2_init_51 : decode cX2_init 51 = .ok (.invokespecial 34, 3) := by decide +kernel
theorem dX2_init_54 : decode cX2_init 54 = .ok (.putfield 37, 3) := by decide +kernel
theorem dX2_init_57 : decode cX2_init 57 = .ok (.return_, 1) := by decide +kernel
theorem dX2_whoIn_0 : decode cX2_whoIn 0 = .ok (.aload_n 0, 1) := by decide +kernel
theorem dX2_whoIn_1 : decode cX2_whoIn 1 = .ok (.getfield 37, 3) := by decide +kernel
theorem dX2_whoIn_4 : decode cX2_whoIn 4 = .ok (.aload_n 0, 1) := by decide +kernel
theorem dX2_whoIn_5 : decode cX2_whoIn 5 = .ok (.getfield 28, 3) := by decide +kernel
theorem dX2_whoIn_8 : decode cX2_whoIn 8 = .ok (.invokevirtual 40, 3) := by decide +kernel
theorem dX2_whoIn_11 : decode cX2_whoIn 11 = .ok (.iconst 0, 1) := by decide +kernel
theorem dX2_whoIn_12 : decode cX2_whoIn 12 = .ok (.istore_n 3, 1) := by decide +kernel
theorem dX2_whoIn_13 : decode cX2_whoIn 13 = .ok (.iload_n 3, 1) := by decide +kernel
theorem dX2_whoIn_14 : decode cX2_whoIn 14 = .ok (.iload_n 1, 1) := by decide +kernel
theorem dX2_whoIn_15 : decode cX2_whoIn 15 = .ok (.if_icmp .ge 17, 3) := by decide +kernel
theorem dX2_whoIn_18 : decode cX2_whoIn 18 = .ok (.aload_n 0, 1) := by decide +kernel
theorem dX2_whoIn_19 : decode cX2_whoIn 19 = .ok (.getfield 37, 3) := by decide +kernel
theorem dX2_whoIn_22 : decode cX2_whoIn 22 = .ok (.invokevirtual 44, 3) := by decide +kernel
theorem dX2_whoIn_25 : decode cX2_whoIn 25 = .ok (.pop, 1) := by decide +kernel
theorem dX2_whoIn_26 : decode cX2_whoIn 26 = .ok (.iinc 3 1, 3) := by decide +kernel
theorem dX2_whoIn_29 : decode cX2_whoIn 29 = .ok (.goto (-16), 3) := by decide +kernel
theorem dX2_whoIn_32 : decode cX2_whoIn 32 = .ok (.aload_n 0, 1) := by decide +kernel
theorem dX2_whoIn_33 : decode cX2_whoIn 33 = .ok (.getfield 37, 3) := by decide +kernel
theorem dX2_whoIn_36 : decode cX2_whoIn 36 = .ok (.iload_n 2, 1) := by decide +kernel
theorem dX2_whoIn_37 : decode cX2_whoIn 37 = .ok (.invokevirtual 48, 3) := by decide +kernel
theorem dX2_whoIn_40 : decode cX2_whoIn 40 = .ok (.ireturn, 1) := by decide +kernel
theorem dX2_daysToHatch_0 : decode cX2_daysToHatch 0 = .ok (.aload_n 0, 1) := by decide +kernel
theorem dX2_daysToHatch_1 : decode cX2_daysToHatch 1 = .ok (.getfield 37, 3) := by decide +kernel
theorem dX2_daysToHatch_4 : decode cX2_daysToHatch 4 = .ok (.aload_n 0, 1) := by decide +kernel
theorem dX2_daysToHatch_5 : decode cX2_daysToHatch 5 = .ok (.getfield 28, 3) := by decide +kernel
theorem dX2_daysToHatch_8 : decode cX2_daysToHatch 8 = .ok (.invokevirtual 40, 3) := by decide +kernel
theorem dX2_daysToHatch_11 : decode cX2_daysToHatch 11 = .ok (.aload_n 0, 1) := by decide +kernel
theorem dX2_daysToHatch_12 : decode cX2_daysToHatch 12 = .ok (.getfield 37, 3) := by decide +kernel
theorem dX2_daysToHatch_15 : decode cX2_daysToHatch 15 = .ok (.iload_n 1, 1) := by decide +kernel
theorem dX2_daysToHatch_16 : decode cX2_daysToHatch 16 = .ok (.iload_n 2, 1) := by decide +kernel
theorem dX2_daysToHatch_17 : decode cX2_daysToHatch 17 = .ok (.invokevirtual 52, 3) := by decide +kernel
theorem dX2_daysToHatch_20 : decode cX2_daysToHatch 20 = .ok (.iconst 0, 1) := by decide +kernel
theorem dX2_daysToHatch_21 : decode cX2_daysToHatch 21 = .ok (.istore_n 3, 1) := by decide +kernel
theorem dX2_daysToHatch_22 : decode cX2_daysToHatch 22 = .ok (.iload_n 3, 1) := by decide +kernel
theorem dX2_daysToHatch_23 : decode cX2_daysToHatch 23 = .ok (.bipush 20, 2) := by decide +kernel
theorem dX2_daysToHatch_25 : decode cX2_daysToHatch 25 = .ok (.if_icmp .gt 45, 3) := by decide +kernel
theorem dX2_daysToHatch_28 : decode cX2_daysToHatch 28 = .ok (.aload_n 0, 1) := by decide +kernel
theorem dX2_daysToHatch_29 : decode cX2_daysToHatch 29 = .ok (.getfield 37, 3) := by decide +kernel
theorem dX2_daysToHatch_32 : decode cX2_daysToHatch 32 = .ok (.iload_n 1, 1) := by decide +kernel
theorem dX2_daysToHatch_33 : decode cX2_daysToHatch 33 = .ok (.invokevirtual 56, 3) := by decide +kernel
theorem dX2_daysToHatch_36 : decode cX2_daysToHatch 36 = .ok (.istore 4, 2) := by decide +kernel
theorem dX2_daysToHatch_38 : decode cX2_daysToHatch 38 = .ok (.iload 4, 2) := by decide +kernel
theorem dX2_daysToHatch_40 : decode cX2_daysToHatch 40 = .ok (.ifCond .eq 16, 3) := by decide +kernel
theorem dX2_daysToHatch_43 : decode cX2_daysToHatch 43 = .ok (.iload 4, 2) := by decide +kernel
theorem dX2_daysToHatch_45 : decode cX2_daysToHatch 45 = .ok (.iconst 1, 1) := by decide +kernel
theorem dX2_daysToHatch_46 : decode cX2_daysToHatch 46 = .ok (.if_icmp .ne 8, 3) := by decide +kernel
theorem dX2_daysToHatch_49 : decode cX2_daysToHatch 49 = .ok (.bipush 21, 2) := by decide +kernel
theorem dX2_daysToHatch_51 : decode cX2_daysToHatch 51 = .ok (.goto 4, 3) := by decide +kernel
theorem dX2_daysToHatch_54 : decode cX2_daysToHatch 54 = .ok (.iload_n 3, 1) := by decide +kernel
theorem dX2_daysToHatch_55 : decode cX2_daysToHatch 55 = .ok (.ireturn, 1) := by decide +kernel
theorem dX2_daysToHatch_56 : decode cX2_daysToHatch 56 = .ok (.aload_n 0, 1) := by decide +kernel
theorem dX2_daysToHatch_57 : decode cX2_daysToHatch 57 = .ok (.getfield 37, 3) := by decide +kernel
theorem dX2_daysToHatch_60 : decode cX2_daysToHatch 60 = .ok (.invokevirtual 44, 3) := by decide +kernel
theorem dX2_daysToHatch_63 : decode cX2_daysToHatch 63 = .ok (.pop, 1) := by decide +kernel
theorem dX2_daysToHatch_64 : decode cX2_daysToHatch 64 = .ok (.iinc 3 1, 3) := by decide +kernel
theorem dX2_daysToHatch_67 : decode cX2_daysToHatch 67 = .ok (.goto (-45), 3) := by decide +kernel
theorem dX2_daysToHatch_70 : decode cX2_daysToHatch 70 = .ok (.bipush 21, 2) := by decide +kernel
theorem dX2_daysToHatch_72 : decode cX2_daysToHatch 72 = .ok (.ireturn, 1) := by decide +kernel
theorem dX2_bestRows_0 : decode cX2_bestRows 0 = .ok (.iconst 1, 1) := by decide +kernel
theorem dX2_bestRows_1 : decode cX2_bestRows 1 = .ok (.istore_n 2, 1) := by decide +kernel
theorem dX2_bestRows_2 : decode cX2_bestRows 2 = .ok (.iconst 0, 1) := by decide +kernel
theorem dX2_bestRows_3 : decode cX2_bestRows 3 = .ok (.istore_n 3, 1) := by decide +kernel
theorem dX2_bestRows_4 : decode cX2_bestRows 4 = .ok (.iload_n 3, 1) := by decide +kernel
theorem dX2_bestRows_5 : decode cX2_bestRows 5 = .ok (.aload_n 0, 1) := by decide +kernel
theorem dX2_bestRows_6 : decode cX2_bestRows 6 = .ok (.getfield 24, 3) := by decide +kernel
theorem dX2_bestRows_9 : decode cX2_bestRows 9 = .ok (.getfield 59, 3) := by decide +kernel
theorem dX2_bestRows_12 : decode cX2_bestRows 12 = .ok (.if_icmp .ge 13, 3) := by decide +kernel
theorem dX2_bestRows_15 : decode cX2_bestRows 15 = .ok (.iload_n 2, 1) := by decide +kernel
theorem dX2_bestRows_16 : decode cX2_bestRows 16 = .ok (.iconst 3, 1) := by decide +kernel
theorem dX2_bestRows_17 : decode cX2_bestRows 17 = .ok (.imul, 1) := by decide +kernel
theorem dX2_bestRows_18 : decode cX2_bestRows 18 = .ok (.istore_n 2, 1) := by decide +kernel
theorem dX2_bestRows_19 : decode cX2_bestRows 19 = .ok (.iinc 3 1, 3) := by decide +kernel
theorem dX2_bestRows_22 : decode cX2_bestRows 22 = .ok (.goto (-18), 3) := by decide +kernel
theorem dX2_bestRows_25 : decode cX2_bestRows 25 = .ok (.iconst 0, 1) := by decide +kernel
theorem dX2_bestRows_26 : decode cX2_bestRows 26 = .ok (.istore_n 3, 1) := by decide +kernel
theorem dX2_bestRows_27 : decode cX2_bestRows 27 = .ok (.bipush (-9), 2) := by decide +kernel
theorem dX2_bestRows_29 : decode cX2_bestRows 29 = .ok (.istore 4, 2) := by decide +kernel
theorem dX2_bestRows_31 : decode cX2_bestRows 31 = .ok (.iconst 0, 1) := by decide +kernel
theorem dX2_bestRows_32 : decode cX2_bestRows 32 = .ok (.istore 5, 2) := by decide +kernel
theorem dX2_bestRows_34 : decode cX2_bestRows 34 = .ok (.iload 5, 2) := by decide +kernel
theorem dX2_bestRows_36 : decode cX2_bestRows 36 = .ok (.iload_n 2, 1) := by decide +kernel
theorem dX2_bestRows_37 : decode cX2_bestRows 37 = .ok (.if_icmp .ge 82, 3) := by decide +kernel
theorem dX2_bestRows_40 : decode cX2_bestRows 40 = .ok (.aload_n 0, 1) := by decide +kernel
theorem dX2_bestRows_41 : decode cX2_bestRows 41 = .ok (.getfield 37, 3) := by decide +kernel
theorem dX2_bestRows_44 : decode cX2_bestRows 44 = .ok (.aload_n 0, 1) := by decide +kernel
theorem dX2_bestRows_45 : decode cX2_bestRows 45 = .ok (.getfield 28, 3) := by decide +kernel
theorem dX2_bestRows_48 : decode cX2_bestRows 48 = .ok (.invokevirtual 40, 3) := by decide +kernel
theorem dX2_bestRows_51 : decode cX2_bestRows 51 = .ok (.aload_n 0, 1) := by decide +kernel
theorem dX2_bestRows_52 : decode cX2_bestRows 52 = .ok (.iload 5, 2) := by decide +kernel
theorem dX2_bestRows_54 : decode cX2_bestRows 54 = .ok (.invokevirtual 65, 3) := by decide +kernel
theorem dX2_bestRows_57 : decode cX2_bestRows 57 = .ok (.istore 6, 2) := by decide +kernel
theorem dX2_bestRows_59 : decode cX2_bestRows 59 = .ok (.iconst 0, 1) := by decide +kernel
theorem dX2_bestRows_60 : decode cX2_bestRows 60 = .ok (.istore 7, 2) := by decide +kernel
theorem dX2_bestRows_62 : decode cX2_bestRows 62 = .ok (.iload 7, 2) := by decide +kernel
theorem dX2_bestRows_64 : decode cX2_bestRows 64 = .ok (.bipush 9, 2) := by decide +kernel
theorem dX2_bestRows_66 : decode cX2_bestRows 66 = .ok (.if_icmp .ge 17, 3) := by decide +kernel
theorem dX2_bestRows_69 : decode cX2_bestRows 69 = .ok (.aload_n 0, 1) := by decide +kernel
theorem dX2_bestRows_70 : decode cX2_bestRows 70 = .ok (.getfield 37, 3) := by decide +kernel
theorem dX2_bestRows_73 : decode cX2_bestRows 73 = .ok (.invokevirtual 44, 3) := by decide +kernel
theorem dX2_bestRows_76 : decode cX2_bestRows 76 = .ok (.pop, 1) := by decide +kernel
theorem dX2_bestRows_77 : decode cX2_bestRows 77 = .ok (.iinc 7 1, 3) := by decide +kernel
theorem dX2_bestRows_80 : decode cX2_bestRows 80 = .ok (.goto (-18), 3) := by decide +kernel
theorem dX2_bestRows_83 : decode cX2_bestRows 83 = .ok (.aload_n 0, 1) := by decide +kernel
theorem dX2_bestRows_84 : decode cX2_bestRows 84 = .ok (.getfield 37, 3) := by decide +kernel
theorem dX2_bestRows_87 : decode cX2_bestRows 87 = .ok (.invokevirtual 68, 3) := by decide +kernel
theorem dX2_bestRows_90 : decode cX2_bestRows 90 = .ok (.istore 7, 2) := by decide +kernel
theorem dX2_bestRows_92 : decode cX2_bestRows 92 = .ok (.iload 4, 2) := by decide +kernel
theorem dX2_bestRows_94 : decode cX2_bestRows 94 = .ok (.bipush (-9), 2) := by decide +kernel
theorem dX2_bestRows_96 : decode cX2_bestRows 96 = .ok (.if_icmp .eq 10, 3) := by decide +kernel
theorem dX2_bestRows_99 : decode cX2_bestRows 99 = .ok (.iload 7, 2) := by decide +kernel
theorem dX2_bestRows_101 : decode cX2_bestRows 101 = .ok (.iload 4, 2) := by decide +kernel
theorem dX2_bestRows_103 : decode cX2_bestRows 103 = .ok (.if_icmp .ge 10, 3) := by decide +kernel
theorem dX2_bestRows_106 : decode cX2_bestRows 106 = .ok (.iload 7, 2) := by decide +kernel
theorem dX2_bestRows_108 : decode cX2_bestRows 108 = .ok (.istore 4, 2) := by decide +kernel
theorem dX2_bestRows_110 : decode cX2_bestRows 110 = .ok (.iload 6, 2) := by decide +kernel
theorem dX2_bestRows_112 : decode cX2_bestRows 112 = .ok (.istore_n 3, 1) := by decide +kernel
theorem dX2_bestRows_113 : decode cX2_bestRows 113 = .ok (.iinc 5 1, 3) := by decide +kernel
theorem dX2_bestRows_116 : decode cX2_bestRows 116 = .ok (.goto (-82), 3) := by decide +kernel
theorem dX2_bestRows_119 : decode cX2_bestRows 119 = .ok (.iload_n 1, 1) := by decide +kernel
theorem dX2_bestRows_120 : decode cX2_bestRows 120 = .ok (.ifCond .eq 7, 3) := by decide +kernel
theorem dX2_bestRows_123 : decode cX2_bestRows 123 = .ok (.iload_n 3, 1) := by decide +kernel
theorem dX2_bestRows_124 : decode cX2_bestRows 124 = .ok (.goto 5, 3) := by decide +kernel
theorem dX2_bestRows_127 : decode cX2_bestRows 127 = .ok (.iload 4, 2) := by decide +kernel
theorem dX2_bestRows_129 : decode cX2_bestRows 129 = .ok (.ireturn, 1) := by decide +kernel
theorem dX2_sendAll_0 : decode cX2_sendAll 0 = .ok (.iconst 0, 1) := by decide +kernel
theorem dX2_sendAll_1 : decode cX2_sendAll 1 = .ok (.istore_n 2, 1) := by decide +kernel
theorem dX2_sendAll_2 : decode cX2_sendAll 2 = .ok (.iconst 1, 1) := by decide +kernel
theorem dX2_sendAll_3 : decode cX2_sendAll 3 = .ok (.istore_n 3, 1) := by decide +kernel
theorem dX2_sendAll_4 : decode cX2_sendAll 4 = .ok (.iload_n 1, 1) := by decide +kernel
theorem dX2_sendAll_5 : decode cX2_sendAll 5 = .ok (.istore 4, 2) := by decide +kernel
theorem dX2_sendAll_7 : decode cX2_sendAll 7 = .ok (.aload_n 0, 1) := by decide +kernel
theorem dX2_sendAll_8 : decode cX2_sendAll 8 = .ok (.getfield 24, 3) := by decide +kernel
theorem dX2_sendAll_11 : decode cX2_sendAll 11 = .ok (.getfield 59, 3) := by decide +kernel
theorem dX2_sendAll_14 : decode cX2_sendAll 14 = .ok (.iconst 1, 1) := by decide +kernel
theorem dX2_sendAll_15 : decode cX2_sendAll 15 = .ok (.isub, 1) := by decide +kernel
theorem dX2_sendAll_16 : decode cX2_sendAll 16 = .ok (.istore 5, 2) := by decide +kernel
theorem dX2_sendAll_18 : decode cX2_sendAll 18 = .ok (.iload 5, 2) := by decide +kernel
theorem dX2_sendAll_20 : decode cX2_sendAll 20 = .ok (.ifCond .lt 44, 3) := by decide +kernel
theorem dX2_sendAll_23 : decode cX2_sendAll 23 = .ok (.aload_n 0, 1) := by decide +kernel
theorem dX2_sendAll_24 : decode cX2_sendAll 24 = .ok (.getfield 37, 3) := by decide +kernel
theorem dX2_sendAll_27 : decode cX2_sendAll 27 = .ok (.iload 5, 2) := by decide +kernel
theorem dX2_sendAll_29 : decode cX2_sendAll 29 = .ok (.iload 4, 2) := by decide +kernel
theorem dX2_sendAll_31 : decode cX2_sendAll 31 = .ok (.iconst 3, 1) := by decide +kernel
theorem dX2_sendAll_32 : decode cX2_sendAll 32 = .ok (.irem, 1) := by decide +kernel
theorem dX2_sendAll_33 : decode cX2_sendAll 33 = .ok (.invokevirtual 71, 3) := by decide +kernel
theorem dX2_sendAll_36 : decode cX2_sendAll 36 = .ok (.iload_n 2, 1) := by decide +kernel
theorem dX2_sendAll_37 : decode cX2_sendAll 37 = .ok (.iload 4, 2) := by decide +kernel
theorem dX2_sendAll_39 : decode cX2_sendAll 39 = .ok (.iconst 3, 1) := by decide +kernel
theorem dX2_sendAll_40 : decode cX2_sendAll 40 = .ok (.irem, 1) := by decide +kernel
theorem dX2_sendAll_41 : decode cX2_sendAll 41 = .ok (.iconst 1, 1) := by decide +kernel
theorem dX2_sendAll_42 : decode cX2_sendAll 42 = .ok (.iadd, 1) := by decide +kernel
theorem dX2_sendAll_43 : decode cX2_sendAll 43 = .ok (.iload_n 3, 1) := by decide +kernel
theorem dX2_sendAll_44 : decode cX2_sendAll 44 = .ok (.imul, 1) := by decide +kernel
theorem dX2_sendAll_45 : decode cX2_sendAll 45 = .ok (.iadd, 1) := by decide +kernel
theorem dX2_sendAll_46 : decode cX2_sendAll 46 = .ok (.istore_n 2, 1) := by decide +kernel
theorem dX2_sendAll_47 : decode cX2_sendAll 47 = .ok (.iload 4, 2) := by decide +kernel
theorem dX2_sendAll_49 : decode cX2_sendAll 49 = .ok (.iconst 3, 1) := by decide +kernel
theorem dX2_sendAll_50 : decode cX2_sendAll 50 = .ok (.idiv, 1) := by decide +kernel
theorem dX2_sendAll_51 : decode cX2_sendAll 51 = .ok (.istore 4, 2) := by decide +kernel
theorem dX2_sendAll_53 : decode cX2_sendAll 53 = .ok (.iload_n 3, 1) := by decide +kernel
theorem dX2_sendAll_54 : decode cX2_sendAll 54 = .ok (.bipush 10, 2) := by decide +kernel
theorem dX2_sendAll_56 : decode cX2_sendAll 56 = .ok (.imul, 1) := by decide +kernel
theorem dX2_sendAll_57 : decode cX2_sendAll 57 = .ok (.istore_n 3, 1) := by decide +kernel
theorem dX2_sendAll_58 : decode cX2_sendAll 58 = .ok (.iinc 5 (-1), 3) := by decide +kernel
theorem dX2_sendAll_61 : decode cX2_sendAll 61 = .ok (.goto (-43), 3) := by decide +kernel
theorem dX2_sendAll_64 : decode cX2_sendAll 64 = .ok (.iload_n 2, 1) := by decide +kernel
theorem dX2_sendAll_65 : decode cX2_sendAll 65 = .ok (.ireturn, 1) := by decide +kernel
theorem dX2_safestHole_0 : decode cX2_safestHole 0 = .ok (.bipush (-9), 2) := by decide +kernel
theorem dX2_safestHole_2 : decode cX2_safestHole 2 = .ok (.istore_n 2, 1) := by decide +kernel
theorem dX2_safestHole_3 : decode cX2_safestHole 3 = .ok (.iconst 0, 1) := by decide +kernel
theorem dX2_safestHole_4 : decode cX2_safestHole 4 = .ok (.istore_n 3, 1) := by decide +kernel
theorem dX2_safestHole_5 : decode cX2_safestHole 5 = .ok (.iconst 0, 1) := by decide +kernel
theorem dX2_safestHole_6 : decode cX2_safestHole 6 = .ok (.istore 4, 2) := by decide +kernel
theorem dX2_safestHole_8 : decode cX2_safestHole 8 = .ok (.iload 4, 2) := by decide +kernel
theorem dX2_safestHole_10 : decode cX2_safestHole 10 = .ok (.bipush 12, 2) := by decide +kernel
theorem dX2_safestHole_12 : decode cX2_safestHole 12 = .ok (.if_icmp .ge 62, 3) := by decide +kernel
theorem dX2_safestHole_15 : decode cX2_safestHole 15 = .ok (.iload 4, 2) := by decide +kernel
theorem dX2_safestHole_17 : decode cX2_safestHole 17 = .ok (.aload_n 0, 1) := by decide +kernel
theorem dX2_safestHole_18 : decode cX2_safestHole 18 = .ok (.getfield 28, 3) := by decide +kernel
theorem dX2_safestHole_21 : decode cX2_safestHole 21 = .ok (.iload_n 1, 1) := by decide +kernel
theorem dX2_safestHole_22 : decode cX2_safestHole 22 = .ok (.invokevirtual 74, 3) := by decide +kernel
theorem dX2_safestHole_25 : decode cX2_safestHole 25 = .ok (.if_icmp .eq 16, 3) := by decide +kernel
theorem dX2_safestHole_28 : decode cX2_safestHole 28 = .ok (.aload_n 0, 1) := by decide +kernel
theorem dX2_safestHole_29 : decode cX2_safestHole 29 = .ok (.getfield 28, 3) := by decide +kernel
theorem dX2_safestHole_32 : decode cX2_safestHole 32 = .ok (.iload_n 1, 1) := by decide +kernel
theorem dX2_safestHole_33 : decode cX2_safestHole 33 = .ok (.iload 4, 2) := by decide +kernel
theorem dX2_safestHole_35 : decode cX2_safestHole 35 = .ok (.invokevirtual 77, 3) := by decide +kernel
theorem dX2_safestHole_38 : decode cX2_safestHole 38 = .ok (.ifCond .eq 30, 3) := by decide +kernel
theorem dX2_safestHole_41 : decode cX2_safestHole 41 = .ok (.aload_n 0, 1) := by decide +kernel
theorem dX2_safestHole_42 : decode cX2_safestHole 42 = .ok (.iload_n 1, 1) := by decide +kernel
theorem dX2_safestHole_43 : decode cX2_safestHole 43 = .ok (.iload 4, 2) := by decide +kernel
theorem dX2_safestHole_45 : decode cX2_safestHole 45 = .ok (.invokevirtual 81, 3) := by decide +kernel
theorem dX2_safestHole_48 : decode cX2_safestHole 48 = .ok (.istore 5, 2) := by decide +kernel
theorem dX2_safestHole_50 : decode cX2_safestHole 50 = .ok (.iload_n 2, 1) := by decide +kernel
theorem dX2_safestHole_51 : decode cX2_safestHole 51 = .ok (.bipush (-9), 2) := by decide +kernel
theorem dX2_safestHole_53 : decode cX2_safestHole 53 = .ok (.if_icmp .eq 9, 3) := by decide +kernel
theorem dX2_safestHole_56 : decode cX2_safestHole 56 = .ok (.iload 5, 2) := by decide +kernel
theorem dX2_safestHole_58 : decode cX2_safestHole 58 = .ok (.iload_n 3, 1) := by decide +kernel
theorem dX2_safestHole_59 : decode cX2_safestHole 59 = .ok (.if_icmp .le 9, 3) := by decide +kernel
theorem dX2_safestHole_62 : decode cX2_safestHole 62 = .ok (.iload 4, 2) := by decide +kernel
theorem dX2_safestHole_64 : decode cX2_safestHole 64 = .ok (.istore_n 2, 1) := by decide +kernel
theorem dX2_safestHole_65 : decode cX2_safestHole 65 = .ok (.iload 5, 2) := by decide +kernel
theorem dX2_safestHole_67 : decode cX2_safestHole 67 = .ok (.istore_n 3, 1) := by decide +kernel
theorem dX2_safestHole_68 : decode cX2_safestHole 68 = .ok (.iinc 4 1, 3) := by decide +kernel
theorem dX2_safestHole_71 : decode cX2_safestHole 71 = .ok (.goto (-63), 3) := by decide +kernel
theorem dX2_safestHole_74 : decode cX2_safestHole 74 = .ok (.iload_n 2, 1) := by decide +kernel
theorem dX2_safestHole_75 : decode cX2_safestHole 75 = .ok (.ireturn, 1) := by decide +kernel
theorem dX2_fewestForQuiet_0 : decode cX2_fewestForQuiet 0 = .ok (.aload_n 0, 1) := by decide +kernel
theorem dX2_fewestForQuiet_1 : decode cX2_fewestForQuiet 1 = .ok (.getfield 28, 3) := by decide +kernel
theorem dX2_fewestForQuiet_4 : decode cX2_fewestForQuiet 4 = .ok (.iconst 0, 1) := by decide +kernel
theorem dX2_fewestForQuiet_5 : decode cX2_fewestForQuiet 5 = .ok (.invokevirtual 48, 3) := by decide +kernel
theorem dX2_fewestForQuiet_8 : decode cX2_fewestForQuiet 8 = .ok (.istore_n 1, 1) := by decide +kernel
theorem dX2_fewestForQuiet_9 : decode cX2_fewestForQuiet 9 = .ok (.iconst 0, 1) := by decide +kernel
theorem dX2_fewestForQuiet_10 : decode cX2_fewestForQuiet 10 = .ok (.istore_n 2, 1) := by decide +kernel
theorem dX2_fewestForQuiet_11 : decode cX2_fewestForQuiet 11 = .ok (.iload_n 2, 1) := by decide +kernel
theorem dX2_fewestForQuiet_12 : decode cX2_fewestForQuiet 12 = .ok (.bipush 6, 2) := by decide +kernel
theorem dX2_fewestForQuiet_14 : decode cX2_fewestForQuiet 14 = .ok (.if_icmp .ge 48, 3) := by decide +kernel
theorem dX2_fewestForQuiet_17 : decode cX2_fewestForQuiet 17 = .ok (.iconst 0, 1) := by decide +kernel
theorem dX2_fewestForQuiet_18 : decode cX2_fewestForQuiet 18 = .ok (.istore_n 3, 1) := by decide +kernel
theorem dX2_fewestForQuiet_19 : decode cX2_fewestForQuiet 19 = .ok (.iload_n 3, 1) := by decide +kernel
theorem dX2_fewestForQuiet_20 : decode cX2_fewestForQuiet 20 = .ok (.iload_n 1, 1) := by decide +kernel
theorem dX2_fewestForQuiet_21 : decode cX2_fewestForQuiet 21 = .ok (.if_icmp .gt 35, 3) := by decide +kernel
theorem dX2_fewestForQuiet_24 : decode cX2_fewestForQuiet 24 = .ok (.iload_n 3, 1) := by decide +kernel
theorem dX2_fewestForQuiet_25 : decode cX2_fewestForQuiet 25 = .ok (.iload_n 1, 1) := by decide +kernel
theorem dX2_fewestForQuiet_26 : decode cX2_fewestForQuiet 26 = .ok (.iconst (-1), 1) := by decide +kernel
theorem dX2_fewestForQuiet_27 : decode cX2_fewestForQuiet 27 = .ok (.ixor, 1) := by decide +kernel
theorem dX2_fewestForQuiet_28 : decode cX2_fewestForQuiet 28 = .ok (.iand, 1) := by decide +kernel
theorem dX2_fewestForQuiet_29 : decode cX2_fewestForQuiet 29 = .ok (.ifCond .ne 21, 3) := by decide +kernel
theorem dX2_fewestForQuiet_32 : decode cX2_fewestForQuiet 32 = .ok (.iload_n 3, 1) := by decide +kernel
theorem dX2_fewestForQuiet_33 : decode cX2_fewestForQuiet 33 = .ok (.invokestatic 85, 3) := by decide +kernel
theorem dX2_fewestForQuiet_36 : decode cX2_fewestForQuiet 36 = .ok (.iload_n 2, 1) := by decide +kernel
theorem dX2_fewestForQuiet_37 : decode cX2_fewestForQuiet 37 = .ok (.if_icmp .ne 13, 3) := by decide +kernel
theorem dX2_fewestForQuiet_40 : decode cX2_fewestForQuiet 40 = .ok (.aload_n 0, 1) := by decide +kernel
theorem dX2_fewestForQuiet_41 : decode cX2_fewestForQuiet 41 = .ok (.iload_n 3, 1) := by decide +kernel
theorem dX2_fewestForQuiet_42 : decode cX2_fewestForQuiet 42 = .ok (.invokevirtual 90, 3) := by decide +kernel
theorem dX2_fewestForQuiet_45 : decode cX2_fewestForQuiet 45 = .ok (.ifCond .eq 5, 3) := by decide +kernel
theorem dX2_fewestForQuiet_48 : decode cX2_fewestForQuiet 48 = .ok (.iload_n 3, 1) := by decide +kernel
theorem dX2_fewestForQuiet_49 : decode cX2_fewestForQuiet 49 = .ok (.ireturn, 1) := by decide +kernel
theorem dX2_fewestForQuiet_50 : decode cX2_fewestForQuiet 50 = .ok (.iinc 3 1, 3) := by decide +kernel
theorem dX2_fewestForQuiet_53 : decode cX2_fewestForQuiet 53 = .ok (.goto (-34), 3) := by decide +kernel
theorem dX2_fewestForQuiet_56 : decode cX2_fewestForQuiet 56 = .ok (.iinc 2 1, 3) := by decide +kernel
theorem dX2_fewestForQuiet_59 : decode cX2_fewestForQuiet 59 = .ok (.goto (-48), 3) := by decide +kernel
theorem dX2_fewestForQuiet_62 : decode cX2_fewestForQuiet 62 = .ok (.iload_n 1, 1) := by decide +kernel
theorem dX2_fewestForQuiet_63 : decode cX2_fewestForQuiet 63 = .ok (.ireturn, 1) := by decide +kernel
theorem dX2_isQuiet_0 : decode cX2_isQuiet 0 = .ok (.aload_n 0, 1) := by decide +kernel
theorem dX2_isQuiet_1 : decode cX2_isQuiet 1 = .ok (.getfield 37, 3) := by decide +kernel
theorem dX2_isQuiet_4 : decode cX2_isQuiet 4 = .ok (.aload_n 0, 1) := by decide +kernel
theorem dX2_isQuiet_5 : decode cX2_isQuiet 5 = .ok (.getfield 28, 3) := by decide +kernel
theorem dX2_isQuiet_8 : decode cX2_isQuiet 8 = .ok (.invokevirtual 40, 3) := by decide +kernel
theorem dX2_isQuiet_11 : decode cX2_isQuiet 11 = .ok (.iconst 0, 1) := by decide +kernel
theorem dX2_isQuiet_12 : decode cX2_isQuiet 12 = .ok (.istore_n 2, 1) := by decide +kernel
theorem dX2_isQuiet_13 : decode cX2_isQuiet 13 = .ok (.iload_n 2, 1) := by decide +kernel
theorem dX2_isQuiet_14 : decode cX2_isQuiet 14 = .ok (.aload_n 0, 1) := by decide +kernel
theorem dX2_isQuiet_15 : decode cX2_isQuiet 15 = .ok (.getfield 24, 3) := by decide +kernel
theorem dX2_isQuiet_18 : decode cX2_isQuiet 18 = .ok (.getfield 94, 3) := by decide +kernel
theorem dX2_isQuiet_21 : decode cX2_isQuiet 21 = .ok (.if_icmp .ge 25, 3) := by decide +kernel
theorem dX2_isQuiet_24 : decode cX2_isQuiet 24 = .ok (.iload_n 1, 1) := by decide +kernel
theorem dX2_isQuiet_25 : decode cX2_isQuiet 25 = .ok (.iload_n 2, 1) := by decide +kernel
theorem dX2_isQuiet_26 : decode cX2_isQuiet 26 = .ok (.ishr, 1) := by decide +kernel
theorem dX2_isQuiet_27 : decode cX2_isQuiet 27 = .ok (.iconst 1, 1) := by decide +kernel
theorem dX2_isQuiet_28 : decode cX2_isQuiet 28 = .ok (.iand, 1) := by decide +kernel
theorem dX2_isQuiet_29 : decode cX2_isQuiet 29 = .ok (.ifCond .eq 11, 3) := by decide +kernel
theorem dX2_isQuiet_32 : decode cX2_isQuiet 32 = .ok (.aload_n 0, 1) := by decide +kernel
theorem dX2_isQuiet_33 : decode cX2_isQuiet 33 = .ok (.getfield 37, 3) := by decide +kernel
theorem dX2_isQuiet_36 : decode cX2_isQuiet 36 = .ok (.iload_n 2, 1) := by decide +kernel
theorem dX2_isQuiet_37 : decode cX2_isQuiet 37 = .ok (.invokevirtual 97, 3) := by decide +kernel
theorem dX2_isQuiet_40 : decode cX2_isQuiet 40 = .ok (.iinc 2 1, 3) := by decide +kernel
theorem dX2_isQuiet_43 : decode cX2_isQuiet 43 = .ok (.goto (-30), 3) := by decide +kernel
theorem dX2_isQuiet_46 : decode cX2_isQuiet 46 = .ok (.iconst 0, 1) := by decide +kernel
theorem dX2_isQuiet_47 : decode cX2_isQuiet 47 = .ok (.istore_n 2, 1) := by decide +kernel
theorem dX2_isQuiet_48 : decode cX2_isQuiet 48 = .ok (.iload_n 2, 1) := by decide +kernel
theorem dX2_isQuiet_49 : decode cX2_isQuiet 49 = .ok (.bipush 9, 2) := by decide +kernel
theorem dX2_isQuiet_51 : decode cX2_isQuiet 51 = .ok (.if_icmp .ge 21, 3) := by decide +kernel
theorem dX2_isQuiet_54 : decode cX2_isQuiet 54 = .ok (.aload_n 0, 1) := by decide +kernel
theorem dX2_isQuiet_55 : decode cX2_isQuiet 55 = .ok (.getfield 37, 3) := by decide +kernel
theorem dX2_isQuiet_58 : decode cX2_isQuiet 58 = .ok (.invokevirtual 44, 3) := by decide +kernel
theorem dX2_isQuiet_61 : decode cX2_isQuiet 61 = .ok (.ifCond .le 5, 3) := by decide +kernel
theorem dX2_isQuiet_64 : decode cX2_isQuiet 64 = .ok (.iconst 0, 1) := by decide +kernel
theorem dX2_isQuiet_65 : decode cX2_isQuiet 65 = .ok (.ireturn, 1) := by decide +kernel
theorem dX2_isQuiet_66 : decode cX2_isQuiet 66 = .ok (.iinc 2 1, 3) := by decide +kernel
theorem dX2_isQuiet_69 : decode cX2_isQuiet 69 = .ok (.goto (-21), 3) := by decide +kernel
theorem dX2_isQuiet_72 : decode cX2_isQuiet 72 = .ok (.iconst 1, 1) := by decide +kernel
theorem dX2_isQuiet_73 : decode cX2_isQuiet 73 = .ok (.ireturn, 1) := by decide +kernel
theorem dX2_firstThatCanNotBe_0 : decode cX2_firstThatCanNotBe 0 = .ok (.iload_n 1, 1) := by decide +kernel
theorem dX2_firstThatCanNotBe_1 : decode cX2_firstThatCanNotBe 1 = .ok (.iconst 4, 1) := by decide +kernel
theorem dX2_firstThatCanNotBe_2 : decode cX2_firstThatCanNotBe 2 = .ok (.invokestatic 101, 3) := by decide +kernel
theorem dX2_firstThatCanNotBe_5 : decode cX2_firstThatCanNotBe 5 = .ok (.istore 4, 2) := by decide +kernel
theorem dX2_firstThatCanNotBe_7 : decode cX2_firstThatCanNotBe 7 = .ok (.lload_n 2, 1) := by decide +kernel
theorem dX2_firstThatCanNotBe_8 : decode cX2_firstThatCanNotBe 8 = .ok (.lstore 5, 2) := by decide +kernel
theorem dX2_firstThatCanNotBe_10 : decode cX2_firstThatCanNotBe 10 = .ok (.iload 4, 2) := by decide +kernel
theorem dX2_firstThatCanNotBe_12 : decode cX2_firstThatCanNotBe 12 = .ok (.iconst 1, 1) := by decide +kernel
theorem dX2_firstThatCanNotBe_13 : decode cX2_firstThatCanNotBe 13 = .ok (.isub, 1) := by decide +kernel
theorem dX2_firstThatCanNotBe_14 : decode cX2_firstThatCanNotBe 14 = .ok (.istore 7, 2) := by decide +kernel
theorem dX2_firstThatCanNotBe_16 : decode cX2_firstThatCanNotBe 16 = .ok (.iload 7, 2) := by decide +kernel
theorem dX2_firstThatCanNotBe_18 : decode cX2_firstThatCanNotBe 18 = .ok (.ifCond .lt 31, 3) := by decide +kernel
theorem dX2_firstThatCanNotBe_21 : decode cX2_firstThatCanNotBe 21 = .ok (.aload_n 0, 1) := by decide +kernel
theorem dX2_firstThatCanNotBe_22 : decode cX2_firstThatCanNotBe 22 = .ok (.getfield 9, 3) := by decide +kernel
theorem dX2_firstThatCanNotBe_25 : decode cX2_firstThatCanNotBe 25 = .ok (.iload 7, 2) := by decide +kernel
theorem dX2_firstThatCanNotBe_27 : decode cX2_firstThatCanNotBe 27 = .ok (.lload 5, 2) := by decide +kernel
theorem dX2_firstThatCanNotBe_29 : decode cX2_firstThatCanNotBe 29 = .ok (.ldc2_w 106, 3) := by decide +kernel
theorem dX2_firstThatCanNotBe_32 : decode cX2_firstThatCanNotBe 32 = .ok (.lrem, 1) := by decide +kernel
theorem dX2_firstThatCanNotBe_33 : decode cX2_firstThatCanNotBe 33 = .ok (.l2i, 1) := by decide +kernel
theorem dX2_firstThatCanNotBe_34 : decode cX2_firstThatCanNotBe 34 = .ok (.iastore, 1) := by decide +kernel
theorem dX2_firstThatCanNotBe_35 : decode cX2_firstThatCanNotBe 35 = .ok (.lload 5, 2) := by decide +kernel
theorem dX2_firstThatCanNotBe_37 : decode cX2_firstThatCanNotBe 37 = .ok (.ldc2_w 106, 3) := by decide +kernel
theorem dX2_firstThatCanNotBe_40 : decode cX2_firstThatCanNotBe 40 = .ok (.ldiv, 1) := by decide +kernel
theorem dX2_firstThatCanNotBe_41 : decode cX2_firstThatCanNotBe 41 = .ok (.lstore 5, 2) := by decide +kernel
theorem dX2_firstThatCanNotBe_43 : decode cX2_firstThatCanNotBe 43 = .ok (.iinc 7 (-1), 3) := by decide +kernel
end
section
theorem dX2_firstThatCanNotBe_46 : decode cX2_firstThatCanNotBe 46 = .ok (.goto (-30), 3) := by decide +kernel
theorem dX2_firstThatCanNotBe_49 : decode cX2_firstThatCanNotBe 49 = .ok (.lload 5, 2) := by decide +kernel
theorem dX2_firstThatCanNotBe_51 : decode cX2_firstThatCanNotBe 51 = .ok (.lconst 0, 1) := by decide +kernel
theorem dX2_firstThatCanNotBe_52 : decode cX2_firstThatCanNotBe 52 = .ok (.lcmp, 1) := by decide +kernel
theorem dX2_firstThatCanNotBe_53 : decode cX2_firstThatCanNotBe 53 = .ok (.ifCond .eq 6, 3) := by decide +kernel
theorem dX2_firstThatCanNotBe_56 : decode cX2_firstThatCanNotBe 56 = .ok (.bipush (-2), 2) := by decide +kernel
theorem dX2_firstThatCanNotBe_58 : decode cX2_firstThatCanNotBe 58 = .ok (.ireturn, 1) := by decide +kernel
theorem dX2_firstThatCanNotBe_59 : decode cX2_firstThatCanNotBe 59 = .ok (.aload_n 0, 1) := by decide +kernel
theorem dX2_firstThatCanNotBe_60 : decode cX2_firstThatCanNotBe 60 = .ok (.getfield 37, 3) := by decide +kernel
theorem dX2_firstThatCanNotBe_63 : decode cX2_firstThatCanNotBe 63 = .ok (.aload_n 0, 1) := by decide +kernel
theorem dX2_firstThatCanNotBe_64 : decode cX2_firstThatCanNotBe 64 = .ok (.getfield 28, 3) := by decide +kernel
theorem dX2_firstThatCanNotBe_67 : decode cX2_firstThatCanNotBe 67 = .ok (.invokevirtual 40, 3) := by decide +kernel
theorem dX2_firstThatCanNotBe_70 : decode cX2_firstThatCanNotBe 70 = .ok (.iconst 0, 1) := by decide +kernel
theorem dX2_firstThatCanNotBe_71 : decode cX2_firstThatCanNotBe 71 = .ok (.istore 7, 2) := by decide +kernel
theorem dX2_firstThatCanNotBe_73 : decode cX2_firstThatCanNotBe 73 = .ok (.iload 7, 2) := by decide +kernel
theorem dX2_firstThatCanNotBe_75 : decode cX2_firstThatCanNotBe 75 = .ok (.iload 4, 2) := by decide +kernel
theorem dX2_firstThatCanNotBe_77 : decode cX2_firstThatCanNotBe 77 = .ok (.if_icmp .ge 26, 3) := by decide +kernel
theorem dX2_firstThatCanNotBe_80 : decode cX2_firstThatCanNotBe 80 = .ok (.aload_n 0, 1) := by decide +kernel
theorem dX2_firstThatCanNotBe_81 : decode cX2_firstThatCanNotBe 81 = .ok (.aload_n 0, 1) := by decide +kernel
theorem dX2_firstThatCanNotBe_82 : decode cX2_firstThatCanNotBe 82 = .ok (.getfield 9, 3) := by decide +kernel
theorem dX2_firstThatCanNotBe_85 : decode cX2_firstThatCanNotBe 85 = .ok (.iload 7, 2) := by decide +kernel
theorem dX2_firstThatCanNotBe_87 : decode cX2_firstThatCanNotBe 87 = .ok (.iaload, 1) := by decide +kernel
theorem dX2_firstThatCanNotBe_88 : decode cX2_firstThatCanNotBe 88 = .ok (.invokevirtual 108, 3) := by decide +kernel
theorem dX2_firstThatCanNotBe_91 : decode cX2_firstThatCanNotBe 91 = .ok (.ifCond .ne 6, 3) := by decide +kernel
theorem dX2_firstThatCanNotBe_94 : decode cX2_firstThatCanNotBe 94 = .ok (.iload 7, 2) := by decide +kernel
theorem dX2_firstThatCanNotBe_96 : decode cX2_firstThatCanNotBe 96 = .ok (.ireturn, 1) := by decide +kernel
theorem dX2_firstThatCanNotBe_97 : decode cX2_firstThatCanNotBe 97 = .ok (.iinc 7 1, 3) := by decide +kernel
theorem dX2_firstThatCanNotBe_100 : decode cX2_firstThatCanNotBe 100 = .ok (.goto (-27), 3) := by decide +kernel
theorem dX2_firstThatCanNotBe_103 : decode cX2_firstThatCanNotBe 103 = .ok (.bipush (-9), 2) := by decide +kernel
theorem dX2_firstThatCanNotBe_105 : decode cX2_firstThatCanNotBe 105 = .ok (.ireturn, 1) := by decide +kernel
theorem dX2_doIfCan_0 : decode cX2_doIfCan 0 = .ok (.iload_n 1, 1) := by decide +kernel
theorem dX2_doIfCan_1 : decode cX2_doIfCan 1 = .ok (.bipush 100, 2) := by decide +kernel
theorem dX2_doIfCan_3 : decode cX2_doIfCan 3 = .ok (.idiv, 1) := by decide +kernel
theorem dX2_doIfCan_4 : decode cX2_doIfCan 4 = .ok (.bipush 10, 2) := by decide +kernel
theorem dX2_doIfCan_6 : decode cX2_doIfCan 6 = .ok (.irem, 1) := by decide +kernel
theorem dX2_doIfCan_7 : decode cX2_doIfCan 7 = .ok (.istore_n 2, 1) := by decide +kernel
theorem dX2_doIfCan_8 : decode cX2_doIfCan 8 = .ok (.iload_n 1, 1) := by decide +kernel
theorem dX2_doIfCan_9 : decode cX2_doIfCan 9 = .ok (.bipush 10, 2) := by decide +kernel
theorem dX2_doIfCan_11 : decode cX2_doIfCan 11 = .ok (.idiv, 1) := by decide +kernel
theorem dX2_doIfCan_12 : decode cX2_doIfCan 12 = .ok (.bipush 10, 2) := by decide +kernel
theorem dX2_doIfCan_14 : decode cX2_doIfCan 14 = .ok (.irem, 1) := by decide +kernel
theorem dX2_doIfCan_15 : decode cX2_doIfCan 15 = .ok (.istore_n 3, 1) := by decide +kernel
theorem dX2_doIfCan_16 : decode cX2_doIfCan 16 = .ok (.iload_n 1, 1) := by decide +kernel
theorem dX2_doIfCan_17 : decode cX2_doIfCan 17 = .ok (.bipush 10, 2) := by decide +kernel
theorem dX2_doIfCan_19 : decode cX2_doIfCan 19 = .ok (.irem, 1) := by decide +kernel
theorem dX2_doIfCan_20 : decode cX2_doIfCan 20 = .ok (.istore 4, 2) := by decide +kernel
theorem dX2_doIfCan_22 : decode cX2_doIfCan 22 = .ok (.iload_n 1, 1) := by decide +kernel
theorem dX2_doIfCan_23 : decode cX2_doIfCan 23 = .ok (.sipush 1000, 3) := by decide +kernel
theorem dX2_doIfCan_26 : decode cX2_doIfCan 26 = .ok (.idiv, 1) := by decide +kernel
theorem dX2_doIfCan_27 : decode cX2_doIfCan 27 = .ok (.tableswitch 145 0 4 #[33, 55, 65, 91, 111], 33) := by decide +kernel
theorem dX2_doIfCan_60 : decode cX2_doIfCan 60 = .ok (.iload_n 1, 1) := by decide +kernel
theorem dX2_doIfCan_61 : decode cX2_doIfCan 61 = .ok (.ifCond .ne 11, 3) := by decide +kernel
theorem dX2_doIfCan_64 : decode cX2_doIfCan 64 = .ok (.aload_n 0, 1) := by decide +kernel
theorem dX2_doIfCan_65 : decode cX2_doIfCan 65 = .ok (.getfield 37, 3) := by decide +kernel
theorem dX2_doIfCan_68 : decode cX2_doIfCan 68 = .ok (.invokevirtual 44, 3) := by decide +kernel
theorem dX2_doIfCan_71 : decode cX2_doIfCan 71 = .ok (.pop, 1) := by decide +kernel
theorem dX2_doIfCan_72 : decode cX2_doIfCan 72 = .ok (.iload_n 1, 1) := by decide +kernel
theorem dX2_doIfCan_73 : decode cX2_doIfCan 73 = .ok (.ifCond .ne 7, 3) := by decide +kernel
theorem dX2_doIfCan_76 : decode cX2_doIfCan 76 = .ok (.iconst 1, 1) := by decide +kernel
theorem dX2_doIfCan_77 : decode cX2_doIfCan 77 = .ok (.goto 4, 3) := by decide +kernel
theorem dX2_doIfCan_80 : decode cX2_doIfCan 80 = .ok (.iconst 0, 1) := by decide +kernel
theorem dX2_doIfCan_81 : decode cX2_doIfCan 81 = .ok (.ireturn, 1) := by decide +kernel
theorem dX2_doIfCan_82 : decode cX2_doIfCan 82 = .ok (.aload_n 0, 1) := by decide +kernel
theorem dX2_doIfCan_83 : decode cX2_doIfCan 83 = .ok (.iload_n 2, 1) := by decide +kernel
theorem dX2_doIfCan_84 : decode cX2_doIfCan 84 = .ok (.iload_n 1, 1) := by decide +kernel
theorem dX2_doIfCan_85 : decode cX2_doIfCan 85 = .ok (.bipush 100, 2) := by decide +kernel
theorem dX2_doIfCan_87 : decode cX2_doIfCan 87 = .ok (.irem, 1) := by decide +kernel
theorem dX2_doIfCan_88 : decode cX2_doIfCan 88 = .ok (.invokevirtual 111, 3) := by decide +kernel
theorem dX2_doIfCan_91 : decode cX2_doIfCan 91 = .ok (.ireturn, 1) := by decide +kernel
theorem dX2_doIfCan_92 : decode cX2_doIfCan 92 = .ok (.iload_n 2, 1) := by decide +kernel
theorem dX2_doIfCan_93 : decode cX2_doIfCan 93 = .ok (.ifCond .ne 12, 3) := by decide +kernel
theorem dX2_doIfCan_96 : decode cX2_doIfCan 96 = .ok (.iload_n 3, 1) := by decide +kernel
theorem dX2_doIfCan_97 : decode cX2_doIfCan 97 = .ok (.ifCond .ne 8, 3) := by decide +kernel
theorem dX2_doIfCan_100 : decode cX2_doIfCan 100 = .ok (.iload 4, 2) := by decide +kernel
theorem dX2_doIfCan_102 : decode cX2_doIfCan 102 = .ok (.ifCond .ne 5, 3) := by decide +kernel
theorem dX2_doIfCan_105 : decode cX2_doIfCan 105 = .ok (.iconst 0, 1) := by decide +kernel
theorem dX2_doIfCan_106 : decode cX2_doIfCan 106 = .ok (.ireturn, 1) := by decide +kernel
theorem dX2_doIfCan_107 : decode cX2_doIfCan 107 = .ok (.aload_n 0, 1) := by decide +kernel
theorem dX2_doIfCan_108 : decode cX2_doIfCan 108 = .ok (.getfield 37, 3) := by decide +kernel
theorem dX2_doIfCan_111 : decode cX2_doIfCan 111 = .ok (.iload 4, 2) := by decide +kernel
theorem dX2_doIfCan_113 : decode cX2_doIfCan 113 = .ok (.invokevirtual 114, 3) := by decide +kernel
theorem dX2_doIfCan_116 : decode cX2_doIfCan 116 = .ok (.iconst 1, 1) := by decide +kernel
theorem dX2_doIfCan_117 : decode cX2_doIfCan 117 = .ok (.ireturn, 1) := by decide +kernel
theorem dX2_doIfCan_118 : decode cX2_doIfCan 118 = .ok (.iload_n 3, 1) := by decide +kernel
theorem dX2_doIfCan_119 : decode cX2_doIfCan 119 = .ok (.ifCond .ne 17, 3) := by decide +kernel
theorem dX2_doIfCan_122 : decode cX2_doIfCan 122 = .ok (.aload_n 0, 1) := by decide +kernel
theorem dX2_doIfCan_123 : decode cX2_doIfCan 123 = .ok (.iload_n 2, 1) := by decide +kernel
theorem dX2_doIfCan_124 : decode cX2_doIfCan 124 = .ok (.iload 4, 2) := by decide +kernel
theorem dX2_doIfCan_126 : decode cX2_doIfCan 126 = .ok (.invokevirtual 117, 3) := by decide +kernel
theorem dX2_doIfCan_129 : decode cX2_doIfCan 129 = .ok (.ifCond .eq 7, 3) := by decide +kernel
theorem dX2_doIfCan_132 : decode cX2_doIfCan 132 = .ok (.iconst 1, 1) := by decide +kernel
theorem dX2_doIfCan_133 : decode cX2_doIfCan 133 = .ok (.goto 4, 3) := by decide +kernel
theorem dX2_doIfCan_136 : decode cX2_doIfCan 136 = .ok (.iconst 0, 1) := by decide +kernel
theorem dX2_doIfCan_137 : decode cX2_doIfCan 137 = .ok (.ireturn, 1) := by decide +kernel
theorem dX2_doIfCan_138 : decode cX2_doIfCan 138 = .ok (.iload_n 3, 1) := by decide +kernel
theorem dX2_doIfCan_139 : decode cX2_doIfCan 139 = .ok (.ifCond .ne 31, 3) := by decide +kernel
theorem dX2_doIfCan_142 : decode cX2_doIfCan 142 = .ok (.aload_n 0, 1) := by decide +kernel
theorem dX2_doIfCan_143 : decode cX2_doIfCan 143 = .ok (.getfield 24, 3) := by decide +kernel
theorem dX2_doIfCan_146 : decode cX2_doIfCan 146 = .ok (.iload_n 2, 1) := by decide +kernel
theorem dX2_doIfCan_147 : decode cX2_doIfCan 147 = .ok (.invokevirtual 120, 3) := by decide +kernel
theorem dX2_doIfCan_150 : decode cX2_doIfCan 150 = .ok (.ifCond .eq 20, 3) := by decide +kernel
theorem dX2_doIfCan_153 : decode cX2_doIfCan 153 = .ok (.aload_n 0, 1) := by decide +kernel
theorem dX2_doIfCan_154 : decode cX2_doIfCan 154 = .ok (.getfield 37, 3) := by decide +kernel
theorem dX2_doIfCan_157 : decode cX2_doIfCan 157 = .ok (.iload_n 2, 1) := by decide +kernel
theorem dX2_doIfCan_158 : decode cX2_doIfCan 158 = .ok (.invokevirtual 56, 3) := by decide +kernel
theorem dX2_doIfCan_161 : decode cX2_doIfCan 161 = .ok (.iload 4, 2) := by decide +kernel
theorem dX2_doIfCan_163 : decode cX2_doIfCan 163 = .ok (.if_icmp .ne 7, 3) := by decide +kernel
theorem dX2_doIfCan_166 : decode cX2_doIfCan 166 = .ok (.iconst 1, 1) := by decide +kernel
theorem dX2_doIfCan_167 : decode cX2_doIfCan 167 = .ok (.goto 4, 3) := by decide +kernel
theorem dX2_doIfCan_170 : decode cX2_doIfCan 170 = .ok (.iconst 0, 1) := by decide +kernel
theorem dX2_doIfCan_171 : decode cX2_doIfCan 171 = .ok (.ireturn, 1) := by decide +kernel
theorem dX2_doIfCan_172 : decode cX2_doIfCan 172 = .ok (.iconst 0, 1) := by decide +kernel
theorem dX2_doIfCan_173 : decode cX2_doIfCan 173 = .ok (.ireturn, 1) := by decide +kernel
theorem dX2_putIfCan_0 : decode cX2_putIfCan 0 = .ok (.aload_n 0, 1) := by decide +kernel
theorem dX2_putIfCan_1 : decode cX2_putIfCan 1 = .ok (.getfield 37, 3) := by decide +kernel
theorem dX2_putIfCan_4 : decode cX2_putIfCan 4 = .ok (.iload_n 1, 1) := by decide +kernel
theorem dX2_putIfCan_5 : decode cX2_putIfCan 5 = .ok (.iload_n 2, 1) := by decide +kernel
theorem dX2_putIfCan_6 : decode cX2_putIfCan 6 = .ok (.invokevirtual 77, 3) := by decide +kernel
theorem dX2_putIfCan_9 : decode cX2_putIfCan 9 = .ok (.istore_n 3, 1) := by decide +kernel
theorem dX2_putIfCan_10 : decode cX2_putIfCan 10 = .ok (.iload_n 3, 1) := by decide +kernel
theorem dX2_putIfCan_11 : decode cX2_putIfCan 11 = .ok (.ifCond .eq 12, 3) := by decide +kernel
theorem dX2_putIfCan_14 : decode cX2_putIfCan 14 = .ok (.aload_n 0, 1) := by decide +kernel
theorem dX2_putIfCan_15 : decode cX2_putIfCan 15 = .ok (.getfield 37, 3) := by decide +kernel
theorem dX2_putIfCan_18 : decode cX2_putIfCan 18 = .ok (.iload_n 1, 1) := by decide +kernel
theorem dX2_putIfCan_19 : decode cX2_putIfCan 19 = .ok (.iload_n 2, 1) := by decide +kernel
theorem dX2_putIfCan_20 : decode cX2_putIfCan 20 = .ok (.invokevirtual 52, 3) := by decide +kernel
theorem dX2_putIfCan_23 : decode cX2_putIfCan 23 = .ok (.iload_n 3, 1) := by decide +kernel
theorem dX2_putIfCan_24 : decode cX2_putIfCan 24 = .ok (.ireturn, 1) := by decide +kernel
theorem dX2_sendIfCan_0 : decode cX2_sendIfCan 0 = .ok (.aload_n 0, 1) := by decide +kernel
theorem dX2_sendIfCan_1 : decode cX2_sendIfCan 1 = .ok (.getfield 37, 3) := by decide +kernel
theorem dX2_sendIfCan_4 : decode cX2_sendIfCan 4 = .ok (.iload_n 1, 1) := by decide +kernel
theorem dX2_sendIfCan_5 : decode cX2_sendIfCan 5 = .ok (.iload_n 2, 1) := by decide +kernel
theorem dX2_sendIfCan_6 : decode cX2_sendIfCan 6 = .ok (.invokevirtual 123, 3) := by decide +kernel
theorem dX2_sendIfCan_9 : decode cX2_sendIfCan 9 = .ok (.istore_n 3, 1) := by decide +kernel
theorem dX2_sendIfCan_10 : decode cX2_sendIfCan 10 = .ok (.iload_n 3, 1) := by decide +kernel
theorem dX2_sendIfCan_11 : decode cX2_sendIfCan 11 = .ok (.ifCond .eq 12, 3) := by decide +kernel
theorem dX2_sendIfCan_14 : decode cX2_sendIfCan 14 = .ok (.aload_n 0, 1) := by decide +kernel
theorem dX2_sendIfCan_15 : decode cX2_sendIfCan 15 = .ok (.getfield 37, 3) := by decide +kernel
theorem dX2_sendIfCan_18 : decode cX2_sendIfCan 18 = .ok (.iload_n 1, 1) := by decide +kernel
theorem dX2_sendIfCan_19 : decode cX2_sendIfCan 19 = .ok (.iload_n 2, 1) := by decide +kernel
theorem dX2_sendIfCan_20 : decode cX2_sendIfCan 20 = .ok (.invokevirtual 71, 3) := by decide +kernel
theorem dX2_sendIfCan_23 : decode cX2_sendIfCan 23 = .ok (.iload_n 3, 1) := by decide +kernel
theorem dX2_sendIfCan_24 : decode cX2_sendIfCan 24 = .ok (.ireturn, 1) := by decide +kernel
theorem dX2_shareOf_0 : decode cX2_shareOf 0 = .ok (.aload_n 0, 1) := by decide +kernel
theorem dX2_shareOf_1 : decode cX2_shareOf 1 = .ok (.invokevirtual 126, 3) := by decide +kernel
theorem dX2_shareOf_4 : decode cX2_shareOf 4 = .ok (.iconst 0, 1) := by decide +kernel
theorem dX2_shareOf_5 : decode cX2_shareOf 5 = .ok (.istore_n 3, 1) := by decide +kernel
theorem dX2_shareOf_6 : decode cX2_shareOf 6 = .ok (.iconst 0, 1) := by decide +kernel
theorem dX2_shareOf_7 : decode cX2_shareOf 7 = .ok (.istore 4, 2) := by decide +kernel
theorem dX2_shareOf_9 : decode cX2_shareOf 9 = .ok (.iconst 0, 1) := by decide +kernel
theorem dX2_shareOf_10 : decode cX2_shareOf 10 = .ok (.istore 5, 2) := by decide +kernel
theorem dX2_shareOf_12 : decode cX2_shareOf 12 = .ok (.iload 5, 2) := by decide +kernel
theorem dX2_shareOf_14 : decode cX2_shareOf 14 = .ok (.iconst 1, 1) := by decide +kernel
theorem dX2_shareOf_15 : decode cX2_shareOf 15 = .ok (.aload_n 0, 1) := by decide +kernel
theorem dX2_shareOf_16 : decode cX2_shareOf 16 = .ok (.getfield 24, 3) := by decide +kernel
theorem dX2_shareOf_19 : decode cX2_shareOf 19 = .ok (.getfield 59, 3) := by decide +kernel
theorem dX2_shareOf_22 : decode cX2_shareOf 22 = .ok (.ishl, 1) := by decide +kernel
theorem dX2_shareOf_23 : decode cX2_shareOf 23 = .ok (.if_icmp .ge 80, 3) := by decide +kernel
theorem dX2_shareOf_26 : decode cX2_shareOf 26 = .ok (.iload 5, 2) := by decide +kernel
theorem dX2_shareOf_28 : decode cX2_shareOf 28 = .ok (.iload_n 1, 1) := by decide +kernel
theorem dX2_shareOf_29 : decode cX2_shareOf 29 = .ok (.ishr, 1) := by decide +kernel
theorem dX2_shareOf_30 : decode cX2_shareOf 30 = .ok (.iconst 1, 1) := by decide +kernel
theorem dX2_shareOf_31 : decode cX2_shareOf 31 = .ok (.iand, 1) := by decide +kernel
theorem dX2_shareOf_32 : decode cX2_shareOf 32 = .ok (.ifCond .ne 65, 3) := by decide +kernel
theorem dX2_shareOf_35 : decode cX2_shareOf 35 = .ok (.iload 5, 2) := by decide +kernel
theorem dX2_shareOf_37 : decode cX2_shareOf 37 = .ok (.invokestatic 85, 3) := by decide +kernel
theorem dX2_shareOf_40 : decode cX2_shareOf 40 = .ok (.istore 6, 2) := by decide +kernel
theorem dX2_shareOf_42 : decode cX2_shareOf 42 = .ok (.iload 6, 2) := by decide +kernel
theorem dX2_shareOf_44 : decode cX2_shareOf 44 = .ok (.invokestatic 129, 3) := by decide +kernel
theorem dX2_shareOf_47 : decode cX2_shareOf 47 = .ok (.aload_n 0, 1) := by decide +kernel
theorem dX2_shareOf_48 : decode cX2_shareOf 48 = .ok (.getfield 24, 3) := by decide +kernel
theorem dX2_shareOf_51 : decode cX2_shareOf 51 = .ok (.getfield 59, 3) := by decide +kernel
theorem dX2_shareOf_54 : decode cX2_shareOf 54 = .ok (.iconst 1, 1) := by decide +kernel
theorem dX2_shareOf_55 : decode cX2_shareOf 55 = .ok (.isub, 1) := by decide +kernel
theorem dX2_shareOf_56 : decode cX2_shareOf 56 = .ok (.iload 6, 2) := by decide +kernel
theorem dX2_shareOf_58 : decode cX2_shareOf 58 = .ok (.isub, 1) := by decide +kernel
theorem dX2_shareOf_59 : decode cX2_shareOf 59 = .ok (.invokestatic 129, 3) := by decide +kernel
theorem dX2_shareOf_62 : decode cX2_shareOf 62 = .ok (.imul, 1) := by decide +kernel
theorem dX2_shareOf_63 : decode cX2_shareOf 63 = .ok (.istore 7, 2) := by decide +kernel
theorem dX2_shareOf_65 : decode cX2_shareOf 65 = .ok (.iload_n 3, 1) := by decide +kernel
theorem dX2_shareOf_66 : decode cX2_shareOf 66 = .ok (.iload 7, 2) := by decide +kernel
theorem dX2_shareOf_68 : decode cX2_shareOf 68 = .ok (.aload_n 0, 1) := by decide +kernel
theorem dX2_shareOf_69 : decode cX2_shareOf 69 = .ok (.getfield 15, 3) := by decide +kernel
theorem dX2_shareOf_72 : decode cX2_shareOf 72 = .ok (.iload 5, 2) := by decide +kernel
theorem dX2_shareOf_74 : decode cX2_shareOf 74 = .ok (.iaload, 1) := by decide +kernel
theorem dX2_shareOf_75 : decode cX2_shareOf 75 = .ok (.aload_n 0, 1) := by decide +kernel
theorem dX2_shareOf_76 : decode cX2_shareOf 76 = .ok (.getfield 15, 3) := by decide +kernel
theorem dX2_shareOf_79 : decode cX2_shareOf 79 = .ok (.iload 5, 2) := by decide +kernel
theorem dX2_shareOf_81 : decode cX2_shareOf 81 = .ok (.iconst 1, 1) := by decide +kernel
theorem dX2_shareOf_82 : decode cX2_shareOf 82 = .ok (.iload_n 1, 1) := by decide +kernel
theorem dX2_shareOf_83 : decode cX2_shareOf 83 = .ok (.ishl, 1) := by decide +kernel
theorem dX2_shareOf_84 : decode cX2_shareOf 84 = .ok (.ior, 1) := by decide +kernel
theorem dX2_shareOf_85 : decode cX2_shareOf 85 = .ok (.iaload, 1) := by decide +kernel
theorem dX2_shareOf_86 : decode cX2_shareOf 86 = .ok (.isub, 1) := by decide +kernel
theorem dX2_shareOf_87 : decode cX2_shareOf 87 = .ok (.imul, 1) := by decide +kernel
theorem dX2_shareOf_88 : decode cX2_shareOf 88 = .ok (.iadd, 1) := by decide +kernel
theorem dX2_shareOf_89 : decode cX2_shareOf 89 = .ok (.istore_n 3, 1) := by decide +kernel
theorem dX2_shareOf_90 : decode cX2_shareOf 90 = .ok (.iload 4, 2) := by decide +kernel
theorem dX2_shareOf_92 : decode cX2_shareOf 92 = .ok (.iload 7, 2) := by decide +kernel
theorem dX2_shareOf_94 : decode cX2_shareOf 94 = .ok (.iadd, 1) := by decide +kernel
theorem dX2_shareOf_95 : decode cX2_shareOf 95 = .ok (.istore 4, 2) := by decide +kernel
theorem dX2_shareOf_97 : decode cX2_shareOf 97 = .ok (.iinc 5 1, 3) := by decide +kernel
theorem dX2_shareOf_100 : decode cX2_shareOf 100 = .ok (.goto (-88), 3) := by decide +kernel
theorem dX2_shareOf_103 : decode cX2_shareOf 103 = .ok (.iload_n 3, 1) := by decide +kernel
theorem dX2_shareOf_104 : decode cX2_shareOf 104 = .ok (.iconst 1, 1) := by decide +kernel
theorem dX2_shareOf_105 : decode cX2_shareOf 105 = .ok (.iload 4, 2) := by decide +kernel
theorem dX2_shareOf_107 : decode cX2_shareOf 107 = .ok (.invokestatic 132, 3) := by decide +kernel
theorem dX2_shareOf_110 : decode cX2_shareOf 110 = .ok (.iload_n 2, 1) := by decide +kernel
theorem dX2_shareOf_111 : decode cX2_shareOf 111 = .ok (.invokestatic 135, 3) := by decide +kernel
theorem dX2_shareOf_114 : decode cX2_shareOf 114 = .ok (.ireturn, 1) := by decide +kernel
theorem dX2_fillLostWith_0 : decode cX2_fillLostWith 0 = .ok (.iconst 0, 1) := by decide +kernel
theorem dX2_fillLostWith_1 : decode cX2_fillLostWith 1 = .ok (.istore_n 1, 1) := by decide +kernel
theorem dX2_fillLostWith_2 : decode cX2_fillLostWith 2 = .ok (.iload_n 1, 1) := by decide +kernel
theorem dX2_fillLostWith_3 : decode cX2_fillLostWith 3 = .ok (.iconst 1, 1) := by decide +kernel
theorem dX2_fillLostWith_4 : decode cX2_fillLostWith 4 = .ok (.aload_n 0, 1) := by decide +kernel
theorem dX2_fillLostWith_5 : decode cX2_fillLostWith 5 = .ok (.getfield 24, 3) := by decide +kernel
theorem dX2_fillLostWith_8 : decode cX2_fillLostWith 8 = .ok (.getfield 59, 3) := by decide +kernel
theorem dX2_fillLostWith_11 : decode cX2_fillLostWith 11 = .ok (.ishl, 1) := by decide +kernel
theorem dX2_fillLostWith_12 : decode cX2_fillLostWith 12 = .ok (.if_icmp .ge 91, 3) := by decide +kernel
theorem dX2_fillLostWith_15 : decode cX2_fillLostWith 15 = .ok (.aload_n 0, 1) := by decide +kernel
theorem dX2_fillLostWith_16 : decode cX2_fillLostWith 16 = .ok (.getfield 37, 3) := by decide +kernel
theorem dX2_fillLostWith_19 : decode cX2_fillLostWith 19 = .ok (.aload_n 0, 1) := by decide +kernel
theorem dX2_fillLostWith_20 : decode cX2_fillLostWith 20 = .ok (.getfield 28, 3) := by decide +kernel
theorem dX2_fillLostWith_23 : decode cX2_fillLostWith 23 = .ok (.invokevirtual 40, 3) := by decide +kernel
theorem dX2_fillLostWith_26 : decode cX2_fillLostWith 26 = .ok (.iconst 0, 1) := by decide +kernel
theorem dX2_fillLostWith_27 : decode cX2_fillLostWith 27 = .ok (.istore_n 2, 1) := by decide +kernel
theorem dX2_fillLostWith_28 : decode cX2_fillLostWith 28 = .ok (.iload_n 2, 1) := by decide +kernel
theorem dX2_fillLostWith_29 : decode cX2_fillLostWith 29 = .ok (.aload_n 0, 1) := by decide +kernel
theorem dX2_fillLostWith_30 : decode cX2_fillLostWith 30 = .ok (.getfield 24, 3) := by decide +kernel
theorem dX2_fillLostWith_33 : decode cX2_fillLostWith 33 = .ok (.getfield 59, 3) := by decide +kernel
theorem dX2_fillLostWith_36 : decode cX2_fillLostWith 36 = .ok (.if_icmp .ge 26, 3) := by decide +kernel
theorem dX2_fillLostWith_39 : decode cX2_fillLostWith 39 = .ok (.iload_n 1, 1) := by decide +kernel
theorem dX2_fillLostWith_40 : decode cX2_fillLostWith 40 = .ok (.iload_n 2, 1) := by decide +kernel
theorem dX2_fillLostWith_41 : decode cX2_fillLostWith 41 = .ok (.ishr, 1) := by decide +kernel
theorem dX2_fillLostWith_42 : decode cX2_fillLostWith 42 = .ok (.iconst 1, 1) := by decide +kernel
theorem dX2_fillLostWith_43 : decode cX2_fillLostWith 43 = .ok (.iand, 1) := by decide +kernel
theorem dX2_fillLostWith_44 : decode cX2_fillLostWith 44 = .ok (.ifCond .ne 12, 3) := by decide +kernel
theorem dX2_fillLostWith_47 : decode cX2_fillLostWith 47 = .ok (.aload_n 0, 1) := by decide +kernel
theorem dX2_fillLostWith_48 : decode cX2_fillLostWith 48 = .ok (.getfield 37, 3) := by decide +kernel
theorem dX2_fillLostWith_51 : decode cX2_fillLostWith 51 = .ok (.iload_n 2, 1) := by decide +kernel
theorem dX2_fillLostWith_52 : decode cX2_fillLostWith 52 = .ok (.iconst 3, 1) := by decide +kernel
theorem dX2_fillLostWith_53 : decode cX2_fillLostWith 53 = .ok (.invokevirtual 71, 3) := by decide +kernel
theorem dX2_fillLostWith_56 : decode cX2_fillLostWith 56 = .ok (.iinc 2 1, 3) := by decide +kernel
theorem dX2_fillLostWith_59 : decode cX2_fillLostWith 59 = .ok (.goto (-31), 3) := by decide +kernel
theorem dX2_fillLostWith_62 : decode cX2_fillLostWith 62 = .ok (.iconst 0, 1) := by decide +kernel
theorem dX2_fillLostWith_63 : decode cX2_fillLostWith 63 = .ok (.istore_n 2, 1) := by decide +kernel
theorem dX2_fillLostWith_64 : decode cX2_fillLostWith 64 = .ok (.iload_n 2, 1) := by decide +kernel
theorem dX2_fillLostWith_65 : decode cX2_fillLostWith 65 = .ok (.bipush 9, 2) := by decide +kernel
theorem dX2_fillLostWith_67 : decode cX2_fillLostWith 67 = .ok (.if_icmp .ge 17, 3) := by decide +kernel
theorem dX2_fillLostWith_70 : decode cX2_fillLostWith 70 = .ok (.aload_n 0, 1) := by decide +kernel
theorem dX2_fillLostWith_71 : decode cX2_fillLostWith 71 = .ok (.getfield 37, 3) := by decide +kernel
theorem dX2_fillLostWith_74 : decode cX2_fillLostWith 74 = .ok (.invokevirtual 44, 3) := by decide +kernel
theorem dX2_fillLostWith_77 : decode cX2_fillLostWith 77 = .ok (.pop, 1) := by decide +kernel
theorem dX2_fillLostWith_78 : decode cX2_fillLostWith 78 = .ok (.iinc 2 1, 3) := by decide +kernel
theorem dX2_fillLostWith_81 : decode cX2_fillLostWith 81 = .ok (.goto (-17), 3) := by decide +kernel
theorem dX2_fillLostWith_84 : decode cX2_fillLostWith 84 = .ok (.aload_n 0, 1) := by decide +kernel
theorem dX2_fillLostWith_85 : decode cX2_fillLostWith 85 = .ok (.getfield 15, 3) := by decide +kernel
theorem dX2_fillLostWith_88 : decode cX2_fillLostWith 88 = .ok (.iload_n 1, 1) := by decide +kernel
theorem dX2_fillLostWith_89 : decode cX2_fillLostWith 89 = .ok (.aload_n 0, 1) := by decide +kernel
theorem dX2_fillLostWith_90 : decode cX2_fillLostWith 90 = .ok (.getfield 37, 3) := by decide +kernel
theorem dX2_fillLostWith_93 : decode cX2_fillLostWith 93 = .ok (.invokevirtual 68, 3) := by decide +kernel
theorem dX2_fillLostWith_96 : decode cX2_fillLostWith 96 = .ok (.iastore, 1) := by decide +kernel
theorem dX2_fillLostWith_97 : decode cX2_fillLostWith 97 = .ok (.iinc 1 1, 3) := by decide +kernel
theorem dX2_fillLostWith_100 : decode cX2_fillLostWith 100 = .ok (.goto (-98), 3) := by decide +kernel
theorem dX2_fillLostWith_103 : decode cX2_fillLostWith 103 = .ok (.return_, 1) := by decide +kernel
theorem dX2_factorial_0 : decode cX2_factorial 0 = .ok (.iconst 1, 1) := by decide +kernel
theorem dX2_factorial_1 : decode cX2_factorial 1 = .ok (.istore_n 1, 1) := by decide +kernel
theorem dX2_factorial_2 : decode cX2_factorial 2 = .ok (.iconst 2, 1) := by decide +kernel
theorem dX2_factorial_3 : decode cX2_factorial 3 = .ok (.istore_n 2, 1) := by decide +kernel
theorem dX2_factorial_4 : decode cX2_factorial 4 = .ok (.iload_n 2, 1) := by decide +kernel
theorem dX2_factorial_5 : decode cX2_factorial 5 = .ok (.iload_n 0, 1) := by decide +kernel
theorem dX2_factorial_6 : decode cX2_factorial 6 = .ok (.if_icmp .gt 13, 3) := by decide +kernel
theorem dX2_factorial_9 : decode cX2_factorial 9 = .ok (.iload_n 1, 1) := by decide +kernel
theorem dX2_factorial_10 : decode cX2_factorial 10 = .ok (.iload_n 2, 1) := by decide +kernel
theorem dX2_factorial_11 : decode cX2_factorial 11 = .ok (.imul, 1) := by decide +kernel
theorem dX2_factorial_12 : decode cX2_factorial 12 = .ok (.istore_n 1, 1) := by decide +kernel
theorem dX2_factorial_13 : decode cX2_factorial 13 = .ok (.iinc 2 1, 3) := by decide +kernel
theorem dX2_factorial_16 : decode cX2_factorial 16 = .ok (.goto (-12), 3) := by decide +kernel
theorem dX2_factorial_19 : decode cX2_factorial 19 = .ok (.iload_n 1, 1) := by decide +kernel
theorem dX2_factorial_20 : decode cX2_factorial 20 = .ok (.ireturn, 1) := by decide +kernel
theorem dX2_restsOf_0 : decode cX2_restsOf 0 = .ok (.aload_n 0, 1) := by decide +kernel
theorem dX2_restsOf_1 : decode cX2_restsOf 1 = .ok (.iload_n 1, 1) := by decide +kernel
theorem dX2_restsOf_2 : decode cX2_restsOf 2 = .ok (.iload_n 2, 1) := by decide +kernel
theorem dX2_restsOf_3 : decode cX2_restsOf 3 = .ok (.invokevirtual 139, 3) := by decide +kernel
theorem dX2_restsOf_6 : decode cX2_restsOf 6 = .ok (.iconst 0, 1) := by decide +kernel
theorem dX2_restsOf_7 : decode cX2_restsOf 7 = .ok (.istore 4, 2) := by decide +kernel
theorem dX2_restsOf_9 : decode cX2_restsOf 9 = .ok (.bipush (-9), 2) := by decide +kernel
theorem dX2_restsOf_11 : decode cX2_restsOf 11 = .ok (.istore 5, 2) := by decide +kernel
theorem dX2_restsOf_13 : decode cX2_restsOf 13 = .ok (.iconst 0, 1) := by decide +kernel
theorem dX2_restsOf_14 : decode cX2_restsOf 14 = .ok (.istore 6, 2) := by decide +kernel
theorem dX2_restsOf_16 : decode cX2_restsOf 16 = .ok (.iload 6, 2) := by decide +kernel
theorem dX2_restsOf_18 : decode cX2_restsOf 18 = .ok (.iconst 3, 1) := by decide +kernel
theorem dX2_restsOf_19 : decode cX2_restsOf 19 = .ok (.if_icmp .ge 53, 3) := by decide +kernel
theorem dX2_restsOf_22 : decode cX2_restsOf 22 = .ok (.iconst 0, 1) := by decide +kernel
theorem dX2_restsOf_23 : decode cX2_restsOf 23 = .ok (.istore 7, 2) := by decide +kernel
theorem dX2_restsOf_25 : decode cX2_restsOf 25 = .ok (.iload 7, 2) := by decide +kernel
theorem dX2_restsOf_27 : decode cX2_restsOf 27 = .ok (.iconst 3, 1) := by decide +kernel
theorem dX2_restsOf_28 : decode cX2_restsOf 28 = .ok (.if_icmp .ge 38, 3) := by decide +kernel
theorem dX2_restsOf_31 : decode cX2_restsOf 31 = .ok (.aload_n 0, 1) := by decide +kernel
theorem dX2_restsOf_32 : decode cX2_restsOf 32 = .ok (.iload 6, 2) := by decide +kernel
theorem dX2_restsOf_34 : decode cX2_restsOf 34 = .ok (.iload 7, 2) := by decide +kernel
theorem dX2_restsOf_36 : decode cX2_restsOf 36 = .ok (.invokevirtual 142, 3) := by decide +kernel
theorem dX2_restsOf_39 : decode cX2_restsOf 39 = .ok (.ifCond .eq 21, 3) := by decide +kernel
theorem dX2_restsOf_42 : decode cX2_restsOf 42 = .ok (.iload 4, 2) := by decide +kernel
theorem dX2_restsOf_44 : decode cX2_restsOf 44 = .ok (.ifCond .ne 13, 3) := by decide +kernel
theorem dX2_restsOf_47 : decode cX2_restsOf 47 = .ok (.bipush 10, 2) := by decide +kernel
theorem dX2_restsOf_49 : decode cX2_restsOf 49 = .ok (.iload 6, 2) := by decide +kernel
theorem dX2_restsOf_51 : decode cX2_restsOf 51 = .ok (.imul, 1) := by decide +kernel
theorem dX2_restsOf_52 : decode cX2_restsOf 52 = .ok (.iload 7, 2) := by decide +kernel
theorem dX2_restsOf_54 : decode cX2_restsOf 54 = .ok (.iadd, 1) := by decide +kernel
theorem dX2_restsOf_55 : decode cX2_restsOf 55 = .ok (.istore 5, 2) := by decide +kernel
theorem dX2_restsOf_57 : decode cX2_restsOf 57 = .ok (.iinc 4 1, 3) := by decide +kernel
theorem dX2_restsOf_60 : decode cX2_restsOf 60 = .ok (.iinc 7 1, 3) := by decide +kernel
theorem dX2_restsOf_63 : decode cX2_restsOf 63 = .ok (.goto (-38), 3) := by decide +kernel
theorem dX2_restsOf_66 : decode cX2_restsOf 66 = .ok (.iinc 6 1, 3) := by decide +kernel
theorem dX2_restsOf_69 : decode cX2_restsOf 69 = .ok (.goto (-53), 3) := by decide +kernel
theorem dX2_restsOf_72 : decode cX2_restsOf 72 = .ok (.iload_n 3, 1) := by decide +kernel
theorem dX2_restsOf_73 : decode cX2_restsOf 73 = .ok (.ifCond .eq 8, 3) := by decide +kernel
theorem dX2_restsOf_76 : decode cX2_restsOf 76 = .ok (.iload 5, 2) := by decide +kernel
theorem dX2_restsOf_78 : decode cX2_restsOf 78 = .ok (.goto 5, 3) := by decide +kernel
theorem dX2_restsOf_81 : decode cX2_restsOf 81 = .ok (.iload 4, 2) := by decide +kernel
theorem dX2_restsOf_83 : decode cX2_restsOf 83 = .ok (.ireturn, 1) := by decide +kernel
theorem dX2_fillGains_0 : decode cX2_fillGains 0 = .ok (.iconst 0, 1) := by decide +kernel
theorem dX2_fillGains_1 : decode cX2_fillGains 1 = .ok (.istore_n 3, 1) := by decide +kernel
theorem dX2_fillGains_2 : decode cX2_fillGains 2 = .ok (.iload_n 3, 1) := by decide +kernel
theorem dX2_fillGains_3 : decode cX2_fillGains 3 = .ok (.iconst 3, 1) := by decide +kernel
theorem dX2_fillGains_4 : decode cX2_fillGains 4 = .ok (.if_icmp .ge 154, 3) := by decide +kernel
theorem dX2_fillGains_7 : decode cX2_fillGains 7 = .ok (.iconst 0, 1) := by decide +kernel
theorem dX2_fillGains_8 : decode cX2_fillGains 8 = .ok (.istore 4, 2) := by decide +kernel
theorem dX2_fillGains_10 : decode cX2_fillGains 10 = .ok (.iload 4, 2) := by decide +kernel
theorem dX2_fillGains_12 : decode cX2_fillGains 12 = .ok (.iconst 3, 1) := by decide +kernel
theorem dX2_fillGains_13 : decode cX2_fillGains 13 = .ok (.if_icmp .ge 139, 3) := by decide +kernel
theorem dX2_fillGains_16 : decode cX2_fillGains 16 = .ok (.aload_n 0, 1) := by decide +kernel
theorem dX2_fillGains_17 : decode cX2_fillGains 17 = .ok (.getfield 37, 3) := by decide +kernel
theorem dX2_fillGains_20 : decode cX2_fillGains 20 = .ok (.aload_n 0, 1) := by decide +kernel
theorem dX2_fillGains_21 : decode cX2_fillGains 21 = .ok (.getfield 28, 3) := by decide +kernel
theorem dX2_fillGains_24 : decode cX2_fillGains 24 = .ok (.invokevirtual 40, 3) := by decide +kernel
theorem dX2_fillGains_27 : decode cX2_fillGains 27 = .ok (.aload_n 0, 1) := by decide +kernel
theorem dX2_fillGains_28 : decode cX2_fillGains 28 = .ok (.getfield 37, 3) := by decide +kernel
theorem dX2_fillGains_31 : decode cX2_fillGains 31 = .ok (.iload_n 1, 1) := by decide +kernel
theorem dX2_fillGains_32 : decode cX2_fillGains 32 = .ok (.iload_n 3, 1) := by decide +kernel
theorem dX2_fillGains_33 : decode cX2_fillGains 33 = .ok (.invokevirtual 71, 3) := by decide +kernel
theorem dX2_fillGains_36 : decode cX2_fillGains 36 = .ok (.aload_n 0, 1) := by decide +kernel
theorem dX2_fillGains_37 : decode cX2_fillGains 37 = .ok (.getfield 37, 3) := by decide +kernel
theorem dX2_fillGains_40 : decode cX2_fillGains 40 = .ok (.iload_n 2, 1) := by decide +kernel
theorem dX2_fillGains_41 : decode cX2_fillGains 41 = .ok (.iload 4, 2) := by decide +kernel
theorem dX2_fillGains_43 : decode cX2_fillGains 43 = .ok (.invokevirtual 71, 3) := by decide +kernel
theorem dX2_fillGains_46 : decode cX2_fillGains 46 = .ok (.iconst 0, 1) := by decide +kernel
theorem dX2_fillGains_47 : decode cX2_fillGains 47 = .ok (.istore 5, 2) := by decide +kernel
theorem dX2_fillGains_49 : decode cX2_fillGains 49 = .ok (.iload 5, 2) := by decide +kernel
theorem dX2_fillGains_51 : decode cX2_fillGains 51 = .ok (.iconst 3, 1) := by decide +kernel
theorem dX2_fillGains_52 : decode cX2_fillGains 52 = .ok (.if_icmp .ge 17, 3) := by decide +kernel
theorem dX2_fillGains_55 : decode cX2_fillGains 55 = .ok (.aload_n 0, 1) := by decide +kernel
theorem dX2_fillGains_56 : decode cX2_fillGains 56 = .ok (.getfield 37, 3) := by decide +kernel
theorem dX2_fillGains_59 : decode cX2_fillGains 59 = .ok (.invokevirtual 44, 3) := by decide +kernel
theorem dX2_fillGains_62 : decode cX2_fillGains 62 = .ok (.pop, 1) := by decide +kernel
theorem dX2_fillGains_63 : decode cX2_fillGains 63 = .ok (.iinc 5 1, 3) := by decide +kernel
theorem dX2_fillGains_66 : decode cX2_fillGains 66 = .ok (.goto (-17), 3) := by decide +kernel
theorem dX2_fillGains_69 : decode cX2_fillGains 69 = .ok (.iconst 3, 1) := by decide +kernel
theorem dX2_fillGains_70 : decode cX2_fillGains 70 = .ok (.iload_n 3, 1) := by decide +kernel
theorem dX2_fillGains_71 : decode cX2_fillGains 71 = .ok (.imul, 1) := by decide +kernel
theorem dX2_fillGains_72 : decode cX2_fillGains 72 = .ok (.iload 4, 2) := by decide +kernel
theorem dX2_fillGains_74 : decode cX2_fillGains 74 = .ok (.iadd, 1) := by decide +kernel
theorem dX2_fillGains_75 : decode cX2_fillGains 75 = .ok (.istore 5, 2) := by decide +kernel
theorem dX2_fillGains_77 : decode cX2_fillGains 77 = .ok (.aload_n 0, 1) := by decide +kernel
theorem dX2_fillGains_78 : decode cX2_fillGains 78 = .ok (.getfield 18, 3) := by decide +kernel
theorem dX2_fillGains_81 : decode cX2_fillGains 81 = .ok (.iload 5, 2) := by decide +kernel
theorem dX2_fillGains_83 : decode cX2_fillGains 83 = .ok (.aload_n 0, 1) := by decide +kernel
theorem dX2_fillGains_84 : decode cX2_fillGains 84 = .ok (.getfield 37, 3) := by decide +kernel
theorem dX2_fillGains_87 : decode cX2_fillGains 87 = .ok (.getfield 145, 3) := by decide +kernel
theorem dX2_fillGains_90 : decode cX2_fillGains 90 = .ok (.iload_n 1, 1) := by decide +kernel
theorem dX2_fillGains_91 : decode cX2_fillGains 91 = .ok (.iaload, 1) := by decide +kernel
theorem dX2_fillGains_92 : decode cX2_fillGains 92 = .ok (.iload_n 3, 1) := by decide +kernel
theorem dX2_fillGains_93 : decode cX2_fillGains 93 = .ok (.aload_n 0, 1) := by decide +kernel
theorem dX2_fillGains_94 : decode cX2_fillGains 94 = .ok (.getfield 28, 3) := by decide +kernel
theorem dX2_fillGains_97 : decode cX2_fillGains 97 = .ok (.iload_n 1, 1) := by decide +kernel
theorem dX2_fillGains_98 : decode cX2_fillGains 98 = .ok (.invokevirtual 148, 3) := by decide +kernel
theorem dX2_fillGains_101 : decode cX2_fillGains 101 = .ok (.if_icmp .ne 7, 3) := by decide +kernel
theorem dX2_fillGains_104 : decode cX2_fillGains 104 = .ok (.iconst 0, 1) := by decide +kernel
theorem dX2_fillGains_105 : decode cX2_fillGains 105 = .ok (.goto 4, 3) := by decide +kernel
theorem dX2_fillGains_108 : decode cX2_fillGains 108 = .ok (.iconst 1, 1) := by decide +kernel
theorem dX2_fillGains_109 : decode cX2_fillGains 109 = .ok (.isub, 1) := by decide +kernel
theorem dX2_fillGains_110 : decode cX2_fillGains 110 = .ok (.iastore, 1) := by decide +kernel
theorem dX2_fillGains_111 : decode cX2_fillGains 111 = .ok (.aload_n 0, 1) := by decide +kernel
theorem dX2_fillGains_112 : decode cX2_fillGains 112 = .ok (.getfield 21, 3) := by decide +kernel
theorem dX2_fillGains_115 : decode cX2_fillGains 115 = .ok (.iload 5, 2) := by decide +kernel
theorem dX2_fillGains_117 : decode cX2_fillGains 117 = .ok (.aload_n 0, 1) := by decide +kernel
theorem dX2_fillGains_118 : decode cX2_fillGains 118 = .ok (.getfield 37, 3) := by decide +kernel
theorem dX2_fillGains_121 : decode cX2_fillGains 121 = .ok (.getfield 145, 3) := by decide +kernel
theorem dX2_fillGains_124 : decode cX2_fillGains 124 = .ok (.iload_n 2, 1) := by decide +kernel
theorem dX2_fillGains_125 : decode cX2_fillGains 125 = .ok (.iaload, 1) := by decide +kernel
theorem dX2_fillGains_126 : decode cX2_fillGains 126 = .ok (.iload 4, 2) := by decide +kernel
theorem dX2_fillGains_128 : decode cX2_fillGains 128 = .ok (.aload_n 0, 1) := by decide +kernel
theorem dX2_fillGains_129 : decode cX2_fillGains 129 = .ok (.getfield 28, 3) := by decide +kernel
theorem dX2_fillGains_132 : decode cX2_fillGains 132 = .ok (.iload_n 2, 1) := by decide +kernel
theorem dX2_fillGains_133 : decode cX2_fillGains 133 = .ok (.invokevirtual 148, 3) := by decide +kernel
theorem dX2_fillGains_136 : decode cX2_fillGains 136 = .ok (.if_icmp .ne 7, 3) := by decide +kernel
theorem dX2_fillGains_139 : decode cX2_fillGains 139 = .ok (.iconst 0, 1) := by decide +kernel
theorem dX2_fillGains_140 : decode cX2_fillGains 140 = .ok (.goto 4, 3) := by decide +kernel
theorem dX2_fillGains_143 : decode cX2_fillGains 143 = .ok (.iconst 1, 1) := by decide +kernel
theorem dX2_fillGains_144 : decode cX2_fillGains 144 = .ok (.isub, 1) := by decide +kernel
theorem dX2_fillGains_145 : decode cX2_fillGains 145 = .ok (.iastore, 1) := by decide +kernel
theorem dX2_fillGains_146 : decode cX2_fillGains 146 = .ok (.iinc 4 1, 3) := by decide +kernel
theorem dX2_fillGains_149 : decode cX2_fillGains 149 = .ok (.goto (-139), 3) := by decide +kernel
theorem dX2_fillGains_152 : decode cX2_fillGains 152 = .ok (.iinc 3 1, 3) := by decide +kernel
theorem dX2_fillGains_155 : decode cX2_fillGains 155 = .ok (.goto (-153), 3) := by decide +kernel
theorem dX2_fillGains_158 : decode cX2_fillGains 158 = .ok (.return_, 1) := by decide +kernel
theorem dX2_isRest_0 : decode cX2_isRest 0 = .ok (.iconst 3, 1) := by decide +kernel
theorem dX2_isRest_1 : decode cX2_isRest 1 = .ok (.iload_n 1, 1) := by decide +kernel
theorem dX2_isRest_2 : decode cX2_isRest 2 = .ok (.imul, 1) := by decide +kernel
theorem dX2_isRest_3 : decode cX2_isRest 3 = .ok (.iload_n 2, 1) := by decide +kernel
theorem dX2_isRest_4 : decode cX2_isRest 4 = .ok (.iadd, 1) := by decide +kernel
theorem dX2_isRest_5 : decode cX2_isRest 5 = .ok (.istore_n 3, 1) := by decide +kernel
theorem dX2_isRest_6 : decode cX2_isRest 6 = .ok (.iconst 0, 1) := by decide +kernel
theorem dX2_isRest_7 : decode cX2_isRest 7 = .ok (.istore 4, 2) := by decide +kernel
theorem dX2_isRest_9 : decode cX2_isRest 9 = .ok (.iload 4, 2) := by decide +kernel
theorem dX2_isRest_11 : decode cX2_isRest 11 = .ok (.iconst 3, 1) := by decide +kernel
theorem dX2_isRest_12 : decode cX2_isRest 12 = .ok (.if_icmp .ge 51, 3) := by decide +kernel
theorem dX2_isRest_15 : decode cX2_isRest 15 = .ok (.aload_n 0, 1) := by decide +kernel
theorem dX2_isRest_16 : decode cX2_isRest 16 = .ok (.getfield 18, 3) := by decide +kernel
theorem dX2_isRest_19 : decode cX2_isRest 19 = .ok (.iconst 3, 1) := by decide +kernel
theorem dX2_isRest_20 : decode cX2_isRest 20 = .ok (.iload 4, 2) := by decide +kernel
theorem dX2_isRest_22 : decode cX2_isRest 22 = .ok (.imul, 1) := by decide +kernel
theorem dX2_isRest_23 : decode cX2_isRest 23 = .ok (.iload_n 2, 1) := by decide +kernel
theorem dX2_isRest_24 : decode cX2_isRest 24 = .ok (.iadd, 1) := by decide +kernel
theorem dX2_isRest_25 : decode cX2_isRest 25 = .ok (.iaload, 1) := by decide +kernel
theorem dX2_isRest_26 : decode cX2_isRest 26 = .ok (.aload_n 0, 1) := by decide +kernel
theorem dX2_isRest_27 : decode cX2_isRest 27 = .ok (.getfield 18, 3) := by decide +kernel
theorem dX2_isRest_30 : decode cX2_isRest 30 = .ok (.iload_n 3, 1) := by decide +kernel
theorem dX2_isRest_31 : decode cX2_isRest 31 = .ok (.iaload, 1) := by decide +kernel
theorem dX2_isRest_32 : decode cX2_isRest 32 = .ok (.if_icmp .gt 23, 3) := by decide +kernel
theorem dX2_isRest_35 : decode cX2_isRest 35 = .ok (.aload_n 0, 1) := by decide +kernel
theorem dX2_isRest_36 : decode cX2_isRest 36 = .ok (.getfield 21, 3) := by decide +kernel
theorem dX2_isRest_39 : decode cX2_isRest 39 = .ok (.iconst 3, 1) := by decide +kernel
theorem dX2_isRest_40 : decode cX2_isRest 40 = .ok (.iload_n 1, 1) := by decide +kernel
theorem dX2_isRest_41 : decode cX2_isRest 41 = .ok (.imul, 1) := by decide +kernel
theorem dX2_isRest_42 : decode cX2_isRest 42 = .ok (.iload 4, 2) := by decide +kernel
theorem dX2_isRest_44 : decode cX2_isRest 44 = .ok (.iadd, 1) := by decide +kernel
theorem dX2_isRest_45 : decode cX2_isRest 45 = .ok (.iaload, 1) := by decide +kernel
theorem dX2_isRest_46 : decode cX2_isRest 46 = .ok (.aload_n 0, 1) := by decide +kernel
theorem dX2_isRest_47 : decode cX2_isRest 47 = .ok (.getfield 21, 3) := by decide +kernel
theorem dX2_isRest_50 : decode cX2_isRest 50 = .ok (.iload_n 3, 1) := by decide +kernel
theorem dX2_isRest_51 : decode cX2_isRest 51 = .ok (.iaload, 1) := by decide +kernel
theorem dX2_isRest_52 : decode cX2_isRest 52 = .ok (.if_icmp .le 5, 3) := by decide +kernel
theorem dX2_isRest_55 : decode cX2_isRest 55 = .ok (.iconst 0, 1) := by decide +kernel
theorem dX2_isRest_56 : decode cX2_isRest 56 = .ok (.ireturn, 1) := by decide +kernel
theorem dX2_isRest_57 : decode cX2_isRest 57 = .ok (.iinc 4 1, 3) := by decide +kernel
theorem dX2_isRest_60 : decode cX2_isRest 60 = .ok (.goto (-51), 3) := by decide +kernel
theorem dX2_isRest_63 : decode cX2_isRest 63 = .ok (.iconst 1, 1) := by decide +kernel
theorem dX2_isRest_64 : decode cX2_isRest 64 = .ok (.ireturn, 1) := by decide +kernel
theorem dX2_birdsOfYears_0 : decode cX2_birdsOfYears 0 = .ok (.aload_n 0, 1) := by decide +kernel
theorem dX2_birdsOfYears_1 : decode cX2_birdsOfYears 1 = .ok (.getfield 37, 3) := by decide +kernel
theorem dX2_birdsOfYears_4 : decode cX2_birdsOfYears 4 = .ok (.aload_n 0, 1) := by decide +kernel
theorem dX2_birdsOfYears_5 : decode cX2_birdsOfYears 5 = .ok (.getfield 28, 3) := by decide +kernel
theorem dX2_birdsOfYears_8 : decode cX2_birdsOfYears 8 = .ok (.invokevirtual 40, 3) := by decide +kernel
theorem dX2_birdsOfYears_11 : decode cX2_birdsOfYears 11 = .ok (.iconst 0, 1) := by decide +kernel
theorem dX2_birdsOfYears_12 : decode cX2_birdsOfYears 12 = .ok (.istore 4, 2) := by decide +kernel
theorem dX2_birdsOfYears_14 : decode cX2_birdsOfYears 14 = .ok (.lload_n 2, 1) := by decide +kernel
theorem dX2_birdsOfYears_15 : decode cX2_birdsOfYears 15 = .ok (.lstore 5, 2) := by decide +kernel
theorem dX2_birdsOfYears_17 : decode cX2_birdsOfYears 17 = .ok (.iconst 0, 1) := by decide +kernel
theorem dX2_birdsOfYears_18 : decode cX2_birdsOfYears 18 = .ok (.istore 7, 2) := by decide +kernel
theorem dX2_birdsOfYears_20 : decode cX2_birdsOfYears 20 = .ok (.iload 7, 2) := by decide +kernel
theorem dX2_birdsOfYears_22 : decode cX2_birdsOfYears 22 = .ok (.iload_n 1, 1) := by decide +kernel
theorem dX2_birdsOfYears_23 : decode cX2_birdsOfYears 23 = .ok (.if_icmp .ge 51, 3) := by decide +kernel
theorem dX2_birdsOfYears_26 : decode cX2_birdsOfYears 26 = .ok (.lload 5, 2) := by decide +kernel
theorem dX2_birdsOfYears_28 : decode cX2_birdsOfYears 28 = .ok (.ldc2_w 151, 3) := by decide +kernel
theorem dX2_birdsOfYears_31 : decode cX2_birdsOfYears 31 = .ok (.lmul, 1) := by decide +kernel
theorem dX2_birdsOfYears_32 : decode cX2_birdsOfYears 32 = .ok (.ldc2_w 153, 3) := by decide +kernel
theorem dX2_birdsOfYears_35 : decode cX2_birdsOfYears 35 = .ok (.ladd, 1) := by decide +kernel
theorem dX2_birdsOfYears_36 : decode cX2_birdsOfYears 36 = .ok (.lstore 5, 2) := by decide +kernel
theorem dX2_birdsOfYears_38 : decode cX2_birdsOfYears 38 = .ok (.aload_n 0, 1) := by decide +kernel
theorem dX2_birdsOfYears_39 : decode cX2_birdsOfYears 39 = .ok (.lload 5, 2) := by decide +kernel
theorem dX2_birdsOfYears_41 : decode cX2_birdsOfYears 41 = .ok (.bipush 33, 2) := by decide +kernel
theorem dX2_birdsOfYears_43 : decode cX2_birdsOfYears 43 = .ok (.lushr, 1) := by decide +kernel
theorem dX2_birdsOfYears_44 : decode cX2_birdsOfYears 44 = .ok (.ldc2_w 155, 3) := by decide +kernel
theorem dX2_birdsOfYears_47 : decode cX2_birdsOfYears 47 = .ok (.lrem, 1) := by decide +kernel
theorem dX2_birdsOfYears_48 : decode cX2_birdsOfYears 48 = .ok (.l2i, 1) := by decide +kernel
theorem dX2_birdsOfYears_49 : decode cX2_birdsOfYears 49 = .ok (.invokevirtual 157, 3) := by decide +kernel
theorem dX2_birdsOfYears_52 : decode cX2_birdsOfYears 52 = .ok (.iload 4, 2) := by decide +kernel
theorem dX2_birdsOfYears_54 : decode cX2_birdsOfYears 54 = .ok (.aload_n 0, 1) := by decide +kernel
theorem dX2_birdsOfYears_55 : decode cX2_birdsOfYears 55 = .ok (.getfield 37, 3) := by decide +kernel
theorem dX2_birdsOfYears_58 : decode cX2_birdsOfYears 58 = .ok (.iconst 2, 1) := by decide +kernel
theorem dX2_birdsOfYears_59 : decode cX2_birdsOfYears 59 = .ok (.invokevirtual 48, 3) := by decide +kernel
theorem dX2_birdsOfYears_62 : decode cX2_birdsOfYears 62 = .ok (.invokestatic 85, 3) := by decide +kernel
theorem dX2_birdsOfYears_65 : decode cX2_birdsOfYears 65 = .ok (.iadd, 1) := by decide +kernel
theorem dX2_birdsOfYears_66 : decode cX2_birdsOfYears 66 = .ok (.istore 4, 2) := by decide +kernel
theorem dX2_birdsOfYears_68 : decode cX2_birdsOfYears 68 = .ok (.iinc 7 1, 3) := by decide +kernel
theorem dX2_birdsOfYears_71 : decode cX2_birdsOfYears 71 = .ok (.goto (-51), 3) := by decide +kernel
theorem dX2_birdsOfYears_74 : decode cX2_birdsOfYears 74 = .ok (.aload_n 0, 1) := by decide +kernel
theorem dX2_birdsOfYears_75 : decode cX2_birdsOfYears 75 = .ok (.lload 5, 2) := by decide +kernel
theorem dX2_birdsOfYears_77 : decode cX2_birdsOfYears 77 = .ok (.putfield 160, 3) := by decide +kernel
theorem dX2_birdsOfYears_80 : decode cX2_birdsOfYears 80 = .ok (.iload 4, 2) := by decide +kernel
theorem dX2_birdsOfYears_82 : decode cX2_birdsOfYears 82 = .ok (.ireturn, 1) := by decide +kernel
theorem dX2_happen_0 : decode cX2_happen 0 = .ok (.iload_n 1, 1) := by decide +kernel
theorem dX2_happen_1 : decode cX2_happen 1 = .ok (.bipush 12, 2) := by decide +kernel
theorem dX2_happen_3 : decode cX2_happen 3 = .ok (.if_icmp .ge 13, 3) := by decide +kernel
theorem dX2_happen_6 : decode cX2_happen 6 = .ok (.aload_n 0, 1) := by decide +kernel
theorem dX2_happen_7 : decode cX2_happen 7 = .ok (.iconst 0, 1) := by decide +kernel
theorem dX2_happen_8 : decode cX2_happen 8 = .ok (.iload_n 1, 1) := by decide +kernel
theorem dX2_happen_9 : decode cX2_happen 9 = .ok (.invokevirtual 111, 3) := by decide +kernel
theorem dX2_happen_12 : decode cX2_happen 12 = .ok (.pop, 1) := by decide +kernel
theorem dX2_happen_13 : decode cX2_happen 13 = .ok (.goto 47, 3) := by decide +kernel
theorem dX2_happen_16 : decode cX2_happen 16 = .ok (.iload_n 1, 1) := by decide +kernel
theorem dX2_happen_17 : decode cX2_happen 17 = .ok (.bipush 15, 2) := by decide +kernel
theorem dX2_happen_19 : decode cX2_happen 19 = .ok (.if_icmp .ge 16, 3) := by decide +kernel
theorem dX2_happen_22 : decode cX2_happen 22 = .ok (.aload_n 0, 1) := by decide +kernel
theorem dX2_happen_23 : decode cX2_happen 23 = .ok (.iconst 0, 1) := by decide +kernel
theorem dX2_happen_24 : decode cX2_happen 24 = .ok (.iload_n 1, 1) := by decide +kernel
theorem dX2_happen_25 : decode cX2_happen 25 = .ok (.bipush 12, 2) := by decide +kernel
theorem dX2_happen_27 : decode cX2_happen 27 = .ok (.isub, 1) := by decide +kernel
theorem dX2_happen_28 : decode cX2_happen 28 = .ok (.invokevirtual 117, 3) := by decide +kernel
theorem dX2_happen_31 : decode cX2_happen 31 = .ok (.pop, 1) := by decide +kernel
theorem dX2_happen_32 : decode cX2_happen 32 = .ok (.goto 28, 3) := by decide +kernel
theorem dX2_happen_35 : decode cX2_happen 35 = .ok (.iload_n 1, 1) := by decide +kernel
theorem dX2_happen_36 : decode cX2_happen 36 = .ok (.bipush 15, 2) := by decide +kernel
theorem dX2_happen_38 : decode cX2_happen 38 = .ok (.if_icmp .ne 14, 3) := by decide +kernel
theorem dX2_happen_41 : decode cX2_happen 41 = .ok (.aload_n 0, 1) := by decide +kernel
theorem dX2_happen_42 : decode cX2_happen 42 = .ok (.getfield 37, 3) := by decide +kernel
theorem dX2_happen_45 : decode cX2_happen 45 = .ok (.iconst 1, 1) := by decide +kernel
theorem dX2_happen_46 : decode cX2_happen 46 = .ok (.invokevirtual 114, 3) := by decide +kernel
theorem dX2_happen_49 : decode cX2_happen 49 = .ok (.goto 11, 3) := by decide +kernel
theorem dX2_happen_52 : decode cX2_happen 52 = .ok (.aload_n 0, 1) := by decide +kernel
theorem dX2_happen_53 : decode cX2_happen 53 = .ok (.getfield 37, 3) := by decide +kernel
theorem dX2_happen_56 : decode cX2_happen 56 = .ok (.invokevirtual 44, 3) := by decide +kernel
theorem dX2_happen_59 : decode cX2_happen 59 = .ok (.pop, 1) := by decide +kernel
theorem dX2_happen_60 : decode cX2_happen 60 = .ok (.return_, 1) := by decide +kernel
theorem dX3_init_0 : decode cX3_init 0 = .ok (.aload_n 0, 1) := by decide +kernel
theorem dX3_init_1 : decode cX3_init 1 = .ok (.invokespecial 3, 3) := by decide +kernel
theorem dX3_init_4 : decode cX3_init 4 = .ok (.aload_n 0, 1) := by decide +kernel
theorem dX3_init_5 : decode cX3_init 5 = .ok (.new 9, 3) := by decide +kernel
theorem dX3_init_8 : decode cX3_init 8 = .ok (.dup, 1) := by decide +kernel
theorem dX3_init_9 : decode cX3_init 9 = .ok (.bipush 14, 2) := by decide +kernel
theorem dX3_init_11 : decode cX3_init 11 = .ok (.invokespecial 11, 3) := by decide +kernel
theorem dX3_init_14 : decode cX3_init 14 = .ok (.putfield 14, 3) := by decide +kernel
theorem dX3_init_17 : decode cX3_init 17 = .ok (.return_, 1) := by decide +kernel
theorem dX3_clear_0 : decode cX3_clear 0 = .ok (.aload_n 0, 1) := by decide +kernel
theorem dX3_clear_1 : decode cX3_clear 1 = .ok (.iconst 0, 1) := by decide +kernel
theorem dX3_clear_2 : decode cX3_clear 2 = .ok (.putfield 20, 3) := by decide +kernel
theorem dX3_clear_5 : decode cX3_clear 5 = .ok (.aload_n 0, 1) := by decide +kernel
theorem dX3_clear_6 : decode cX3_clear 6 = .ok (.iconst 0, 1) := by decide +kernel
theorem dX3_clear_7 : decode cX3_clear 7 = .ok (.putfield 24, 3) := by decide +kernel
theorem dX3_clear_10 : decode cX3_clear 10 = .ok (.return_, 1) := by decide +kernel
theorem dX3_remember_0 : decode cX3_remember 0 = .ok (.aload_n 0, 1) := by decide +kernel
theorem dX3_remember_1 : decode cX3_remember 1 = .ok (.getfield 14, 3) := by decide +kernel
theorem dX3_remember_4 : decode cX3_remember 4 = .ok (.aload_n 0, 1) := by decide +kernel
theorem dX3_remember_5 : decode cX3_remember 5 = .ok (.getfield 20, 3) := by decide +kernel
theorem dX3_remember_8 : decode cX3_remember 8 = .ok (.aload_n 0, 1) := by decide +kernel
theorem dX3_remember_9 : decode cX3_remember 9 = .ok (.getfield 24, 3) := by decide +kernel
theorem dX3_remember_12 : decode cX3_remember 12 = .ok (.iadd, 1) := by decide +kernel
theorem dX3_remember_13 : decode cX3_remember 13 = .ok (.bipush 14, 2) := by decide +kernel
theorem dX3_remember_15 : decode cX3_remember 15 = .ok (.irem, 1) := by decide +kernel
theorem dX3_remember_16 : decode cX3_remember 16 = .ok (.aload_n 1, 1) := by decide +kernel
theorem dX3_remember_17 : decode cX3_remember 17 = .ok (.invokevirtual 27, 3) := by decide +kernel
theorem dX3_remember_20 : decode cX3_remember 20 = .ok (.aload_n 0, 1) := by decide +kernel
theorem dX3_remember_21 : decode cX3_remember 21 = .ok (.getfield 24, 3) := by decide +kernel
theorem dX3_remember_24 : decode cX3_remember 24 = .ok (.bipush 14, 2) := by decide +kernel
theorem dX3_remember_26 : decode cX3_remember 26 = .ok (.if_icmp .ge 16, 3) := by decide +kernel
theorem dX3_remember_29 : decode cX3_remember 29 = .ok (.aload_n 0, 1) := by decide +kernel
theorem dX3_remember_30 : decode cX3_remember 30 = .ok (.dup, 1) := by decide +kernel
theorem dX3_remember_31 : decode cX3_remember 31 = .ok (.getfield 24, 3) := by decide +kernel
theorem dX3_remember_34 : decode cX3_remember 34 = .ok (.iconst 1, 1) := by decide +kernel
theorem dX3_remember_35 : decode cX3_remember 35 = .ok (.iadd, 1) := by decide +kernel
theorem dX3_remember_36 : decode cX3_remember 36 = .ok (.putfield 24, 3) := by decide +kernel
theorem dX3_remember_39 : decode cX3_remember 39 = .ok (.goto 16, 3) := by decide +kernel
theorem dX3_remember_42 : decode cX3_remember 42 = .ok (.aload_n 0, 1) := by decide +kernel
theorem dX3_remember_43 : decode cX3_remember 43 = .ok (.aload_n 0, 1) := by decide +kernel
theorem dX3_remember_44 : decode cX3_remember 44 = .ok (.getfield 20, 3) := by decide +kernel
theorem dX3_remember_47 : decode cX3_remember 47 = .ok (.iconst 1, 1) := by decide +kernel
theorem dX3_remember_48 : decode cX3_remember 48 = .ok (.iadd, 1) := by decide +kernel
theorem dX3_remember_49 : decode cX3_remember 49 = .ok (.bipush 14, 2) := by decide +kernel
theorem dX3_remember_51 : decode cX3_remember 51 = .ok (.irem, 1) := by decide +kernel
theorem dX3_remember_52 : decode cX3_remember 52 = .ok (.putfield 20, 3) := by decide +kernel
theorem dX3_remember_55 : decode cX3_remember 55 = .ok (.return_, 1) := by decide +kernel
theorem dX3_goBack_0 : decode cX3_goBack 0 = .ok (.aload_n 0, 1) := by decide +kernel
theorem dX3_goBack_1 : decode cX3_goBack 1 = .ok (.getfield 24, 3) := by decide +kernel
theorem dX3_goBack_4 : decode cX3_goBack 4 = .ok (.ifCond .le 33, 3) := by decide +kernel
theorem dX3_goBack_7 : decode cX3_goBack 7 = .ok (.aload_n 0, 1) := by decide +kernel
theorem dX3_goBack_8 : decode cX3_goBack 8 = .ok (.dup, 1) := by decide +kernel
theorem dX3_goBack_9 : decode cX3_goBack 9 = .ok (.getfield 24, 3) := by decide +kernel
theorem dX3_goBack_12 : decode cX3_goBack 12 = .ok (.iconst 1, 1) := by decide +kernel
theorem dX3_goBack_13 : decode cX3_goBack 13 = .ok (.isub, 1) := by decide +kernel
theorem dX3_goBack_14 : decode cX3_goBack 14 = .ok (.putfield 24, 3) := by decide +kernel
theorem dX3_goBack_17 : decode cX3_goBack 17 = .ok (.aload_n 0, 1) := by decide +kernel
theorem dX3_goBack_18 : decode cX3_goBack 18 = .ok (.getfield 14, 3) := by decide +kernel
theorem dX3_goBack_21 : decode cX3_goBack 21 = .ok (.aload_n 0, 1) := by decide +kernel
theorem dX3_goBack_22 : decode cX3_goBack 22 = .ok (.getfield 20, 3) := by decide +kernel
theorem dX3_goBack_25 : decode cX3_goBack 25 = .ok (.aload_n 0, 1) := by decide +kernel
theorem dX3_goBack_26 : decode cX3_goBack 26 = .ok (.getfield 24, 3) := by decide +kernel
theorem dX3_goBack_29 : decode cX3_goBack 29 = .ok (.iadd, 1) := by decide +kernel
theorem dX3_goBack_30 : decode cX3_goBack 30 = .ok (.bipush 14, 2) := by decide +kernel
theorem dX3_goBack_32 : decode cX3_goBack 32 = .ok (.irem, 1) := by decide +kernel
theorem dX3_goBack_33 : decode cX3_goBack 33 = .ok (.aload_n 1, 1) := by decide +kernel
theorem dX3_goBack_34 : decode cX3_goBack 34 = .ok (.invokevirtual 31, 3) := by decide +kernel
theorem dX3_goBack_37 : decode cX3_goBack 37 = .ok (.return_, 1) := by decide +kernel
theorem dX4_init_0 : decode cX4_init 0 = .ok (.aload_n 0, 1) := by decide +kernel
theorem dX4_init_1 : decode cX4_init 1 = .ok (.invokespecial 3, 3) := by decide +kernel
theorem dX4_init_4 : decode cX4_init 4 = .ok (.aload_n 0, 1) := by decide +kernel
theorem dX4_init_5 : decode cX4_init 5 = .ok (.bipush 6, 2) := by decide +kernel
theorem dX4_init_7 : decode cX4_init 7 = .ok (.newarray .int, 2) := by decide +kernel
theorem dX4_init_9 : decode cX4_init 9 = .ok (.putfield 9, 3) := by decide +kernel
theorem dX4_init_12 : decode cX4_init 12 = .ok (.aload_n 0, 1) := by decide +kernel
theorem dX4_init_13 : decode cX4_init 13 = .ok (.bipush 6, 2) := by decide +kernel
theorem dX4_init_15 : decode cX4_init 15 = .ok (.newarray .int, 2) := by decide +kernel
theorem dX4_init_17 : decode cX4_init 17 = .ok (.putfield 15, 3) := by decide +kernel
theorem dX4_init_20 : decode cX4_init 20 = .ok (.aload_n 0, 1) := by decide +kernel
theorem dX4_init_21 : decode cX4_init 21 = .ok (.bipush 6, 2) := by decide +kernel
theorem dX4_init_23 : decode cX4_init 23 = .ok (.newarray .int, 2) := by decide +kernel
theorem dX4_init_25 : decode cX4_init 25 = .ok (.putfield 18, 3) := by decide +kernel
theorem dX4_init_28 : decode cX4_init 28 = .ok (.aload_n 0, 1) := by decide +kernel
theorem dX4_init_29 : decode cX4_init 29 = .ok (.bipush 6, 2) := by decide +kernel
theorem dX4_init_31 : decode cX4_init 31 = .ok (.newarray .int, 2) := by decide +kernel
theorem dX4_init_33 : decode cX4_init 33 = .ok (.putfield 21, 3) := by decide +kernel
theorem dX4_init_36 : decode cX4_init 36 = .ok (.aload_n 0, 1) := by decide +kernel
theorem dX4_init_37 : decode cX4_init 37 = .ok (.iconst 3, 1) := by decide +kernel
theorem dX4_init_38 : decode cX4_init 38 = .ok (.newarray .int, 2) := by decide +kernel
theorem dX4_init_40 : decode cX4_init 40 = .ok (.putfield 24, 3) := by decide +kernel
theorem dX4_init_43 : decode cX4_init 43 = .ok (.aload_n 0, 1) := by decide +kernel
theorem dX4_init_44 : decode cX4_init 44 = .ok (.iconst 3, 1) := by decide +kernel
theorem dX4_init_45 : decode cX4_init 45 = .ok (.newarray .int, 2) := by decide +kernel
theorem dX4_init_47 : decode cX4_init 47 = .ok (.putfield 27, 3) := by decide +kernel
theorem dX4_init_50 : decode cX4_init 50 = .ok (.return_, 1) := by decide +kernel
theorem dX4_clear_0 : decode cX4_clear 0 = .ok (.aload_n 0, 1) := by decide +kernel
theorem dX4_clear_1 : decode cX4_clear 1 = .ok (.iconst 0, 1) := by decide +kernel
theorem dX4_clear_2 : decode cX4_clear 2 = .ok (.putfield 30, 3) := by decide +kernel
theorem dX4_clear_5 : decode cX4_clear 5 = .ok (.aload_n 0, 1) := by decide +kernel
theorem dX4_clear_6 : decode cX4_clear 6 = .ok (.iconst 0, 1) := by decide +kernel
theorem dX4_clear_7 : decode cX4_clear 7 = .ok (.putfield 34, 3) := by decide +kernel
theorem dX4_clear_10 : decode cX4_clear 10 = .ok (.aload_n 0, 1) := by decide +kernel
theorem dX4_clear_11 : decode cX4_clear 11 = .ok (.iconst 0, 1) := by decide +kernel
theorem dX4_clear_12 : decode cX4_clear 12 = .ok (.putfield 37, 3) := by decide +kernel
theorem dX4_clear_15 : decode cX4_clear 15 = .ok (.return_, 1) := by decide +kernel
theorem dX4_hasLetter_0 : decode cX4_hasLetter 0 = .ok (.iload_n 1, 1) := by decide +kernel
theorem dX4_hasLetter_1 : decode cX4_hasLetter 1 = .ok (.ifCond .lt 15, 3) := by decide +kernel
theorem dX4_hasLetter_4 : decode cX4_hasLetter 4 = .ok (.iload_n 1, 1) := by decide +kernel
theorem dX4_hasLetter_5 : decode cX4_hasLetter 5 = .ok (.aload_n 0, 1) := by decide +kernel
theorem dX4_hasLetter_6 : decode cX4_hasLetter 6 = .ok (.getfield 30, 3) := by decide +kernel
theorem dX4_hasLetter_9 : decode cX4_hasLetter 9 = .ok (.if_icmp .ge 7, 3) := by decide +kernel
theorem dX4_hasLetter_12 : decode cX4_hasLetter 12 = .ok (.iconst 1, 1) := by decide +kernel
theorem dX4_hasLetter_13 : decode cX4_hasLetter 13 = .ok (.goto 4, 3) := by decide +kernel
theorem dX4_hasLetter_16 : decode cX4_hasLetter 16 = .ok (.iconst 0, 1) := by decide +kernel
theorem dX4_hasLetter_17 : decode cX4_hasLetter 17 = .ok (.ireturn, 1) := by decide +kernel
theorem dX4_hasClerk_0 : decode cX4_hasClerk 0 = .ok (.iload_n 1, 1) := by decide +kernel
theorem dX4_hasClerk_1 : decode cX4_hasClerk 1 = .ok (.ifCond .lt 15, 3) := by decide +kernel
theorem dX4_hasClerk_4 : decode cX4_hasClerk 4 = .ok (.iload_n 1, 1) := by decide +kernel
theorem dX4_hasClerk_5 : decode cX4_hasClerk 5 = .ok (.aload_n 0, 1) := by decide +kernel
theorem dX4_hasClerk_6 : decode cX4_hasClerk 6 = .ok (.getfield 34, 3) := by decide +kernel
theorem dX4_hasClerk_9 : decode cX4_hasClerk 9 = .ok (.if_icmp .ge 7, 3) := by decide +kernel
theorem dX4_hasClerk_12 : decode cX4_hasClerk 12 = .ok (.iconst 1, 1) := by decide +kernel
theorem dX4_hasClerk_13 : decode cX4_hasClerk 13 = .ok (.goto 4, 3) := by decide +kernel
theorem dX4_hasClerk_16 : decode cX4_hasClerk 16 = .ok (.iconst 0, 1) := by decide +kernel
theorem dX4_hasClerk_17 : decode cX4_hasClerk 17 = .ok (.ireturn, 1) := by decide +kernel
theorem dX4_homesIn_0 : decode cX4_homesIn 0 = .ok (.iconst 0, 1) := by decide +kernel
theorem dX4_homesIn_1 : decode cX4_homesIn 1 = .ok (.istore_n 2, 1) := by decide +kernel
theorem dX4_homesIn_2 : decode cX4_homesIn 2 = .ok (.iconst 0, 1) := by decide +kernel
theorem dX4_homesIn_3 : decode cX4_homesIn 3 = .ok (.istore_n 3, 1) := by decide +kernel
theorem dX4_homesIn_4 : decode cX4_homesIn 4 = .ok (.iload_n 3, 1) := by decide +kernel
theorem dX4_homesIn_5 : decode cX4_homesIn 5 = .ok (.aload_n 0, 1) := by decide +kernel
theorem dX4_homesIn_6 : decode cX4_homesIn 6 = .ok (.getfield 30, 3) := by decide +kernel
theorem dX4_homesIn_9 : decode cX4_homesIn 9 = .ok (.if_icmp .ge 22, 3) := by decide +kernel
theorem dX4_homesIn_12 : decode cX4_homesIn 12 = .ok (.aload_n 0, 1) := by decide +kernel
theorem dX4_homesIn_13 : decode cX4_homesIn 13 = .ok (.getfield 9, 3) := by decide +kernel
theorem dX4_homesIn_16 : decode cX4_homesIn 16 = .ok (.iload_n 3, 1) := by decide +kernel
theorem dX4_homesIn_17 : decode cX4_homesIn 17 = .ok (.iaload, 1) := by decide +kernel
theorem dX4_homesIn_18 : decode cX4_homesIn 18 = .ok (.iload_n 1, 1) := by decide +kernel
theorem dX4_homesIn_19 : decode cX4_homesIn 19 = .ok (.if_icmp .ne 6, 3) := by decide +kernel
theorem dX4_homesIn_22 : decode cX4_homesIn 22 = .ok (.iinc 2 1, 3) := by decide +kernel
theorem dX4_homesIn_25 : decode cX4_homesIn 25 = .ok (.iinc 3 1, 3) := by decide +kernel
theorem dX4_homesIn_28 : decode cX4_homesIn 28 = .ok (.goto (-24), 3) := by decide +kernel
theorem dX4_homesIn_31 : decode cX4_homesIn 31 = .ok (.iload_n 2, 1) := by decide +kernel
theorem dX4_homesIn_32 : decode cX4_homesIn 32 = .ok (.ireturn, 1) := by decide +kernel
theorem dX5_init_0 : decode cX5_init 0 = .ok (.aload_n 0, 1) := by decide +kernel
theorem dX5_init_1 : decode cX5_init 1 = .ok (.invokespecial 3, 3) := by decide +kernel
theorem dX5_init_4 : decode cX5_init 4 = .ok (.aload_n 0, 1) := by decide +kernel
theorem dX5_init_5 : decode cX5_init 5 = .ok (.bipush 48, 2) := by decide +kernel
theorem dX5_init_7 : decode cX5_init 7 = .ok (.newarray .int, 2) := by decide +kernel
theorem dX5_init_9 : decode cX5_init 9 = .ok (.putfield 9, 3) := by decide +kernel
theorem dX5_init_12 : decode cX5_init 12 = .ok (.aload_n 0, 1) := by decide +kernel
theorem dX5_init_13 : decode cX5_init 13 = .ok (.new 15, 3) := by decide +kernel
theorem dX5_init_16 : decode cX5_init 16 = .ok (.dup, 1) := by decide +kernel
theorem dX5_init_17 : decode cX5_init 17 = .ok (.invokespecial 17, 3) := by decide +kernel
theorem dX5_init_20 : decode cX5_init 20 = .ok (.putfield 18, 3) := by decide +kernel
theorem dX5_init_23 : decode cX5_init 23 = .ok (.return_, 1) := by decide +kernel
theorem dX5_add_0 : decode cX5_add 0 = .ok (.aload_n 0, 1) := by decide +kernel
theorem dX5_add_1 : decode cX5_add 1 = .ok (.getfield 22, 3) := by decide +kernel
theorem dX5_add_4 : decode cX5_add 4 = .ok (.bipush 48, 2) := by decide +kernel
theorem dX5_add_6 : decode cX5_add 6 = .ok (.if_icmp .lt 6, 3) := by decide +kernel
theorem dX5_add_9 : decode cX5_add 9 = .ok (.bipush (-4), 2) := by decide +kernel
theorem dX5_add_11 : decode cX5_add 11 = .ok (.ireturn, 1) := by decide +kernel
theorem dX5_add_12 : decode cX5_add 12 = .ok (.aload_n 0, 1) := by decide +kernel
theorem dX5_add_13 : decode cX5_add 13 = .ok (.getfield 9, 3) := by decide +kernel
theorem dX5_add_16 : decode cX5_add 16 = .ok (.aload_n 0, 1) := by decide +kernel
theorem dX5_add_17 : decode cX5_add 17 = .ok (.getfield 22, 3) := by decide +kernel
theorem dX5_add_20 : decode cX5_add 20 = .ok (.iload_n 1, 1) := by decide +kernel
theorem dX5_add_21 : decode cX5_add 21 = .ok (.iastore, 1) := by decide +kernel
theorem dX5_add_22 : decode cX5_add 22 = .ok (.aload_n 0, 1) := by decide +kernel
theorem dX5_add_23 : decode cX5_add 23 = .ok (.dup, 1) := by decide +kernel
theorem dX5_add_24 : decode cX5_add 24 = .ok (.getfield 22, 3) := by decide +kernel
theorem dX5_add_27 : decode cX5_add 27 = .ok (.iconst 1, 1) := by decide +kernel
theorem dX5_add_28 : decode cX5_add 28 = .ok (.iadd, 1) := by decide +kernel
theorem dX5_add_29 : decode cX5_add 29 = .ok (.putfield 22, 3) := by decide +kernel
theorem dX5_add_32 : decode cX5_add 32 = .ok (.aload_n 0, 1) := by decide +kernel
theorem dX5_add_33 : decode cX5_add 33 = .ok (.getfield 22, 3) := by decide +kernel
theorem dX5_add_36 : decode cX5_add 36 = .ok (.ireturn, 1) := by decide +kernel
theorem dX5_clear_0 : decode cX5_clear 0 = .ok (.aload_n 0, 1) := by decide +kernel
theorem dX5_clear_1 : decode cX5_clear 1 = .ok (.getfield 22, 3) := by decide +kernel
theorem dX5_clear_4 : decode cX5_clear 4 = .ok (.istore_n 1, 1) := by decide +kernel
theorem dX5_clear_5 : decode cX5_clear 5 = .ok (.aload_n 0, 1) := by decide +kernel
theorem dX5_clear_6 : decode cX5_clear 6 = .ok (.iconst 0, 1) := by decide +kernel
theorem dX5_clear_7 : decode cX5_clear 7 = .ok (.putfield 22, 3) := by decide +kernel
theorem dX5_clear_10 : decode cX5_clear 10 = .ok (.iload_n 1, 1) := by decide +kernel
theorem dX5_clear_11 : decode cX5_clear 11 = .ok (.ireturn, 1) := by decide +kernel
theorem dX5_firstFault_0 : decode cX5_firstFault 0 = .ok (.aload_n 0, 1) := by decide +kernel
theorem dX5_firstFault_1 : decode cX5_firstFault 1 = .ok (.aload_n 0, 1) := by decide +kernel
theorem dX5_firstFault_2 : decode cX5_firstFault 2 = .ok (.getfield 18, 3) := by decide +kernel
theorem dX5_firstFault_5 : decode cX5_firstFault 5 = .ok (.invokevirtual 26, 3) := by decide +kernel
theorem dX5_firstFault_8 : decode cX5_firstFault 8 = .ok (.ireturn, 1) := by decide +kernel
theorem dX5_readInto_0 : decode cX5_readInto 0 = .ok (.aload_n 1, 1) := by decide +kernel
theorem dX5_readInto_1 : decode cX5_readInto 1 = .ok (.invokevirtual 30, 3) := by decide +kernel
theorem dX5_readInto_4 : decode cX5_readInto 4 = .ok (.iconst 0, 1) := by decide +kernel
theorem dX5_readInto_5 : decode cX5_readInto 5 = .ok (.istore_n 2, 1) := by decide +kernel
theorem dX5_readInto_6 : decode cX5_readInto 6 = .ok (.iconst 0, 1) := by decide +kernel
theorem dX5_readInto_7 : decode cX5_readInto 7 = .ok (.istore_n 3, 1) := by decide +kernel
theorem dX5_readInto_8 : decode cX5_readInto 8 = .ok (.iload_n 3, 1) := by decide +kernel
theorem dX5_readInto_9 : decode cX5_readInto 9 = .ok (.aload_n 0, 1) := by decide +kernel
theorem dX5_readInto_10 : decode cX5_readInto 10 = .ok (.getfield 22, 3) := by decide +kernel
theorem dX5_readInto_13 : decode cX5_readInto 13 = .ok (.if_icmp .ge 47, 3) := by decide +kernel
theorem dX5_readInto_16 : decode cX5_readInto 16 = .ok (.iload_n 2, 1) := by decide +kernel
theorem dX5_readInto_17 : decode cX5_readInto 17 = .ok (.iconst 2, 1) := by decide +kernel
theorem dX5_readInto_18 : decode cX5_readInto 18 = .ok (.if_icmp .gt 17, 3) := by decide +kernel
theorem dX5_readInto_21 : decode cX5_readInto 21 = .ok (.aload_n 1, 1) := by decide +kernel
theorem dX5_readInto_22 : decode cX5_readInto 22 = .ok (.iload_n 2, 1) := by decide +kernel
theorem dX5_readInto_23 : decode cX5_readInto 23 = .ok (.aload_n 0, 1) := by decide +kernel
theorem dX5_readInto_24 : decode cX5_readInto 24 = .ok (.getfield 9, 3) := by decide +kernel
theorem dX5_readInto_27 : decode cX5_readInto 27 = .ok (.iload_n 3, 1) := by decide +kernel
theorem dX5_readInto_28 : decode cX5_readInto 28 = .ok (.iaload, 1) := by decide +kernel
theorem dX5_readInto_29 : decode cX5_readInto 29 = .ok (.invokestatic 33, 3) := by decide +kernel
theorem dX5_readInto_32 : decode cX5_readInto 32 = .ok (.goto 14, 3) := by decide +kernel
theorem dX5_readInto_35 : decode cX5_readInto 35 = .ok (.aload_n 1, 1) := by decide +kernel
theorem dX5_readInto_36 : decode cX5_readInto 36 = .ok (.iload_n 2, 1) := by decide +kernel
theorem dX5_readInto_37 : decode cX5_readInto 37 = .ok (.aload_n 0, 1) := by decide +kernel
theorem dX5_readInto_38 : decode cX5_readInto 38 = .ok (.getfield 9, 3) := by decide +kernel
theorem dX5_readInto_41 : decode cX5_readInto 41 = .ok (.iload_n 3, 1) := by decide +kernel
theorem dX5_readInto_42 : decode cX5_readInto 42 = .ok (.iaload, 1) := by decide +kernel
theorem dX5_readInto_43 : decode cX5_readInto 43 = .ok (.invokestatic 37, 3) := by decide +kernel
theorem dX5_readInto_46 : decode cX5_readInto 46 = .ok (.istore_n 2, 1) := by decide +kernel
theorem dX5_readInto_47 : decode cX5_readInto 47 = .ok (.iload_n 2, 1) := by decide +kernel
theorem dX5_readInto_48 : decode cX5_readInto 48 = .ok (.iconst (-1), 1) := by decide +kernel
theorem dX5_readInto_49 : decode cX5_readInto 49 = .ok (.if_icmp .ne 5, 3) := by decide +kernel
theorem dX5_readInto_52 : decode cX5_readInto 52 = .ok (.iload_n 3, 1) := by decide +kernel
theorem dX5_readInto_53 : decode cX5_readInto 53 = .ok (.ireturn, 1) := by decide +kernel
theorem dX5_readInto_54 : decode cX5_readInto 54 = .ok (.iinc 3 1, 3) := by decide +kernel
theorem dX5_readInto_57 : decode cX5_readInto 57 = .ok (.goto (-49), 3) := by decide +kernel
theorem dX5_readInto_60 : decode cX5_readInto 60 = .ok (.iload_n 2, 1) := by decide +kernel
theorem dX5_readInto_61 : decode cX5_readInto 61 = .ok (.iconst 2, 1) := by decide +kernel
theorem dX5_readInto_62 : decode cX5_readInto 62 = .ok (.if_icmp .ne 8, 3) := by decide +kernel
theorem dX5_readInto_65 : decode cX5_readInto 65 = .ok (.bipush (-9), 2) := by decide +kernel
theorem dX5_readInto_67 : decode cX5_readInto 67 = .ok (.goto 7, 3) := by decide +kernel
theorem dX5_readInto_70 : decode cX5_readInto 70 = .ok (.aload_n 0, 1) := by decide +kernel
theorem dX5_readInto_71 : decode cX5_readInto 71 = .ok (.getfield 22, 3) := by decide +kernel
theorem dX5_readInto_74 : decode cX5_readInto 74 = .ok (.ireturn, 1) := by decide +kernel
theorem dX5_readOutside_0 : decode cX5_readOutside 0 = .ok (.iload_n 1, 1) := by decide +kernel
theorem dX5_readOutside_1 : decode cX5_readOutside 1 = .ok (.ifCond .ne 15, 3) := by decide +kernel
theorem dX5_readOutside_4 : decode cX5_readOutside 4 = .ok (.iload_n 2, 1) := by decide +kernel
theorem dX5_readOutside_5 : decode cX5_readOutside 5 = .ok (.bipush 77, 2) := by decide +kernel
theorem dX5_readOutside_7 : decode cX5_readOutside 7 = .ok (.if_icmp .ne 7, 3) := by decide +kernel
theorem dX5_readOutside_10 : decode cX5_readOutside 10 = .ok (.iconst 1, 1) := by decide +kernel
theorem dX5_readOutside_11 : decode cX5_readOutside 11 = .ok (.goto 4, 3) := by decide +kernel
theorem dX5_readOutside_14 : decode cX5_readOutside 14 = .ok (.iconst (-1), 1) := by decide +kernel
theorem dX5_readOutside_15 : decode cX5_readOutside 15 = .ok (.ireturn, 1) := by decide +kernel
theorem dX5_readOutside_16 : decode cX5_readOutside 16 = .ok (.iload_n 1, 1) := by decide +kernel
theorem dX5_readOutside_17 : decode cX5_readOutside 17 = .ok (.iconst 1, 1) := by decide +kernel
theorem dX5_readOutside_18 : decode cX5_readOutside 18 = .ok (.if_icmp .ne 27, 3) := by decide +kernel
theorem dX5_readOutside_21 : decode cX5_readOutside 21 = .ok (.aload_n 0, 1) := by decide +kernel
theorem dX5_readOutside_22 : decode cX5_readOutside 22 = .ok (.iload_n 2, 1) := by decide +kernel
theorem dX5_readOutside_23 : decode cX5_readOutside 23 = .ok (.bipush 48, 2) := by decide +kernel
theorem dX5_readOutside_25 : decode cX5_readOutside 25 = .ok (.isub, 1) := by decide +kernel
theorem dX5_readOutside_26 : decode cX5_readOutside 26 = .ok (.putfield 40, 3) := by decide +kernel
theorem dX5_readOutside_29 : decode cX5_readOutside 29 = .ok (.iload_n 2, 1) := by decide +kernel
theorem dX5_readOutside_30 : decode cX5_readOutside 30 = .ok (.iconst 0, 1) := by decide +kernel
theorem dX5_readOutside_31 : decode cX5_readOutside 31 = .ok (.bipush 9, 2) := by decide +kernel
theorem dX5_readOutside_33 : decode cX5_readOutside 33 = .ok (.invokestatic 43, 3) := by decide +kernel
theorem dX5_readOutside_36 : decode cX5_readOutside 36 = .ok (.ifCond .eq 7, 3) := by decide +kernel
theorem dX5_readOutside_39 : decode cX5_readOutside 39 = .ok (.iconst 2, 1) := by decide +kernel
theorem dX5_readOutside_40 : decode cX5_readOutside 40 = .ok (.goto 4, 3) := by decide +kernel
theorem dX5_readOutside_43 : decode cX5_readOutside 43 = .ok (.iconst (-1), 1) := by decide +kernel
theorem dX5_readOutside_44 : decode cX5_readOutside 44 = .ok (.ireturn, 1) := by decide +kernel
theorem dX5_readOutside_45 : decode cX5_readOutside 45 = .ok (.iload_n 2, 1) := by decide +kernel
theorem dX5_readOutside_46 : decode cX5_readOutside 46 = .ok (.bipush 76, 2) := by decide +kernel
theorem dX5_readOutside_48 : decode cX5_readOutside 48 = .ok (.if_icmp .ne 14, 3) := by decide +kernel
theorem dX5_readOutside_51 : decode cX5_readOutside 51 = .ok (.aload_n 0, 1) := by decide +kernel
theorem dX5_readOutside_52 : decode cX5_readOutside 52 = .ok (.getfield 47, 3) := by decide +kernel
theorem dX5_readOutside_55 : decode cX5_readOutside 55 = .ok (.bipush 6, 2) := by decide +kernel
theorem dX5_readOutside_57 : decode cX5_readOutside 57 = .ok (.if_icmp .ge 5, 3) := by decide +kernel
theorem dX5_readOutside_60 : decode cX5_readOutside 60 = .ok (.iconst 3, 1) := by decide +kernel
theorem dX5_readOutside_61 : decode cX5_readOutside 61 = .ok (.ireturn, 1) := by decide +kernel
theorem dX5_readOutside_62 : decode cX5_readOutside 62 = .ok (.iload_n 2, 1) := by decide +kernel
theorem dX5_readOutside_63 : decode cX5_readOutside 63 = .ok (.bipush 67, 2) := by decide +kernel
theorem dX5_readOutside_65 : decode cX5_readOutside 65 = .ok (.if_icmp .ne 16, 3) := by decide +kernel
theorem dX5_readOutside_68 : decode cX5_readOutside 68 = .ok (.aload_n 0, 1) := by decide +kernel
theorem dX5_readOutside_69 : decode cX5_readOutside 69 = .ok (.getfield 50, 3) := by decide +kernel
theorem dX5_readOutside_72 : decode cX5_readOutside 72 = .ok (.iconst 3, 1) := by decide +kernel
theorem dX5_readOutside_73 : decode cX5_readOutside 73 = .ok (.if_icmp .ge 8, 3) := by decide +kernel
theorem dX5_readOutside_76 : decode cX5_readOutside 76 = .ok (.bipush 6, 2) := by decide +kernel
theorem dX5_readOutside_78 : decode cX5_readOutside 78 = .ok (.goto 4, 3) := by decide +kernel
theorem dX5_readOutside_81 : decode cX5_readOutside 81 = .ok (.iconst (-1), 1) := by decide +kernel
theorem dX5_readOutside_82 : decode cX5_readOutside 82 = .ok (.ireturn, 1) := by decide +kernel
theorem dX5_readInside_0 : decode cX5_readInside 0 = .ok (.aload_n 0, 1) := by decide +kernel
theorem dX5_readInside_1 : decode cX5_readInside 1 = .ok (.getfield 47, 3) := by decide +kernel
theorem dX5_readInside_4 : decode cX5_readInside 4 = .ok (.istore_n 3, 1) := by decide +kernel
theorem dX5_readInside_5 : decode cX5_readInside 5 = .ok (.aload_n 0, 1) := by decide +kernel
theorem dX5_readInside_6 : decode cX5_readInside 6 = .ok (.getfield 50, 3) := by decide +kernel
theorem dX5_readInside_9 : decode cX5_readInside 9 = .ok (.istore 4, 2) := by decide +kernel
theorem dX5_readInside_11 : decode cX5_readInside 11 = .ok (.iload_n 1, 1) := by decide +kernel
theorem dX5_readInside_12 : decode cX5_readInside 12 = .ok (.iconst 5, 1) := by decide +kernel
theorem dX5_readInside_13 : decode cX5_readInside 13 = .ok (.if_icmp .gt 12, 3) := by decide +kernel
theorem dX5_readInside_16 : decode cX5_readInside 16 = .ok (.iload_n 3, 1) := by decide +kernel
theorem dX5_readInside_17 : decode cX5_readInside 17 = .ok (.bipush 6, 2) := by decide +kernel
theorem dX5_readInside_19 : decode cX5_readInside 19 = .ok (.if_icmp .lt 14, 3) := by decide +kernel
theorem dX5_readInside_22 : decode cX5_readInside 22 = .ok (.goto 9, 3) := by decide +kernel
theorem dX5_readInside_25 : decode cX5_readInside 25 = .ok (.iload 4, 2) := by decide +kernel
theorem dX5_readInside_27 : decode cX5_readInside 27 = .ok (.iconst 3, 1) := by decide +kernel
theorem dX5_readInside_28 : decode cX5_readInside 28 = .ok (.if_icmp .lt 5, 3) := by decide +kernel
theorem dX5_readInside_31 : decode cX5_readInside 31 = .ok (.iconst (-1), 1) := by decide +kernel
theorem dX5_readInside_32 : decode cX5_readInside 32 = .ok (.ireturn, 1) := by decide +kernel
theorem dX5_readInside_33 : decode cX5_readInside 33 = .ok (.iload_n 1, 1) := by decide +kernel
theorem dX5_readInside_34 : decode cX5_readInside 34 = .ok (.tableswitch 175 3 6 #[30, 68, 94, 148], 30) := by decide +kernel
theorem dX5_readInside_64 : decode cX5_readInside 64 = .ok (.aload_n 0, 1) := by decide +kernel
theorem dX5_readInside_65 : decode cX5_readInside 65 = .ok (.getfield 53, 3) := by decide +kernel
theorem dX5_readInside_68 : decode cX5_readInside 68 = .ok (.iload_n 3, 1) := by decide +kernel
theorem dX5_readInside_69 : decode cX5_readInside 69 = .ok (.iload_n 2, 1) := by decide +kernel
theorem dX5_readInside_70 : decode cX5_readInside 70 = .ok (.bipush 97, 2) := by decide +kernel
theorem dX5_readInside_72 : decode cX5_readInside 72 = .ok (.isub, 1) := by decide +kernel
theorem dX5_readInside_73 : decode cX5_readInside 73 = .ok (.iastore, 1) := by decide +kernel
theorem dX5_readInside_74 : decode cX5_readInside 74 = .ok (.iload_n 2, 1) := by decide +kernel
theorem dX5_readInside_75 : decode cX5_readInside 75 = .ok (.bipush 97, 2) := by decide +kernel
theorem dX5_readInside_77 : decode cX5_readInside 77 = .ok (.isub, 1) := by decide +kernel
theorem dX5_readInside_78 : decode cX5_readInside 78 = .ok (.invokestatic 56, 3) := by decide +kernel
theorem dX5_readInside_81 : decode cX5_readInside 81 = .ok (.ifCond .eq 19, 3) := by decide +kernel
theorem dX5_readInside_84 : decode cX5_readInside 84 = .ok (.aload_n 0, 1) := by decide +kernel
theorem dX5_readInside_85 : decode cX5_readInside 85 = .ok (.iload_n 2, 1) := by decide +kernel
theorem dX5_readInside_86 : decode cX5_readInside 86 = .ok (.bipush 97, 2) := by decide +kernel
theorem dX5_readInside_88 : decode cX5_readInside 88 = .ok (.isub, 1) := by decide +kernel
theorem dX5_readInside_89 : decode cX5_readInside 89 = .ok (.invokevirtual 60, 3) := by decide +kernel
theorem dX5_readInside_92 : decode cX5_readInside 92 = .ok (.iconst 2, 1) := by decide +kernel
theorem dX5_readInside_93 : decode cX5_readInside 93 = .ok (.if_icmp .ge 7, 3) := by decide +kernel
theorem dX5_readInside_96 : decode cX5_readInside 96 = .ok (.iconst 4, 1) := by decide +kernel
theorem dX5_readInside_97 : decode cX5_readInside 97 = .ok (.goto 4, 3) := by decide +kernel
theorem dX5_readInside_100 : decode cX5_readInside 100 = .ok (.iconst (-1), 1) := by decide +kernel
theorem dX5_readInside_101 : decode cX5_readInside 101 = .ok (.ireturn, 1) := by decide +kernel
theorem dX5_readInside_102 : decode cX5_readInside 102 = .ok (.aload_n 0, 1) := by decide +kernel
theorem dX5_readInside_103 : decode cX5_readInside 103 = .ok (.getfield 64, 3) := by decide +kernel
theorem dX5_readInside_106 : decode cX5_readInside 106 = .ok (.iload_n 3, 1) := by decide +kernel
theorem dX5_readInside_107 : decode cX5_readInside 107 = .ok (.iload_n 2, 1) := by decide +kernel
theorem dX5_readInside_108 : decode cX5_readInside 108 = .ok (.bipush 48, 2) := by decide +kernel
theorem dX5_readInside_110 : decode cX5_readInside 110 = .ok (.isub, 1) := by decide +kernel
theorem dX5_readInside_111 : decode cX5_readInside 111 = .ok (.iastore, 1) := by decide +kernel
theorem dX5_readInside_112 : decode cX5_readInside 112 = .ok (.iload_n 2, 1) := by decide +kernel
theorem dX5_readInside_113 : decode cX5_readInside 113 = .ok (.iconst 1, 1) := by decide +kernel
theorem dX5_readInside_114 : decode cX5_readInside 114 = .ok (.bipush 9, 2) := by decide +kernel
theorem dX5_readInside_116 : decode cX5_readInside 116 = .ok (.invokestatic 43, 3) := by decide +kernel
theorem dX5_readInside_119 : decode cX5_readInside 119 = .ok (.ifCond .eq 7, 3) := by decide +kernel
theorem dX5_readInside_122 : decode cX5_readInside 122 = .ok (.iconst 5, 1) := by decide +kernel
theorem dX5_readInside_123 : decode cX5_readInside 123 = .ok (.goto 4, 3) := by decide +kernel
theorem dX5_readInside_126 : decode cX5_readInside 126 = .ok (.iconst (-1), 1) := by decide +kernel
theorem dX5_readInside_127 : decode cX5_readInside 127 = .ok (.ireturn, 1) := by decide +kernel
theorem dX5_readInside_128 : decode cX5_readInside 128 = .ok (.iload_n 2, 1) := by decide +kernel
theorem dX5_readInside_129 : decode cX5_readInside 129 = .ok (.iconst 0, 1) := by decide +kernel
theorem dX5_readInside_130 : decode cX5_readInside 130 = .ok (.iconst 3, 1) := by decide +kernel
theorem dX5_readInside_131 : decode cX5_readInside 131 = .ok (.invokestatic 43, 3) := by decide +kernel
theorem dX5_readInside_134 : decode cX5_readInside 134 = .ok (.ifCond .ne 5, 3) := by decide +kernel
theorem dX5_readInside_137 : decode cX5_readInside 137 = .ok (.iconst (-1), 1) := by decide +kernel
theorem dX5_readInside_138 : decode cX5_readInside 138 = .ok (.ireturn, 1) := by decide +kernel
theorem dX5_readInside_139 : decode cX5_readInside 139 = .ok (.aload_n 0, 1) := by decide +kernel
theorem dX5_readInside_140 : decode cX5_readInside 140 = .ok (.getfield 67, 3) := by decide +kernel
theorem dX5_readInside_143 : decode cX5_readInside 143 = .ok (.iload_n 3, 1) := by decide +kernel
theorem dX5_readInside_144 : decode cX5_readInside 144 = .ok (.iload_n 2, 1) := by decide +kernel
theorem dX5_readInside_145 : decode cX5_readInside 145 = .ok (.bipush 48, 2) := by decide +kernel
theorem dX5_readInside_147 : decode cX5_readInside 147 = .ok (.isub, 1) := by decide +kernel
theorem dX5_readInside_148 : decode cX5_readInside 148 = .ok (.iastore, 1) := by decide +kernel
theorem dX5_readInside_149 : decode cX5_readInside 149 = .ok (.aload_n 0, 1) := by decide +kernel
theorem dX5_readInside_150 : decode cX5_readInside 150 = .ok (.getfield 70, 3) := by decide +kernel
theorem dX5_readInside_153 : decode cX5_readInside 153 = .ok (.iload_n 3, 1) := by decide +kernel
theorem dX5_readInside_154 : decode cX5_readInside 154 = .ok (.aload_n 0, 1) := by decide +kernel
theorem dX5_readInside_155 : decode cX5_readInside 155 = .ok (.getfield 64, 3) := by decide +kernel
theorem dX5_readInside_158 : decode cX5_readInside 158 = .ok (.iload_n 3, 1) := by decide +kernel
theorem dX5_readInside_159 : decode cX5_readInside 159 = .ok (.iaload, 1) := by decide +kernel
theorem dX5_readInside_160 : decode cX5_readInside 160 = .ok (.aload_n 0, 1) := by decide +kernel
theorem dX5_readInside_161 : decode cX5_readInside 161 = .ok (.getfield 67, 3) := by decide +kernel
theorem dX5_readInside_164 : decode cX5_readInside 164 = .ok (.iload_n 3, 1) := by decide +kernel
theorem dX5_readInside_165 : decode cX5_readInside 165 = .ok (.iaload, 1) := by decide +kernel
theorem dX5_readInside_166 : decode cX5_readInside 166 = .ok (.invokestatic 73, 3) := by decide +kernel
theorem dX5_readInside_169 : decode cX5_readInside 169 = .ok (.iastore, 1) := by decide +kernel
theorem dX5_readInside_170 : decode cX5_readInside 170 = .ok (.aload_n 0, 1) := by decide +kernel
theorem dX5_readInside_171 : decode cX5_readInside 171 = .ok (.dup, 1) := by decide +kernel
theorem dX5_readInside_172 : decode cX5_readInside 172 = .ok (.getfield 47, 3) := by decide +kernel
theorem dX5_readInside_175 : decode cX5_readInside 175 = .ok (.iconst 1, 1) := by decide +kernel
theorem dX5_readInside_176 : decode cX5_readInside 176 = .ok (.iadd, 1) := by decide +kernel
theorem dX5_readInside_177 : decode cX5_readInside 177 = .ok (.putfield 47, 3) := by decide +kernel
theorem dX5_readInside_180 : decode cX5_readInside 180 = .ok (.iconst 2, 1) := by decide +kernel
theorem dX5_readInside_181 : decode cX5_readInside 181 = .ok (.ireturn, 1) := by decide +kernel
theorem dX5_readInside_182 : decode cX5_readInside 182 = .ok (.aload_n 0, 1) := by decide +kernel
theorem dX5_readInside_183 : decode cX5_readInside 183 = .ok (.getfield 77, 3) := by decide +kernel
theorem dX5_readInside_186 : decode cX5_readInside 186 = .ok (.iload 4, 2) := by decide +kernel
theorem dX5_readInside_188 : decode cX5_readInside 188 = .ok (.iload_n 2, 1) := by decide +kernel
theorem dX5_readInside_189 : decode cX5_readInside 189 = .ok (.bipush 48, 2) := by decide +kernel
theorem dX5_readInside_191 : decode cX5_readInside 191 = .ok (.isub, 1) := by decide +kernel
theorem dX5_readInside_192 : decode cX5_readInside 192 = .ok (.iastore, 1) := by decide +kernel
theorem dX5_readInside_193 : decode cX5_readInside 193 = .ok (.iload_n 2, 1) := by decide +kernel
theorem dX5_readInside_194 : decode cX5_readInside 194 = .ok (.iconst 0, 1) := by decide +kernel
theorem dX5_readInside_195 : decode cX5_readInside 195 = .ok (.iconst 2, 1) := by decide +kernel
theorem dX5_readInside_196 : decode cX5_readInside 196 = .ok (.invokestatic 43, 3) := by decide +kernel
theorem dX5_readInside_199 : decode cX5_readInside 199 = .ok (.ifCond .eq 8, 3) := by decide +kernel
theorem dX5_readInside_202 : decode cX5_readInside 202 = .ok (.bipush 7, 2) := by decide +kernel
theorem dX5_readInside_204 : decode cX5_readInside 204 = .ok (.goto 4, 3) := by decide +kernel
theorem dX5_readInside_207 : decode cX5_readInside 207 = .ok (.iconst (-1), 1) := by decide +kernel
theorem dX5_readInside_208 : decode cX5_readInside 208 = .ok (.ireturn, 1) := by decide +kernel
theorem dX5_readInside_209 : decode cX5_readInside 209 = .ok (.iload_n 2, 1) := by decide +kernel
theorem dX5_readInside_210 : decode cX5_readInside 210 = .ok (.iconst 1, 1) := by decide +kernel
theorem dX5_readInside_211 : decode cX5_readInside 211 = .ok (.iconst 3, 1) := by decide +kernel
theorem dX5_readInside_212 : decode cX5_readInside 212 = .ok (.invokestatic 43, 3) := by decide +kernel
theorem dX5_readInside_215 : decode cX5_readInside 215 = .ok (.ifCond .ne 5, 3) := by decide +kernel
theorem dX5_readInside_218 : decode cX5_readInside 218 = .ok (.iconst (-1), 1) := by decide +kernel
theorem dX5_readInside_219 : decode cX5_readInside 219 = .ok (.ireturn, 1) := by decide +kernel
theorem dX5_readInside_220 : decode cX5_readInside 220 = .ok (.aload_n 0, 1) := by decide +kernel
theorem dX5_readInside_221 : decode cX5_readInside 221 = .ok (.getfield 80, 3) := by decide +kernel
theorem dX5_readInside_224 : decode cX5_readInside 224 = .ok (.iload 4, 2) := by decide +kernel
theorem dX5_readInside_226 : decode cX5_readInside 226 = .ok (.iload_n 2, 1) := by decide +kernel
theorem dX5_readInside_227 : decode cX5_readInside 227 = .ok (.bipush 48, 2) := by decide +kernel
theorem dX5_readInside_229 : decode cX5_readInside 229 = .ok (.isub, 1) := by decide +kernel
theorem dX5_readInside_230 : decode cX5_readInside 230 = .ok (.iastore, 1) := by decide +kernel
theorem dX5_readInside_231 : decode cX5_readInside 231 = .ok (.aload_n 0, 1) := by decide +kernel
theorem dX5_readInside_232 : decode cX5_readInside 232 = .ok (.dup, 1) := by decide +kernel
theorem dX5_readInside_233 : decode cX5_readInside 233 = .ok (.getfield 50, 3) := by decide +kernel
theorem dX5_readInside_236 : decode cX5_readInside 236 = .ok (.iconst 1, 1) := by decide +kernel
theorem dX5_readInside_237 : decode cX5_readInside 237 = .ok (.iadd, 1) := by decide +kernel
theorem dX5_readInside_238 : decode cX5_readInside 238 = .ok (.putfield 50, 3) := by decide +kernel
theorem dX5_readInside_241 : decode cX5_readInside 241 = .ok (.iconst 2, 1) := by decide +kernel
theorem dX5_readInside_242 : decode cX5_readInside 242 = .ok (.ireturn, 1) := by decide +kernel
theorem dX5_isFigure_0 : decode cX5_isFigure 0 = .ok (.iload_n 0, 1) := by decide +kernel
theorem dX5_isFigure_1 : decode cX5_isFigure 1 = .ok (.bipush 48, 2) := by decide +kernel
theorem dX5_isFigure_3 : decode cX5_isFigure 3 = .ok (.iload_n 1, 1) := by decide +kernel
theorem dX5_isFigure_4 : decode cX5_isFigure 4 = .ok (.iadd, 1) := by decide +kernel
theorem dX5_isFigure_5 : decode cX5_isFigure 5 = .ok (.if_icmp .lt 15, 3) := by decide +kernel
theorem dX5_isFigure_8 : decode cX5_isFigure 8 = .ok (.iload_n 0, 1) := by decide +kernel
theorem dX5_isFigure_9 : decode cX5_isFigure 9 = .ok (.bipush 48, 2) := by decide +kernel
theorem dX5_isFigure_11 : decode cX5_isFigure 11 = .ok (.iload_n 2, 1) := by decide +kernel
theorem dX5_isFigure_12 : decode cX5_isFigure 12 = .ok (.iadd, 1) := by decide +kernel
theorem dX5_isFigure_13 : decode cX5_isFigure 13 = .ok (.if_icmp .gt 7, 3) := by decide +kernel
theorem dX5_isFigure_16 : decode cX5_isFigure 16 = .ok (.iconst 1, 1) := by decide +kernel
theorem dX5_isFigure_17 : decode cX5_isFigure 17 = .ok (.goto 4, 3) := by decide +kernel
theorem dX5_isFigure_20 : decode cX5_isFigure 20 = .ok (.iconst 0, 1) := by decide +kernel
theorem dX5_isFigure_21 : decode cX5_isFigure 21 = .ok (.ireturn, 1) := by decide +kernel
theorem dX6_init_0 : decode cX6_init 0 = .ok (.aload_n 0, 1) := by decide +kernel
theorem dX6_init_1 : decode cX6_init 1 = .ok (.invokespecial 1, 3) := by decide +kernel
theorem dX6_init_4 : decode cX6_init 4 = .ok (.aload_n 0, 1) := by decide +kernel
theorem dX6_init_5 : decode cX6_init 5 = .ok (.iconst 0, 1) := by decide +kernel
theorem dX6_init_6 : decode cX6_init 6 = .ok (.iload_n 1, 1) := by decide +kernel
theorem dX6_init_7 : decode cX6_init 7 = .ok (.invokestatic 7, 3) := by decide +kernel
theorem dX6_init_10 : decode cX6_init 10 = .ok (.putfield 13, 3) := by decide +kernel
theorem dX6_init_13 : decode cX6_init 13 = .ok (.aload_n 0, 1) := by decide +kernel
theorem dX6_init_14 : decode cX6_init 14 = .ok (.aload_n 0, 1) := by decide +kernel
theorem dX6_init_15 : decode cX6_init 15 = .ok (.getfield 13, 3) := by decide +kernel
theorem dX6_init_18 : decode cX6_init 18 = .ok (.bipush 23, 2) := by decide +kernel
theorem dX6_init_20 : decode cX6_init 20 = .ok (.imul, 1) := by decide +kernel
theorem dX6_init_21 : decode cX6_init 21 = .ok (.newarray .int, 2) := by decide +kernel
theorem dX6_init_23 : decode cX6_init 23 = .ok (.putfield 21, 3) := by decide +kernel
theorem dX6_init_26 : decode cX6_init 26 = .ok (.return_, 1) := by decide +kernel
theorem dX6_store_0 : decode cX6_store 0 = .ok (.iload_n 1, 1) := by decide +kernel
theorem dX6_store_1 : decode cX6_store 1 = .ok (.ifCond .lt 29, 3) := by decide +kernel
theorem dX6_store_4 : decode cX6_store 4 = .ok (.iload_n 1, 1) := by decide +kernel
theorem dX6_store_5 : decode cX6_store 5 = .ok (.aload_n 0, 1) := by decide +kernel
theorem dX6_store_6 : decode cX6_store 6 = .ok (.getfield 13, 3) := by decide +kernel
theorem dX6_store_9 : decode cX6_store 9 = .ok (.if_icmp .ge 21, 3) := by decide +kernel
theorem dX6_store_12 : decode cX6_store 12 = .ok (.aload_n 2, 1) := by decide +kernel
theorem dX6_store_13 : decode cX6_store 13 = .ok (.getfield 25, 3) := by decide +kernel
theorem dX6_store_16 : decode cX6_store 16 = .ok (.iconst 0, 1) := by decide +kernel
theorem dX6_store_17 : decode cX6_store 17 = .ok (.aload_n 0, 1) := by decide +kernel
theorem dX6_store_18 : decode cX6_store 18 = .ok (.getfield 21, 3) := by decide +kernel
theorem dX6_store_21 : decode cX6_store 21 = .ok (.iload_n 1, 1) := by decide +kernel
theorem dX6_store_22 : decode cX6_store 22 = .ok (.bipush 23, 2) := by decide +kernel
theorem dX6_store_24 : decode cX6_store 24 = .ok (.imul, 1) := by decide +kernel
theorem dX6_store_25 : decode cX6_store 25 = .ok (.bipush 23, 2) := by decide +kernel
theorem dX6_store_27 : decode cX6_store 27 = .ok (.invokestatic 26, 3) := by decide +kernel
theorem dX6_store_30 : decode cX6_store 30 = .ok (.return_, 1) := by decide +kernel
theorem dX6_fetch_0 : decode cX6_fetch 0 = .ok (.iload_n 1, 1) := by decide +kernel
theorem dX6_fetch_1 : decode cX6_fetch 1 = .ok (.ifCond .lt 29, 3) := by decide +kernel
theorem dX6_fetch_4 : decode cX6_fetch 4 = .ok (.iload_n 1, 1) := by decide +kernel
theorem dX6_fetch_5 : decode cX6_fetch 5 = .ok (.aload_n 0, 1) := by decide +kernel
theorem dX6_fetch_6 : decode cX6_fetch 6 = .ok (.getfield 13, 3) := by decide +kernel
theorem dX6_fetch_9 : decode cX6_fetch 9 = .ok (.if_icmp .ge 21, 3) := by decide +kernel
theorem dX6_fetch_12 : decode cX6_fetch 12 = .ok (.aload_n 0, 1) := by decide +kernel
theorem dX6_fetch_13 : decode cX6_fetch 13 = .ok (.getfield 21, 3) := by decide +kernel
theorem dX6_fetch_16 : decode cX6_fetch 16 = .ok (.iload_n 1, 1) := by decide +kernel
theorem dX6_fetch_17 : decode cX6_fetch 17 = .ok (.bipush 23, 2) := by decide +kernel
theorem dX6_fetch_19 : decode cX6_fetch 19 = .ok (.imul, 1) := by decide +kernel
theorem dX6_fetch_20 : decode cX6_fetch 20 = .ok (.aload_n 2, 1) := by decide +kernel
theorem dX6_fetch_21 : decode cX6_fetch 21 = .ok (.getfield 25, 3) := by decide +kernel
theorem dX6_fetch_24 : decode cX6_fetch 24 = .ok (.iconst 0, 1) := by decide +kernel
theorem dX6_fetch_25 : decode cX6_fetch 25 = .ok (.bipush 23, 2) := by decide +kernel
theorem dX6_fetch_27 : decode cX6_fetch 27 = .ok (.invokestatic 26, 3) := by decide +kernel
theorem dX6_fetch_30 : decode cX6_fetch 30 = .ok (.return_, 1) := by decide +kernel
theorem dX7_init_0 : decode cX7_init 0 = .ok (.aload_n 0, 1) := by decide +kernel
theorem dX7_init_1 : decode cX7_init 1 = .ok (.invokespecial 3, 3) := by decide +kernel
theorem dX7_init_4 : decode cX7_init 4 = .ok (.aload_n 0, 1) := by decide +kernel
theorem dX7_init_5 : decode cX7_init 5 = .ok (.bipush 6, 2) := by decide +kernel
theorem dX7_init_7 : decode cX7_init 7 = .ok (.newarray .int, 2) := by decide +kernel
theorem dX7_init_9 : decode cX7_init 9 = .ok (.putfield 9, 3) := by decide +kernel
theorem dX7_init_12 : decode cX7_init 12 = .ok (.aload_n 0, 1) := by decide +kernel
theorem dX7_init_13 : decode cX7_init 13 = .ok (.bipush 6, 2) := by decide +kernel
theorem dX7_init_15 : decode cX7_init 15 = .ok (.newarray .boolean, 2) := by decide +kernel
theorem dX7_init_17 : decode cX7_init 17 = .ok (.putfield 15, 3) := by decide +kernel
theorem dX7_init_20 : decode cX7_init 20 = .ok (.return_, 1) := by decide +kernel
theorem dX7_add_0 : decode cX7_add 0 = .ok (.aload_n 0, 1) := by decide +kernel
theorem dX7_add_1 : decode cX7_add 1 = .ok (.getfield 19, 3) := by decide +kernel
theorem dX7_add_4 : decode cX7_add 4 = .ok (.bipush 6, 2) := by decide +kernel
theorem dX7_add_6 : decode cX7_add 6 = .ok (.if_icmp .lt 6, 3) := by decide +kernel
theorem dX7_add_9 : decode cX7_add 9 = .ok (.bipush (-4), 2) := by decide +kernel
theorem dX7_add_11 : decode cX7_add 11 = .ok (.ireturn, 1) := by decide +kernel
theorem dX7_add_12 : decode cX7_add 12 = .ok (.aload_n 0, 1) := by decide +kernel
theorem dX7_add_13 : decode cX7_add 13 = .ok (.getfield 9, 3) := by decide +kernel
theorem dX7_add_16 : decode cX7_add 16 = .ok (.aload_n 0, 1) := by decide +kernel
theorem dX7_add_17 : decode cX7_add 17 = .ok (.getfield 19, 3) := by decide +kernel
theorem dX7_add_20 : decode cX7_add 20 = .ok (.iload_n 1, 1) := by decide +kernel
theorem dX7_add_21 : decode cX7_add 21 = .ok (.iastore, 1) := by decide +kernel
theorem dX7_add_22 : decode cX7_add 22 = .ok (.aload_n 0, 1) := by decide +kernel
theorem dX7_add_23 : decode cX7_add 23 = .ok (.getfield 15, 3) := by decide +kernel
theorem dX7_add_26 : decode cX7_add 26 = .ok (.aload_n 0, 1) := by decide +kernel
theorem dX7_add_27 : decode cX7_add 27 = .ok (.getfield 19, 3) := by decide +kernel
theorem dX7_add_30 : decode cX7_add 30 = .ok (.iload_n 2, 1) := by decide +kernel
theorem dX7_add_31 : decode cX7_add 31 = .ok (.bastore, 1) := by decide +kernel
theorem dX7_add_32 : decode cX7_add 32 = .ok (.aload_n 0, 1) := by decide +kernel
theorem dX7_add_33 : decode cX7_add 33 = .ok (.dup, 1) := by decide +kernel
theorem dX7_add_34 : decode cX7_add 34 = .ok (.getfield 19, 3) := by decide +kernel
theorem dX7_add_37 : decode cX7_add 37 = .ok (.iconst 1, 1) := by decide +kernel
theorem dX7_add_38 : decode cX7_add 38 = .ok (.iadd, 1) := by decide +kernel
theorem dX7_add_39 : decode cX7_add 39 = .ok (.putfield 19, 3) := by decide +kernel
theorem dX7_add_42 : decode cX7_add 42 = .ok (.aload_n 0, 1) := by decide +kernel
theorem dX7_add_43 : decode cX7_add 43 = .ok (.getfield 19, 3) := by decide +kernel
theorem dX7_add_46 : decode cX7_add 46 = .ok (.ireturn, 1) := by decide +kernel
theorem dX7_clear_0 : decode cX7_clear 0 = .ok (.aload_n 0, 1) := by decide +kernel
theorem dX7_clear_1 : decode cX7_clear 1 = .ok (.getfield 19, 3) := by decide +kernel
theorem dX7_clear_4 : decode cX7_clear 4 = .ok (.istore_n 1, 1) := by decide +kernel
theorem dX7_clear_5 : decode cX7_clear 5 = .ok (.aload_n 0, 1) := by decide +kernel
theorem dX7_clear_6 : decode cX7_clear 6 = .ok (.iconst 0, 1) := by decide +kernel
theorem dX7_clear_7 : decode cX7_clear 7 = .ok (.putfield 19, 3) := by decide +kernel
theorem dX7_clear_10 : decode cX7_clear 10 = .ok (.iload_n 1, 1) := by decide +kernel
theorem dX7_clear_11 : decode cX7_clear 11 = .ok (.ireturn, 1) := by decide +kernel
theorem dX7_howMany_0 : decode cX7_howMany 0 = .ok (.iconst 0, 1) := by decide +kernel
theorem dX7_howMany_1 : decode cX7_howMany 1 = .ok (.istore_n 1, 1) := by decide +kernel
theorem dX7_howMany_2 : decode cX7_howMany 2 = .ok (.iconst 0, 1) := by decide +kernel
theorem dX7_howMany_3 : decode cX7_howMany 3 = .ok (.istore_n 2, 1) := by decide +kernel
theorem dX7_howMany_4 : decode cX7_howMany 4 = .ok (.iload_n 2, 1) := by decide +kernel
theorem dX7_howMany_5 : decode cX7_howMany 5 = .ok (.iconst 4, 1) := by decide +kernel
theorem dX7_howMany_6 : decode cX7_howMany 6 = .ok (.if_icmp .ge 38, 3) := by decide +kernel
theorem dX7_howMany_9 : decode cX7_howMany 9 = .ok (.iconst 1, 1) := by decide +kernel
theorem dX7_howMany_10 : decode cX7_howMany 10 = .ok (.istore_n 3, 1) := by decide +kernel
theorem dX7_howMany_11 : decode cX7_howMany 11 = .ok (.iload_n 3, 1) := by decide +kernel
theorem dX7_howMany_12 : decode cX7_howMany 12 = .ok (.bipush 9, 2) := by decide +kernel
theorem dX7_howMany_14 : decode cX7_howMany 14 = .ok (.if_icmp .gt 24, 3) := by decide +kernel
theorem dX7_howMany_17 : decode cX7_howMany 17 = .ok (.aload_n 0, 1) := by decide +kernel
theorem dX7_howMany_18 : decode cX7_howMany 18 = .ok (.iload_n 3, 1) := by decide +kernel
theorem dX7_howMany_19 : decode cX7_howMany 19 = .ok (.iload_n 2, 1) := by decide +kernel
theorem dX7_howMany_20 : decode cX7_howMany 20 = .ok (.invokestatic 23, 3) := by decide +kernel
theorem dX7_howMany_23 : decode cX7_howMany 23 = .ok (.invokevirtual 27, 3) := by decide +kernel
theorem dX7_howMany_26 : decode cX7_howMany 26 = .ok (.ifCond .eq 6, 3) := by decide +kernel
theorem dX7_howMany_29 : decode cX7_howMany 29 = .ok (.iinc 1 1, 3) := by decide +kernel
theorem dX7_howMany_32 : decode cX7_howMany 32 = .ok (.iinc 3 1, 3) := by decide +kernel
theorem dX7_howMany_35 : decode cX7_howMany 35 = .ok (.goto (-24), 3) := by decide +kernel
theorem dX7_howMany_38 : decode cX7_howMany 38 = .ok (.iinc 2 1, 3) := by decide +kernel
theorem dX7_howMany_41 : decode cX7_howMany 41 = .ok (.goto (-37), 3) := by decide +kernel
theorem dX7_howMany_44 : decode cX7_howMany 44 = .ok (.iload_n 1, 1) := by decide +kernel
theorem dX7_howMany_45 : decode cX7_howMany 45 = .ok (.ireturn, 1) := by decide +kernel
theorem dX7_first_0 : decode cX7_first 0 = .ok (.iconst 0, 1) := by decide +kernel
theorem dX7_first_1 : decode cX7_first 1 = .ok (.istore_n 1, 1) := by decide +kernel
theorem dX7_first_2 : decode cX7_first 2 = .ok (.iload_n 1, 1) := by decide +kernel
theorem dX7_first_3 : decode cX7_first 3 = .ok (.iconst 4, 1) := by decide +kernel
theorem dX7_first_4 : decode cX7_first 4 = .ok (.if_icmp .ge 42, 3) := by decide +kernel
theorem dX7_first_7 : decode cX7_first 7 = .ok (.iconst 1, 1) := by decide +kernel
theorem dX7_first_8 : decode cX7_first 8 = .ok (.istore_n 2, 1) := by decide +kernel
theorem dX7_first_9 : decode cX7_first 9 = .ok (.iload_n 2, 1) := by decide +kernel
theorem dX7_first_10 : decode cX7_first 10 = .ok (.bipush 9, 2) := by decide +kernel
theorem dX7_first_12 : decode cX7_first 12 = .ok (.if_icmp .gt 28, 3) := by decide +kernel
theorem dX7_first_15 : decode cX7_first 15 = .ok (.aload_n 0, 1) := by decide +kernel
theorem dX7_first_16 : decode cX7_first 16 = .ok (.iload_n 2, 1) := by decide +kernel
theorem dX7_first_17 : decode cX7_first 17 = .ok (.iload_n 1, 1) := by decide +kernel
theorem dX7_first_18 : decode cX7_first 18 = .ok (.invokestatic 23, 3) := by decide +kernel
theorem dX7_first_21 : decode cX7_first 21 = .ok (.invokevirtual 27, 3) := by decide +kernel
theorem dX7_first_24 : decode cX7_first 24 = .ok (.ifCond .eq 10, 3) := by decide +kernel
theorem dX7_first_27 : decode cX7_first 27 = .ok (.bipush 10, 2) := by decide +kernel
theorem dX7_first_29 : decode cX7_first 29 = .ok (.iload_n 1, 1) := by decide +kernel
theorem dX7_first_30 : decode cX7_first 30 = .ok (.imul, 1) := by decide +kernel
theorem dX7_first_31 : decode cX7_first 31 = .ok (.iload_n 2, 1) := by decide +kernel
theorem dX7_first_32 : decode cX7_first 32 = .ok (.iadd, 1) := by decide +kernel
theorem dX7_first_33 : decode cX7_first 33 = .ok (.ireturn, 1) := by decide +kernel
theorem dX7_first_34 : decode cX7_first 34 = .ok (.iinc 2 1, 3) := by decide +kernel
theorem dX7_first_37 : decode cX7_first 37 = .ok (.goto (-28), 3) := by decide +kernel
theorem dX7_first_40 : decode cX7_first 40 = .ok (.iinc 1 1, 3) := by decide +kernel
theorem dX7_first_43 : decode cX7_first 43 = .ok (.goto (-41), 3) := by decide +kernel
theorem dX7_first_46 : decode cX7_first 46 = .ok (.bipush (-9), 2) := by decide +kernel
theorem dX7_first_48 : decode cX7_first 48 = .ok (.ireturn, 1) := by decide +kernel
end
section
theorem dX7_fits_0 : decode cX7_fits 0 = .ok (.iconst 0, 1) := by decide +kernel
theorem dX7_fits_1 : decode cX7_fits 1 = .ok (.istore_n 2, 1) := by decide +kernel
theorem dX7_fits_2 : decode cX7_fits 2 = .ok (.iload_n 2, 1) := by decide +kernel
theorem dX7_fits_3 : decode cX7_fits 3 = .ok (.aload_n 0, 1) := by decide +kernel
theorem dX7_fits_4 : decode cX7_fits 4 = .ok (.getfield 19, 3) := by decide +kernel
theorem dX7_fits_7 : decode cX7_fits 7 = .ok (.if_icmp .ge 35, 3) := by decide +kernel
theorem dX7_fits_10 : decode cX7_fits 10 = .ok (.aload_n 0, 1) := by decide +kernel
theorem dX7_fits_11 : decode cX7_fits 11 = .ok (.getfield 9, 3) := by decide +kernel
theorem dX7_fits_14 : decode cX7_fits 14 = .ok (.iload_n 2, 1) := by decide +kernel
theorem dX7_fits_15 : decode cX7_fits 15 = .ok (.iaload, 1) := by decide +kernel
theorem dX7_fits_16 : decode cX7_fits 16 = .ok (.iload_n 1, 1) := by decide +kernel
theorem dX7_fits_17 : decode cX7_fits 17 = .ok (.if_icmp .lt 7, 3) := by decide +kernel
theorem dX7_fits_20 : decode cX7_fits 20 = .ok (.iconst 1, 1) := by decide +kernel
theorem dX7_fits_21 : decode cX7_fits 21 = .ok (.goto 4, 3) := by decide +kernel
theorem dX7_fits_24 : decode cX7_fits 24 = .ok (.iconst 0, 1) := by decide +kernel
theorem dX7_fits_25 : decode cX7_fits 25 = .ok (.aload_n 0, 1) := by decide +kernel
theorem dX7_fits_26 : decode cX7_fits 26 = .ok (.getfield 15, 3) := by decide +kernel
theorem dX7_fits_29 : decode cX7_fits 29 = .ok (.iload_n 2, 1) := by decide +kernel
theorem dX7_fits_30 : decode cX7_fits 30 = .ok (.baload, 1) := by decide +kernel
theorem dX7_fits_31 : decode cX7_fits 31 = .ok (.if_icmp .eq 5, 3) := by decide +kernel
theorem dX7_fits_34 : decode cX7_fits 34 = .ok (.iconst 0, 1) := by decide +kernel
theorem dX7_fits_35 : decode cX7_fits 35 = .ok (.ireturn, 1) := by decide +kernel
theorem dX7_fits_36 : decode cX7_fits 36 = .ok (.iinc 2 1, 3) := by decide +kernel
theorem dX7_fits_39 : decode cX7_fits 39 = .ok (.goto (-37), 3) := by decide +kernel
theorem dX7_fits_42 : decode cX7_fits 42 = .ok (.iconst 1, 1) := by decide +kernel
theorem dX7_fits_43 : decode cX7_fits 43 = .ok (.ireturn, 1) := by decide +kernel
theorem dX8_init_0 : decode cX8_init 0 = .ok (.aload_n 0, 1) := by decide +kernel
theorem dX8_init_1 : decode cX8_init 1 = .ok (.invokespecial 1, 3) := by decide +kernel
theorem dX8_init_4 : decode cX8_init 4 = .ok (.aload_n 0, 1) := by decide +kernel
theorem dX8_init_5 : decode cX8_init 5 = .ok (.new 7, 3) := by decide +kernel
theorem dX8_init_8 : decode cX8_init 8 = .ok (.dup, 1) := by decide +kernel
theorem dX8_init_9 : decode cX8_init 9 = .ok (.invokespecial 9, 3) := by decide +kernel
theorem dX8_init_12 : decode cX8_init 12 = .ok (.putfield 10, 3) := by decide +kernel
theorem dX8_init_15 : decode cX8_init 15 = .ok (.aload_n 0, 1) := by decide +kernel
theorem dX8_init_16 : decode cX8_init 16 = .ok (.new 16, 3) := by decide +kernel
theorem dX8_init_19 : decode cX8_init 19 = .ok (.dup, 1) := by decide +kernel
theorem dX8_init_20 : decode cX8_init 20 = .ok (.invokespecial 18, 3) := by decide +kernel
theorem dX8_init_23 : decode cX8_init 23 = .ok (.putfield 19, 3) := by decide +kernel
theorem dX8_init_26 : decode cX8_init 26 = .ok (.aload_n 0, 1) := by decide +kernel
theorem dX8_init_27 : decode cX8_init 27 = .ok (.new 23, 3) := by decide +kernel
theorem dX8_init_30 : decode cX8_init 30 = .ok (.dup, 1) := by decide +kernel
theorem dX8_init_31 : decode cX8_init 31 = .ok (.aload_n 0, 1) := by decide +kernel
theorem dX8_init_32 : decode cX8_init 32 = .ok (.getfield 19, 3) := by decide +kernel
theorem dX8_init_35 : decode cX8_init 35 = .ok (.invokespecial 25, 3) := by decide +kernel
theorem dX8_init_38 : decode cX8_init 38 = .ok (.putfield 28, 3) := by decide +kernel
theorem dX8_init_41 : decode cX8_init 41 = .ok (.aload_n 0, 1) := by decide +kernel
theorem dX8_init_42 : decode cX8_init 42 = .ok (.new 32, 3) := by decide +kernel
theorem dX8_init_45 : decode cX8_init 45 = .ok (.dup, 1) := by decide +kernel
theorem dX8_init_46 : decode cX8_init 46 = .ok (.aload_n 0, 1) := by decide +kernel
theorem dX8_init_47 : decode cX8_init 47 = .ok (.getfield 19, 3) := by decide +kernel
theorem dX8_init_50 : decode cX8_init 50 = .ok (.aload_n 0, 1) := by decide +kernel
theorem dX8_init_51 : decode cX8_init 51 = .ok (.getfield 28, 3) := by decide +kernel
theorem dX8_init_54 : decode cX8_init 54 = .ok (.invokespecial 34, 3) := by decide +kernel
theorem dX8_init_57 : decode cX8_init 57 = .ok (.putfield 37, 3) := by decide +kernel
theorem dX8_init_60 : decode cX8_init 60 = .ok (.aload_n 0, 1) := by decide +kernel
theorem dX8_init_61 : decode cX8_init 61 = .ok (.new 41, 3) := by decide +kernel
theorem dX8_init_64 : decode cX8_init 64 = .ok (.dup, 1) := by decide +kernel
theorem dX8_init_65 : decode cX8_init 65 = .ok (.invokespecial 43, 3) := by decide +kernel
theorem dX8_init_68 : decode cX8_init 68 = .ok (.putfield 44, 3) := by decide +kernel
theorem dX8_init_71 : decode cX8_init 71 = .ok (.aload_n 0, 1) := by decide +kernel
theorem dX8_init_72 : decode cX8_init 72 = .ok (.new 48, 3) := by decide +kernel
theorem dX8_init_75 : decode cX8_init 75 = .ok (.dup, 1) := by decide +kernel
theorem dX8_init_76 : decode cX8_init 76 = .ok (.iconst 2, 1) := by decide +kernel
theorem dX8_init_77 : decode cX8_init 77 = .ok (.invokespecial 50, 3) := by decide +kernel
theorem dX8_init_80 : decode cX8_init 80 = .ok (.putfield 53, 3) := by decide +kernel
theorem dX8_init_83 : decode cX8_init 83 = .ok (.aload_n 0, 1) := by decide +kernel
theorem dX8_init_84 : decode cX8_init 84 = .ok (.iconst 2, 1) := by decide +kernel
theorem dX8_init_85 : decode cX8_init 85 = .ok (.newarray .boolean, 2) := by decide +kernel
theorem dX8_init_87 : decode cX8_init 87 = .ok (.putfield 57, 3) := by decide +kernel
theorem dX8_init_90 : decode cX8_init 90 = .ok (.aload_n 0, 1) := by decide +kernel
theorem dX8_init_91 : decode cX8_init 91 = .ok (.new 61, 3) := by decide +kernel
theorem dX8_init_94 : decode cX8_init 94 = .ok (.dup, 1) := by decide +kernel
theorem dX8_init_95 : decode cX8_init 95 = .ok (.invokespecial 63, 3) := by decide +kernel
theorem dX8_init_98 : decode cX8_init 98 = .ok (.putfield 64, 3) := by decide +kernel
theorem dX8_init_101 : decode cX8_init 101 = .ok (.aload_n 0, 1) := by decide +kernel
theorem dX8_init_102 : decode cX8_init 102 = .ok (.new 68, 3) := by decide +kernel
theorem dX8_init_105 : decode cX8_init 105 = .ok (.dup, 1) := by decide +kernel
theorem dX8_init_106 : decode cX8_init 106 = .ok (.invokespecial 70, 3) := by decide +kernel
theorem dX8_init_109 : decode cX8_init 109 = .ok (.putfield 71, 3) := by decide +kernel
theorem dX8_init_112 : decode cX8_init 112 = .ok (.return_, 1) := by decide +kernel
theorem dX8_write_0 : decode cX8_write 0 = .ok (.iload_n 1, 1) := by decide +kernel
theorem dX8_write_1 : decode cX8_write 1 = .ok (.ifCond .lt 10, 3) := by decide +kernel
theorem dX8_write_4 : decode cX8_write 4 = .ok (.iload_n 1, 1) := by decide +kernel
theorem dX8_write_5 : decode cX8_write 5 = .ok (.sipush 255, 3) := by decide +kernel
theorem dX8_write_8 : decode cX8_write 8 = .ok (.if_icmp .le 6, 3) := by decide +kernel
theorem dX8_write_11 : decode cX8_write 11 = .ok (.bipush (-2), 2) := by decide +kernel
theorem dX8_write_13 : decode cX8_write 13 = .ok (.ireturn, 1) := by decide +kernel
theorem dX8_write_14 : decode cX8_write 14 = .ok (.aload_n 0, 1) := by decide +kernel
theorem dX8_write_15 : decode cX8_write 15 = .ok (.getfield 10, 3) := by decide +kernel
theorem dX8_write_18 : decode cX8_write 18 = .ok (.iload_n 1, 1) := by decide +kernel
theorem dX8_write_19 : decode cX8_write 19 = .ok (.invokevirtual 75, 3) := by decide +kernel
theorem dX8_write_22 : decode cX8_write 22 = .ok (.ireturn, 1) := by decide +kernel
theorem dX8_wipe_0 : decode cX8_wipe 0 = .ok (.aload_n 0, 1) := by decide +kernel
theorem dX8_wipe_1 : decode cX8_wipe 1 = .ok (.getfield 10, 3) := by decide +kernel
theorem dX8_wipe_4 : decode cX8_wipe 4 = .ok (.invokevirtual 79, 3) := by decide +kernel
theorem dX8_wipe_7 : decode cX8_wipe 7 = .ok (.ireturn, 1) := by decide +kernel
theorem dX8_fault_0 : decode cX8_fault 0 = .ok (.aload_n 0, 1) := by decide +kernel
theorem dX8_fault_1 : decode cX8_fault 1 = .ok (.getfield 10, 3) := by decide +kernel
theorem dX8_fault_4 : decode cX8_fault 4 = .ok (.invokevirtual 83, 3) := by decide +kernel
theorem dX8_fault_7 : decode cX8_fault 7 = .ok (.ireturn, 1) := by decide +kernel
theorem dX8_room_0 : decode cX8_room 0 = .ok (.aload_n 0, 1) := by decide +kernel
theorem dX8_room_1 : decode cX8_room 1 = .ok (.getfield 10, 3) := by decide +kernel
theorem dX8_room_4 : decode cX8_room 4 = .ok (.invokevirtual 83, 3) := by decide +kernel
theorem dX8_room_7 : decode cX8_room 7 = .ok (.bipush (-9), 2) := by decide +kernel
theorem dX8_room_9 : decode cX8_room 9 = .ok (.if_icmp .eq 6, 3) := by decide +kernel
theorem dX8_room_12 : decode cX8_room 12 = .ok (.bipush (-3), 2) := by decide +kernel
theorem dX8_room_14 : decode cX8_room 14 = .ok (.ireturn, 1) := by decide +kernel
theorem dX8_room_15 : decode cX8_room 15 = .ok (.aload_n 0, 1) := by decide +kernel
theorem dX8_room_16 : decode cX8_room 16 = .ok (.getfield 10, 3) := by decide +kernel
theorem dX8_room_19 : decode cX8_room 19 = .ok (.aload_n 0, 1) := by decide +kernel
theorem dX8_room_20 : decode cX8_room 20 = .ok (.getfield 19, 3) := by decide +kernel
theorem dX8_room_23 : decode cX8_room 23 = .ok (.invokevirtual 86, 3) := by decide +kernel
theorem dX8_room_26 : decode cX8_room 26 = .ok (.pop, 1) := by decide +kernel
theorem dX8_room_27 : decode cX8_room 27 = .ok (.aload_n 0, 1) := by decide +kernel
theorem dX8_room_28 : decode cX8_room 28 = .ok (.getfield 28, 3) := by decide +kernel
theorem dX8_room_31 : decode cX8_room 31 = .ok (.invokevirtual 90, 3) := by decide +kernel
theorem dX8_room_34 : decode cX8_room 34 = .ok (.aload_n 0, 1) := by decide +kernel
theorem dX8_room_35 : decode cX8_room 35 = .ok (.getfield 44, 3) := by decide +kernel
theorem dX8_room_38 : decode cX8_room 38 = .ok (.invokevirtual 93, 3) := by decide +kernel
theorem dX8_room_41 : decode cX8_room 41 = .ok (.iconst 0, 1) := by decide +kernel
theorem dX8_room_42 : decode cX8_room 42 = .ok (.istore_n 1, 1) := by decide +kernel
theorem dX8_room_43 : decode cX8_room 43 = .ok (.iload_n 1, 1) := by decide +kernel
theorem dX8_room_44 : decode cX8_room 44 = .ok (.iconst 2, 1) := by decide +kernel
theorem dX8_room_45 : decode cX8_room 45 = .ok (.if_icmp .ge 16, 3) := by decide +kernel
theorem dX8_room_48 : decode cX8_room 48 = .ok (.aload_n 0, 1) := by decide +kernel
theorem dX8_room_49 : decode cX8_room 49 = .ok (.getfield 57, 3) := by decide +kernel
theorem dX8_room_52 : decode cX8_room 52 = .ok (.iload_n 1, 1) := by decide +kernel
theorem dX8_room_53 : decode cX8_room 53 = .ok (.iconst 0, 1) := by decide +kernel
theorem dX8_room_54 : decode cX8_room 54 = .ok (.bastore, 1) := by decide +kernel
theorem dX8_room_55 : decode cX8_room 55 = .ok (.iinc 1 1, 3) := by decide +kernel
theorem dX8_room_58 : decode cX8_room 58 = .ok (.goto (-15), 3) := by decide +kernel
theorem dX8_room_61 : decode cX8_room 61 = .ok (.bipush 10, 2) := by decide +kernel
theorem dX8_room_63 : decode cX8_room 63 = .ok (.aload_n 0, 1) := by decide +kernel
theorem dX8_room_64 : decode cX8_room 64 = .ok (.getfield 19, 3) := by decide +kernel
theorem dX8_room_67 : decode cX8_room 67 = .ok (.getfield 95, 3) := by decide +kernel
theorem dX8_room_70 : decode cX8_room 70 = .ok (.imul, 1) := by decide +kernel
theorem dX8_room_71 : decode cX8_room 71 = .ok (.aload_n 0, 1) := by decide +kernel
theorem dX8_room_72 : decode cX8_room 72 = .ok (.getfield 19, 3) := by decide +kernel
theorem dX8_room_75 : decode cX8_room 75 = .ok (.getfield 99, 3) := by decide +kernel
theorem dX8_room_78 : decode cX8_room 78 = .ok (.iadd, 1) := by decide +kernel
theorem dX8_room_79 : decode cX8_room 79 = .ok (.ireturn, 1) := by decide +kernel
theorem dX8_about_0 : decode cX8_about 0 = .ok (.iload_n 1, 1) := by decide +kernel
theorem dX8_about_1 : decode cX8_about 1 = .ok (.tableswitch 163 0 11 #[63, 71, 79, 87, 95, 104, 113, 122, 131, 139, 147, 155], 63) := by decide +kernel
theorem dX8_about_64 : decode cX8_about 64 = .ok (.aload_n 0, 1) := by decide +kernel
theorem dX8_about_65 : decode cX8_about 65 = .ok (.getfield 19, 3) := by decide +kernel
theorem dX8_about_68 : decode cX8_about 68 = .ok (.getfield 95, 3) := by decide +kernel
theorem dX8_about_71 : decode cX8_about 71 = .ok (.ireturn, 1) := by decide +kernel
theorem dX8_about_72 : decode cX8_about 72 = .ok (.aload_n 0, 1) := by decide +kernel
theorem dX8_about_73 : decode cX8_about 73 = .ok (.getfield 19, 3) := by decide +kernel
theorem dX8_about_76 : decode cX8_about 76 = .ok (.getfield 99, 3) := by decide +kernel
theorem dX8_about_79 : decode cX8_about 79 = .ok (.ireturn, 1) := by decide +kernel
theorem dX8_about_80 : decode cX8_about 80 = .ok (.aload_n 0, 1) := by decide +kernel
theorem dX8_about_81 : decode cX8_about 81 = .ok (.getfield 28, 3) := by decide +kernel
theorem dX8_about_84 : decode cX8_about 84 = .ok (.invokevirtual 102, 3) := by decide +kernel
theorem dX8_about_87 : decode cX8_about 87 = .ok (.ireturn, 1) := by decide +kernel
theorem dX8_about_88 : decode cX8_about 88 = .ok (.aload_n 0, 1) := by decide +kernel
theorem dX8_about_89 : decode cX8_about 89 = .ok (.getfield 28, 3) := by decide +kernel
theorem dX8_about_92 : decode cX8_about 92 = .ok (.invokevirtual 105, 3) := by decide +kernel
theorem dX8_about_95 : decode cX8_about 95 = .ok (.ireturn, 1) := by decide +kernel
theorem dX8_about_96 : decode cX8_about 96 = .ok (.aload_n 0, 1) := by decide +kernel
theorem dX8_about_97 : decode cX8_about 97 = .ok (.getfield 28, 3) := by decide +kernel
theorem dX8_about_100 : decode cX8_about 100 = .ok (.iconst 0, 1) := by decide +kernel
theorem dX8_about_101 : decode cX8_about 101 = .ok (.invokevirtual 108, 3) := by decide +kernel
theorem dX8_about_104 : decode cX8_about 104 = .ok (.ireturn, 1) := by decide +kernel
theorem dX8_about_105 : decode cX8_about 105 = .ok (.aload_n 0, 1) := by decide +kernel
theorem dX8_about_106 : decode cX8_about 106 = .ok (.getfield 28, 3) := by decide +kernel
theorem dX8_about_109 : decode cX8_about 109 = .ok (.iconst 1, 1) := by decide +kernel
theorem dX8_about_110 : decode cX8_about 110 = .ok (.invokevirtual 108, 3) := by decide +kernel
theorem dX8_about_113 : decode cX8_about 113 = .ok (.ireturn, 1) := by decide +kernel
theorem dX8_about_114 : decode cX8_about 114 = .ok (.aload_n 0, 1) := by decide +kernel
theorem dX8_about_115 : decode cX8_about 115 = .ok (.getfield 28, 3) := by decide +kernel
theorem dX8_about_118 : decode cX8_about 118 = .ok (.iconst 2, 1) := by decide +kernel
theorem dX8_about_119 : decode cX8_about 119 = .ok (.invokevirtual 108, 3) := by decide +kernel
theorem dX8_about_122 : decode cX8_about 122 = .ok (.ireturn, 1) := by decide +kernel
theorem dX8_about_123 : decode cX8_about 123 = .ok (.aload_n 0, 1) := by decide +kernel
theorem dX8_about_124 : decode cX8_about 124 = .ok (.getfield 28, 3) := by decide +kernel
theorem dX8_about_127 : decode cX8_about 127 = .ok (.iconst 3, 1) := by decide +kernel
theorem dX8_about_128 : decode cX8_about 128 = .ok (.invokevirtual 108, 3) := by decide +kernel
theorem dX8_about_131 : decode cX8_about 131 = .ok (.ireturn, 1) := by decide +kernel
theorem dX8_about_132 : decode cX8_about 132 = .ok (.aload_n 0, 1) := by decide +kernel
theorem dX8_about_133 : decode cX8_about 133 = .ok (.getfield 28, 3) := by decide +kernel
theorem dX8_about_136 : decode cX8_about 136 = .ok (.invokevirtual 111, 3) := by decide +kernel
theorem dX8_about_139 : decode cX8_about 139 = .ok (.ireturn, 1) := by decide +kernel
theorem dX8_about_140 : decode cX8_about 140 = .ok (.aload_n 0, 1) := by decide +kernel
theorem dX8_about_141 : decode cX8_about 141 = .ok (.getfield 44, 3) := by decide +kernel
theorem dX8_about_144 : decode cX8_about 144 = .ok (.getfield 114, 3) := by decide +kernel
theorem dX8_about_147 : decode cX8_about 147 = .ok (.ireturn, 1) := by decide +kernel
theorem dX8_about_148 : decode cX8_about 148 = .ok (.aload_n 0, 1) := by decide +kernel
theorem dX8_about_149 : decode cX8_about 149 = .ok (.getfield 64, 3) := by decide +kernel
theorem dX8_about_152 : decode cX8_about 152 = .ok (.getfield 117, 3) := by decide +kernel
theorem dX8_about_155 : decode cX8_about 155 = .ok (.ireturn, 1) := by decide +kernel
theorem dX8_about_156 : decode cX8_about 156 = .ok (.aload_n 0, 1) := by decide +kernel
theorem dX8_about_157 : decode cX8_about 157 = .ok (.getfield 10, 3) := by decide +kernel
theorem dX8_about_160 : decode cX8_about 160 = .ok (.getfield 118, 3) := by decide +kernel
theorem dX8_about_163 : decode cX8_about 163 = .ok (.ireturn, 1) := by decide +kernel
theorem dX8_about_164 : decode cX8_about 164 = .ok (.bipush (-2), 2) := by decide +kernel
theorem dX8_about_166 : decode cX8_about 166 = .ok (.ireturn, 1) := by decide +kernel
theorem dX8_letter_0 : decode cX8_letter 0 = .ok (.aload_n 0, 1) := by decide +kernel
theorem dX8_letter_1 : decode cX8_letter 1 = .ok (.getfield 19, 3) := by decide +kernel
theorem dX8_letter_4 : decode cX8_letter 4 = .ok (.iload_n 1, 1) := by decide +kernel
theorem dX8_letter_5 : decode cX8_letter 5 = .ok (.invokevirtual 121, 3) := by decide +kernel
theorem dX8_letter_8 : decode cX8_letter 8 = .ok (.ifCond .ne 5, 3) := by decide +kernel
theorem dX8_letter_11 : decode cX8_letter 11 = .ok (.iconst (-1), 1) := by decide +kernel
theorem dX8_letter_12 : decode cX8_letter 12 = .ok (.ireturn, 1) := by decide +kernel
theorem dX8_letter_13 : decode cX8_letter 13 = .ok (.iload_n 2, 1) := by decide +kernel
theorem dX8_letter_14 : decode cX8_letter 14 = .ok (.tableswitch 110 0 5 #[38, 47, 57, 67, 76, 85], 38) := by decide +kernel
theorem dX8_letter_52 : decode cX8_letter 52 = .ok (.aload_n 0, 1) := by decide +kernel
theorem dX8_letter_53 : decode cX8_letter 53 = .ok (.getfield 28, 3) := by decide +kernel
theorem dX8_letter_56 : decode cX8_letter 56 = .ok (.iload_n 1, 1) := by decide +kernel
theorem dX8_letter_57 : decode cX8_letter 57 = .ok (.invokevirtual 125, 3) := by decide +kernel
theorem dX8_letter_60 : decode cX8_letter 60 = .ok (.ireturn, 1) := by decide +kernel
theorem dX8_letter_61 : decode cX8_letter 61 = .ok (.aload_n 0, 1) := by decide +kernel
theorem dX8_letter_62 : decode cX8_letter 62 = .ok (.getfield 19, 3) := by decide +kernel
theorem dX8_letter_65 : decode cX8_letter 65 = .ok (.getfield 128, 3) := by decide +kernel
theorem dX8_letter_68 : decode cX8_letter 68 = .ok (.iload_n 1, 1) := by decide +kernel
theorem dX8_letter_69 : decode cX8_letter 69 = .ok (.iaload, 1) := by decide +kernel
theorem dX8_letter_70 : decode cX8_letter 70 = .ok (.ireturn, 1) := by decide +kernel
theorem dX8_letter_71 : decode cX8_letter 71 = .ok (.aload_n 0, 1) := by decide +kernel
theorem dX8_letter_72 : decode cX8_letter 72 = .ok (.getfield 19, 3) := by decide +kernel
theorem dX8_letter_75 : decode cX8_letter 75 = .ok (.getfield 132, 3) := by decide +kernel
theorem dX8_letter_78 : decode cX8_letter 78 = .ok (.iload_n 1, 1) := by decide +kernel
theorem dX8_letter_79 : decode cX8_letter 79 = .ok (.iaload, 1) := by decide +kernel
theorem dX8_letter_80 : decode cX8_letter 80 = .ok (.ireturn, 1) := by decide +kernel
theorem dX8_letter_81 : decode cX8_letter 81 = .ok (.aload_n 0, 1) := by decide +kernel
theorem dX8_letter_82 : decode cX8_letter 82 = .ok (.getfield 28, 3) := by decide +kernel
theorem dX8_letter_85 : decode cX8_letter 85 = .ok (.iload_n 1, 1) := by decide +kernel
theorem dX8_letter_86 : decode cX8_letter 86 = .ok (.invokevirtual 135, 3) := by decide +kernel
theorem dX8_letter_89 : decode cX8_letter 89 = .ok (.ireturn, 1) := by decide +kernel
theorem dX8_letter_90 : decode cX8_letter 90 = .ok (.aload_n 0, 1) := by decide +kernel
theorem dX8_letter_91 : decode cX8_letter 91 = .ok (.getfield 28, 3) := by decide +kernel
theorem dX8_letter_94 : decode cX8_letter 94 = .ok (.iload_n 1, 1) := by decide +kernel
theorem dX8_letter_95 : decode cX8_letter 95 = .ok (.invokevirtual 138, 3) := by decide +kernel
theorem dX8_letter_98 : decode cX8_letter 98 = .ok (.ireturn, 1) := by decide +kernel
theorem dX8_letter_99 : decode cX8_letter 99 = .ok (.aload_n 0, 1) := by decide +kernel
theorem dX8_letter_100 : decode cX8_letter 100 = .ok (.getfield 28, 3) := by decide +kernel
theorem dX8_letter_103 : decode cX8_letter 103 = .ok (.iload_n 1, 1) := by decide +kernel
theorem dX8_letter_104 : decode cX8_letter 104 = .ok (.invokevirtual 135, 3) := by decide +kernel
theorem dX8_letter_107 : decode cX8_letter 107 = .ok (.ifCond .ne 14, 3) := by decide +kernel
theorem dX8_letter_110 : decode cX8_letter 110 = .ok (.aload_n 0, 1) := by decide +kernel
theorem dX8_letter_111 : decode cX8_letter 111 = .ok (.getfield 28, 3) := by decide +kernel
theorem dX8_letter_114 : decode cX8_letter 114 = .ok (.iload_n 1, 1) := by decide +kernel
theorem dX8_letter_115 : decode cX8_letter 115 = .ok (.invokevirtual 141, 3) := by decide +kernel
theorem dX8_letter_118 : decode cX8_letter 118 = .ok (.goto 5, 3) := by decide +kernel
theorem dX8_letter_121 : decode cX8_letter 121 = .ok (.bipush (-9), 2) := by decide +kernel
theorem dX8_letter_123 : decode cX8_letter 123 = .ok (.ireturn, 1) := by decide +kernel
theorem dX8_letter_124 : decode cX8_letter 124 = .ok (.bipush (-2), 2) := by decide +kernel
theorem dX8_letter_126 : decode cX8_letter 126 = .ok (.ireturn, 1) := by decide +kernel
theorem dX8_clerk_0 : decode cX8_clerk 0 = .ok (.aload_n 0, 1) := by decide +kernel
theorem dX8_clerk_1 : decode cX8_clerk 1 = .ok (.getfield 19, 3) := by decide +kernel
theorem dX8_clerk_4 : decode cX8_clerk 4 = .ok (.iload_n 1, 1) := by decide +kernel
theorem dX8_clerk_5 : decode cX8_clerk 5 = .ok (.invokevirtual 144, 3) := by decide +kernel
theorem dX8_clerk_8 : decode cX8_clerk 8 = .ok (.ifCond .ne 5, 3) := by decide +kernel
theorem dX8_clerk_11 : decode cX8_clerk 11 = .ok (.iconst (-1), 1) := by decide +kernel
theorem dX8_clerk_12 : decode cX8_clerk 12 = .ok (.ireturn, 1) := by decide +kernel
theorem dX8_clerk_13 : decode cX8_clerk 13 = .ok (.iload_n 2, 1) := by decide +kernel
theorem dX8_clerk_14 : decode cX8_clerk 14 = .ok (.lookupswitch 45 #[(0, 26), (1, 35)], 26) := by decide +kernel
theorem dX8_clerk_40 : decode cX8_clerk 40 = .ok (.aload_n 0, 1) := by decide +kernel
theorem dX8_clerk_41 : decode cX8_clerk 41 = .ok (.getfield 28, 3) := by decide +kernel
theorem dX8_clerk_44 : decode cX8_clerk 44 = .ok (.iload_n 1, 1) := by decide +kernel
theorem dX8_clerk_45 : decode cX8_clerk 45 = .ok (.invokevirtual 147, 3) := by decide +kernel
theorem dX8_clerk_48 : decode cX8_clerk 48 = .ok (.ireturn, 1) := by decide +kernel
theorem dX8_clerk_49 : decode cX8_clerk 49 = .ok (.aload_n 0, 1) := by decide +kernel
theorem dX8_clerk_50 : decode cX8_clerk 50 = .ok (.getfield 19, 3) := by decide +kernel
theorem dX8_clerk_53 : decode cX8_clerk 53 = .ok (.getfield 150, 3) := by decide +kernel
theorem dX8_clerk_56 : decode cX8_clerk 56 = .ok (.iload_n 1, 1) := by decide +kernel
theorem dX8_clerk_57 : decode cX8_clerk 57 = .ok (.iaload, 1) := by decide +kernel
theorem dX8_clerk_58 : decode cX8_clerk 58 = .ok (.ireturn, 1) := by decide +kernel
theorem dX8_clerk_59 : decode cX8_clerk 59 = .ok (.bipush (-2), 2) := by decide +kernel
theorem dX8_clerk_61 : decode cX8_clerk 61 = .ok (.ireturn, 1) := by decide +kernel
theorem dX8_hole_0 : decode cX8_hole 0 = .ok (.iload_n 1, 1) := by decide +kernel
theorem dX8_hole_1 : decode cX8_hole 1 = .ok (.invokestatic 153, 3) := by decide +kernel
theorem dX8_hole_4 : decode cX8_hole 4 = .ok (.ifCond .eq 14, 3) := by decide +kernel
theorem dX8_hole_7 : decode cX8_hole 7 = .ok (.aload_n 0, 1) := by decide +kernel
theorem dX8_hole_8 : decode cX8_hole 8 = .ok (.getfield 28, 3) := by decide +kernel
theorem dX8_hole_11 : decode cX8_hole 11 = .ok (.iload_n 1, 1) := by decide +kernel
theorem dX8_hole_12 : decode cX8_hole 12 = .ok (.invokevirtual 156, 3) := by decide +kernel
theorem dX8_hole_15 : decode cX8_hole 15 = .ok (.goto 4, 3) := by decide +kernel
theorem dX8_hole_18 : decode cX8_hole 18 = .ok (.iconst (-1), 1) := by decide +kernel
theorem dX8_hole_19 : decode cX8_hole 19 = .ok (.ireturn, 1) := by decide +kernel
theorem dX8_day_0 : decode cX8_day 0 = .ok (.aload_n 0, 1) := by decide +kernel
theorem dX8_day_1 : decode cX8_day 1 = .ok (.getfield 44, 3) := by decide +kernel
theorem dX8_day_4 : decode cX8_day 4 = .ok (.aload_n 0, 1) := by decide +kernel
theorem dX8_day_5 : decode cX8_day 5 = .ok (.getfield 28, 3) := by decide +kernel
theorem dX8_day_8 : decode cX8_day 8 = .ok (.invokevirtual 159, 3) := by decide +kernel
theorem dX8_day_11 : decode cX8_day 11 = .ok (.aload_n 0, 1) := by decide +kernel
theorem dX8_day_12 : decode cX8_day 12 = .ok (.getfield 28, 3) := by decide +kernel
theorem dX8_day_15 : decode cX8_day 15 = .ok (.invokevirtual 163, 3) := by decide +kernel
theorem dX8_day_18 : decode cX8_day 18 = .ok (.ireturn, 1) := by decide +kernel
theorem dX8_put_0 : decode cX8_put 0 = .ok (.aload_n 0, 1) := by decide +kernel
theorem dX8_put_1 : decode cX8_put 1 = .ok (.getfield 19, 3) := by decide +kernel
theorem dX8_put_4 : decode cX8_put 4 = .ok (.iload_n 1, 1) := by decide +kernel
theorem dX8_put_5 : decode cX8_put 5 = .ok (.invokevirtual 121, 3) := by decide +kernel
theorem dX8_put_8 : decode cX8_put 8 = .ok (.ifCond .eq 10, 3) := by decide +kernel
theorem dX8_put_11 : decode cX8_put 11 = .ok (.iload_n 2, 1) := by decide +kernel
theorem dX8_put_12 : decode cX8_put 12 = .ok (.invokestatic 153, 3) := by decide +kernel
theorem dX8_put_15 : decode cX8_put 15 = .ok (.ifCond .ne 5, 3) := by decide +kernel
theorem dX8_put_18 : decode cX8_put 18 = .ok (.iconst (-1), 1) := by decide +kernel
theorem dX8_put_19 : decode cX8_put 19 = .ok (.ireturn, 1) := by decide +kernel
theorem dX8_put_20 : decode cX8_put 20 = .ok (.aload_n 0, 1) := by decide +kernel
theorem dX8_put_21 : decode cX8_put 21 = .ok (.getfield 28, 3) := by decide +kernel
theorem dX8_put_24 : decode cX8_put 24 = .ok (.iload_n 1, 1) := by decide +kernel
theorem dX8_put_25 : decode cX8_put 25 = .ok (.iload_n 2, 1) := by decide +kernel
theorem dX8_put_26 : decode cX8_put 26 = .ok (.invokevirtual 166, 3) := by decide +kernel
theorem dX8_put_29 : decode cX8_put 29 = .ok (.ifCond .ne 6, 3) := by decide +kernel
theorem dX8_put_32 : decode cX8_put 32 = .ok (.bipush (-3), 2) := by decide +kernel
theorem dX8_put_34 : decode cX8_put 34 = .ok (.ireturn, 1) := by decide +kernel
theorem dX8_put_35 : decode cX8_put 35 = .ok (.aload_n 0, 1) := by decide +kernel
theorem dX8_put_36 : decode cX8_put 36 = .ok (.getfield 28, 3) := by decide +kernel
theorem dX8_put_39 : decode cX8_put 39 = .ok (.iload_n 1, 1) := by decide +kernel
theorem dX8_put_40 : decode cX8_put 40 = .ok (.invokevirtual 125, 3) := by decide +kernel
theorem dX8_put_43 : decode cX8_put 43 = .ok (.istore_n 3, 1) := by decide +kernel
theorem dX8_put_44 : decode cX8_put 44 = .ok (.aload_n 0, 1) := by decide +kernel
theorem dX8_put_45 : decode cX8_put 45 = .ok (.getfield 44, 3) := by decide +kernel
theorem dX8_put_48 : decode cX8_put 48 = .ok (.aload_n 0, 1) := by decide +kernel
theorem dX8_put_49 : decode cX8_put 49 = .ok (.getfield 28, 3) := by decide +kernel
theorem dX8_put_52 : decode cX8_put 52 = .ok (.invokevirtual 159, 3) := by decide +kernel
theorem dX8_put_55 : decode cX8_put 55 = .ok (.aload_n 0, 1) := by decide +kernel
theorem dX8_put_56 : decode cX8_put 56 = .ok (.getfield 28, 3) := by decide +kernel
theorem dX8_put_59 : decode cX8_put 59 = .ok (.iload_n 1, 1) := by decide +kernel
theorem dX8_put_60 : decode cX8_put 60 = .ok (.iload_n 2, 1) := by decide +kernel
theorem dX8_put_61 : decode cX8_put 61 = .ok (.invokevirtual 170, 3) := by decide +kernel
theorem dX8_put_64 : decode cX8_put 64 = .ok (.iload_n 3, 1) := by decide +kernel
theorem dX8_put_65 : decode cX8_put 65 = .ok (.ireturn, 1) := by decide +kernel
theorem dX8_feed_0 : decode cX8_feed 0 = .ok (.iload_n 1, 1) := by decide +kernel
theorem dX8_feed_1 : decode cX8_feed 1 = .ok (.iconst 1, 1) := by decide +kernel
theorem dX8_feed_2 : decode cX8_feed 2 = .ok (.if_icmp .lt 9, 3) := by decide +kernel
theorem dX8_feed_5 : decode cX8_feed 5 = .ok (.iload_n 1, 1) := by decide +kernel
theorem dX8_feed_6 : decode cX8_feed 6 = .ok (.bipush 9, 2) := by decide +kernel
theorem dX8_feed_8 : decode cX8_feed 8 = .ok (.if_icmp .le 6, 3) := by decide +kernel
theorem dX8_feed_11 : decode cX8_feed 11 = .ok (.bipush (-2), 2) := by decide +kernel
theorem dX8_feed_13 : decode cX8_feed 13 = .ok (.ireturn, 1) := by decide +kernel
theorem dX8_feed_14 : decode cX8_feed 14 = .ok (.aload_n 0, 1) := by decide +kernel
theorem dX8_feed_15 : decode cX8_feed 15 = .ok (.getfield 44, 3) := by decide +kernel
theorem dX8_feed_18 : decode cX8_feed 18 = .ok (.aload_n 0, 1) := by decide +kernel
theorem dX8_feed_19 : decode cX8_feed 19 = .ok (.getfield 28, 3) := by decide +kernel
theorem dX8_feed_22 : decode cX8_feed 22 = .ok (.invokevirtual 159, 3) := by decide +kernel
theorem dX8_feed_25 : decode cX8_feed 25 = .ok (.aload_n 0, 1) := by decide +kernel
theorem dX8_feed_26 : decode cX8_feed 26 = .ok (.getfield 28, 3) := by decide +kernel
theorem dX8_feed_29 : decode cX8_feed 29 = .ok (.iload_n 1, 1) := by decide +kernel
theorem dX8_feed_30 : decode cX8_feed 30 = .ok (.invokevirtual 174, 3) := by decide +kernel
theorem dX8_feed_33 : decode cX8_feed 33 = .ok (.aload_n 0, 1) := by decide +kernel
theorem dX8_feed_34 : decode cX8_feed 34 = .ok (.getfield 28, 3) := by decide +kernel
theorem dX8_feed_37 : decode cX8_feed 37 = .ok (.invokevirtual 105, 3) := by decide +kernel
theorem dX8_feed_40 : decode cX8_feed 40 = .ok (.ireturn, 1) := by decide +kernel
theorem dX8_send_0 : decode cX8_send 0 = .ok (.aload_n 0, 1) := by decide +kernel
theorem dX8_send_1 : decode cX8_send 1 = .ok (.getfield 19, 3) := by decide +kernel
theorem dX8_send_4 : decode cX8_send 4 = .ok (.iload_n 1, 1) := by decide +kernel
theorem dX8_send_5 : decode cX8_send 5 = .ok (.invokevirtual 144, 3) := by decide +kernel
theorem dX8_send_8 : decode cX8_send 8 = .ok (.ifCond .eq 10, 3) := by decide +kernel
theorem dX8_send_11 : decode cX8_send 11 = .ok (.iload_n 2, 1) := by decide +kernel
theorem dX8_send_12 : decode cX8_send 12 = .ok (.invokestatic 177, 3) := by decide +kernel
theorem dX8_send_15 : decode cX8_send 15 = .ok (.ifCond .ne 5, 3) := by decide +kernel
theorem dX8_send_18 : decode cX8_send 18 = .ok (.iconst (-1), 1) := by decide +kernel
theorem dX8_send_19 : decode cX8_send 19 = .ok (.ireturn, 1) := by decide +kernel
theorem dX8_send_20 : decode cX8_send 20 = .ok (.aload_n 0, 1) := by decide +kernel
theorem dX8_send_21 : decode cX8_send 21 = .ok (.getfield 28, 3) := by decide +kernel
theorem dX8_send_24 : decode cX8_send 24 = .ok (.iload_n 1, 1) := by decide +kernel
theorem dX8_send_25 : decode cX8_send 25 = .ok (.iload_n 2, 1) := by decide +kernel
theorem dX8_send_26 : decode cX8_send 26 = .ok (.invokevirtual 180, 3) := by decide +kernel
theorem dX8_send_29 : decode cX8_send 29 = .ok (.ifCond .ne 6, 3) := by decide +kernel
theorem dX8_send_32 : decode cX8_send 32 = .ok (.bipush (-3), 2) := by decide +kernel
theorem dX8_send_34 : decode cX8_send 34 = .ok (.ireturn, 1) := by decide +kernel
theorem dX8_send_35 : decode cX8_send 35 = .ok (.aload_n 0, 1) := by decide +kernel
theorem dX8_send_36 : decode cX8_send 36 = .ok (.getfield 28, 3) := by decide +kernel
theorem dX8_send_39 : decode cX8_send 39 = .ok (.iload_n 1, 1) := by decide +kernel
theorem dX8_send_40 : decode cX8_send 40 = .ok (.invokevirtual 147, 3) := by decide +kernel
theorem dX8_send_43 : decode cX8_send 43 = .ok (.istore_n 3, 1) := by decide +kernel
theorem dX8_send_44 : decode cX8_send 44 = .ok (.aload_n 0, 1) := by decide +kernel
theorem dX8_send_45 : decode cX8_send 45 = .ok (.getfield 44, 3) := by decide +kernel
theorem dX8_send_48 : decode cX8_send 48 = .ok (.aload_n 0, 1) := by decide +kernel
theorem dX8_send_49 : decode cX8_send 49 = .ok (.getfield 28, 3) := by decide +kernel
theorem dX8_send_52 : decode cX8_send 52 = .ok (.invokevirtual 159, 3) := by decide +kernel
theorem dX8_send_55 : decode cX8_send 55 = .ok (.aload_n 0, 1) := by decide +kernel
theorem dX8_send_56 : decode cX8_send 56 = .ok (.getfield 28, 3) := by decide +kernel
theorem dX8_send_59 : decode cX8_send 59 = .ok (.iload_n 1, 1) := by decide +kernel
theorem dX8_send_60 : decode cX8_send 60 = .ok (.iload_n 2, 1) := by decide +kernel
theorem dX8_send_61 : decode cX8_send 61 = .ok (.invokevirtual 183, 3) := by decide +kernel
theorem dX8_send_64 : decode cX8_send 64 = .ok (.iload_n 3, 1) := by decide +kernel
theorem dX8_send_65 : decode cX8_send 65 = .ok (.ireturn, 1) := by decide +kernel
theorem dX8_undo_0 : decode cX8_undo 0 = .ok (.aload_n 0, 1) := by decide +kernel
theorem dX8_undo_1 : decode cX8_undo 1 = .ok (.getfield 44, 3) := by decide +kernel
theorem dX8_undo_4 : decode cX8_undo 4 = .ok (.getfield 114, 3) := by decide +kernel
theorem dX8_undo_7 : decode cX8_undo 7 = .ok (.ifCond .ne 6, 3) := by decide +kernel
theorem dX8_undo_10 : decode cX8_undo 10 = .ok (.bipush (-3), 2) := by decide +kernel
theorem dX8_undo_12 : decode cX8_undo 12 = .ok (.ireturn, 1) := by decide +kernel
theorem dX8_undo_13 : decode cX8_undo 13 = .ok (.aload_n 0, 1) := by decide +kernel
theorem dX8_undo_14 : decode cX8_undo 14 = .ok (.getfield 44, 3) := by decide +kernel
theorem dX8_undo_17 : decode cX8_undo 17 = .ok (.aload_n 0, 1) := by decide +kernel
theorem dX8_undo_18 : decode cX8_undo 18 = .ok (.getfield 28, 3) := by decide +kernel
theorem dX8_undo_21 : decode cX8_undo 21 = .ok (.invokevirtual 186, 3) := by decide +kernel
theorem dX8_undo_24 : decode cX8_undo 24 = .ok (.aload_n 0, 1) := by decide +kernel
theorem dX8_undo_25 : decode cX8_undo 25 = .ok (.getfield 44, 3) := by decide +kernel
theorem dX8_undo_28 : decode cX8_undo 28 = .ok (.getfield 114, 3) := by decide +kernel
theorem dX8_undo_31 : decode cX8_undo 31 = .ok (.ireturn, 1) := by decide +kernel
theorem dX8_ahead_0 : decode cX8_ahead 0 = .ok (.iload_n 1, 1) := by decide +kernel
theorem dX8_ahead_1 : decode cX8_ahead 1 = .ok (.ifCond .lt 18, 3) := by decide +kernel
theorem dX8_ahead_4 : decode cX8_ahead 4 = .ok (.iload_n 1, 1) := by decide +kernel
theorem dX8_ahead_5 : decode cX8_ahead 5 = .ok (.bipush 20, 2) := by decide +kernel
theorem dX8_ahead_7 : decode cX8_ahead 7 = .ok (.if_icmp .gt 12, 3) := by decide +kernel
theorem dX8_ahead_10 : decode cX8_ahead 10 = .ok (.iload_n 2, 1) := by decide +kernel
theorem dX8_ahead_11 : decode cX8_ahead 11 = .ok (.ifCond .lt 8, 3) := by decide +kernel
theorem dX8_ahead_14 : decode cX8_ahead 14 = .ok (.iload_n 2, 1) := by decide +kernel
theorem dX8_ahead_15 : decode cX8_ahead 15 = .ok (.iconst 4, 1) := by decide +kernel
theorem dX8_ahead_16 : decode cX8_ahead 16 = .ok (.if_icmp .lt 6, 3) := by decide +kernel
theorem dX8_ahead_19 : decode cX8_ahead 19 = .ok (.bipush (-2), 2) := by decide +kernel
theorem dX8_ahead_21 : decode cX8_ahead 21 = .ok (.ireturn, 1) := by decide +kernel
theorem dX8_ahead_22 : decode cX8_ahead 22 = .ok (.aload_n 0, 1) := by decide +kernel
theorem dX8_ahead_23 : decode cX8_ahead 23 = .ok (.getfield 37, 3) := by decide +kernel
theorem dX8_ahead_26 : decode cX8_ahead 26 = .ok (.iload_n 1, 1) := by decide +kernel
theorem dX8_ahead_27 : decode cX8_ahead 27 = .ok (.iload_n 2, 1) := by decide +kernel
theorem dX8_ahead_28 : decode cX8_ahead 28 = .ok (.invokevirtual 189, 3) := by decide +kernel
theorem dX8_ahead_31 : decode cX8_ahead 31 = .ok (.ireturn, 1) := by decide +kernel
theorem dX8_hatches_0 : decode cX8_hatches 0 = .ok (.aload_n 0, 1) := by decide +kernel
theorem dX8_hatches_1 : decode cX8_hatches 1 = .ok (.getfield 19, 3) := by decide +kernel
theorem dX8_hatches_4 : decode cX8_hatches 4 = .ok (.iload_n 1, 1) := by decide +kernel
theorem dX8_hatches_5 : decode cX8_hatches 5 = .ok (.invokevirtual 121, 3) := by decide +kernel
theorem dX8_hatches_8 : decode cX8_hatches 8 = .ok (.ifCond .ne 5, 3) := by decide +kernel
theorem dX8_hatches_11 : decode cX8_hatches 11 = .ok (.iconst (-1), 1) := by decide +kernel
theorem dX8_hatches_12 : decode cX8_hatches 12 = .ok (.ireturn, 1) := by decide +kernel
theorem dX8_hatches_13 : decode cX8_hatches 13 = .ok (.aload_n 0, 1) := by decide +kernel
theorem dX8_hatches_14 : decode cX8_hatches 14 = .ok (.getfield 37, 3) := by decide +kernel
theorem dX8_hatches_17 : decode cX8_hatches 17 = .ok (.iload_n 1, 1) := by decide +kernel
theorem dX8_hatches_18 : decode cX8_hatches 18 = .ok (.aload_n 0, 1) := by decide +kernel
theorem dX8_hatches_19 : decode cX8_hatches 19 = .ok (.getfield 28, 3) := by decide +kernel
theorem dX8_hatches_22 : decode cX8_hatches 22 = .ok (.iload_n 1, 1) := by decide +kernel
theorem dX8_hatches_23 : decode cX8_hatches 23 = .ok (.invokevirtual 125, 3) := by decide +kernel
theorem dX8_hatches_26 : decode cX8_hatches 26 = .ok (.invokevirtual 193, 3) := by decide +kernel
theorem dX8_hatches_29 : decode cX8_hatches 29 = .ok (.istore_n 2, 1) := by decide +kernel
theorem dX8_hatches_30 : decode cX8_hatches 30 = .ok (.iload_n 2, 1) := by decide +kernel
theorem dX8_hatches_31 : decode cX8_hatches 31 = .ok (.bipush 20, 2) := by decide +kernel
theorem dX8_hatches_33 : decode cX8_hatches 33 = .ok (.if_icmp .le 8, 3) := by decide +kernel
theorem dX8_hatches_36 : decode cX8_hatches 36 = .ok (.bipush (-9), 2) := by decide +kernel
theorem dX8_hatches_38 : decode cX8_hatches 38 = .ok (.goto 4, 3) := by decide +kernel
theorem dX8_hatches_41 : decode cX8_hatches 41 = .ok (.iload_n 2, 1) := by decide +kernel
theorem dX8_hatches_42 : decode cX8_hatches 42 = .ok (.ireturn, 1) := by decide +kernel
theorem dX8_rows_0 : decode cX8_rows 0 = .ok (.aload_n 0, 1) := by decide +kernel
theorem dX8_rows_1 : decode cX8_rows 1 = .ok (.getfield 37, 3) := by decide +kernel
theorem dX8_rows_4 : decode cX8_rows 4 = .ok (.iload_n 1, 1) := by decide +kernel
theorem dX8_rows_5 : decode cX8_rows 5 = .ok (.invokevirtual 196, 3) := by decide +kernel
theorem dX8_rows_8 : decode cX8_rows 8 = .ok (.ireturn, 1) := by decide +kernel
theorem dX8_saved_0 : decode cX8_saved 0 = .ok (.aload_n 0, 1) := by decide +kernel
theorem dX8_saved_1 : decode cX8_saved 1 = .ok (.getfield 19, 3) := by decide +kernel
theorem dX8_saved_4 : decode cX8_saved 4 = .ok (.iload_n 1, 1) := by decide +kernel
theorem dX8_saved_5 : decode cX8_saved 5 = .ok (.invokevirtual 121, 3) := by decide +kernel
theorem dX8_saved_8 : decode cX8_saved 8 = .ok (.ifCond .ne 5, 3) := by decide +kernel
theorem dX8_saved_11 : decode cX8_saved 11 = .ok (.iconst (-1), 1) := by decide +kernel
theorem dX8_saved_12 : decode cX8_saved 12 = .ok (.ireturn, 1) := by decide +kernel
theorem dX8_saved_13 : decode cX8_saved 13 = .ok (.aload_n 0, 1) := by decide +kernel
theorem dX8_saved_14 : decode cX8_saved 14 = .ok (.getfield 28, 3) := by decide +kernel
theorem dX8_saved_17 : decode cX8_saved 17 = .ok (.iload_n 1, 1) := by decide +kernel
theorem dX8_saved_18 : decode cX8_saved 18 = .ok (.invokevirtual 135, 3) := by decide +kernel
theorem dX8_saved_21 : decode cX8_saved 21 = .ok (.ifCond .eq 6, 3) := by decide +kernel
theorem dX8_saved_24 : decode cX8_saved 24 = .ok (.bipush (-3), 2) := by decide +kernel
theorem dX8_saved_26 : decode cX8_saved 26 = .ok (.ireturn, 1) := by decide +kernel
theorem dX8_saved_27 : decode cX8_saved 27 = .ok (.aload_n 0, 1) := by decide +kernel
theorem dX8_saved_28 : decode cX8_saved 28 = .ok (.getfield 37, 3) := by decide +kernel
theorem dX8_saved_31 : decode cX8_saved 31 = .ok (.iload_n 1, 1) := by decide +kernel
theorem dX8_saved_32 : decode cX8_saved 32 = .ok (.invokevirtual 200, 3) := by decide +kernel
theorem dX8_saved_35 : decode cX8_saved 35 = .ok (.ireturn, 1) := by decide +kernel
theorem dX8_quiet_0 : decode cX8_quiet 0 = .ok (.aload_n 0, 1) := by decide +kernel
theorem dX8_quiet_1 : decode cX8_quiet 1 = .ok (.getfield 37, 3) := by decide +kernel
theorem dX8_quiet_4 : decode cX8_quiet 4 = .ok (.invokevirtual 203, 3) := by decide +kernel
theorem dX8_quiet_7 : decode cX8_quiet 7 = .ok (.ireturn, 1) := by decide +kernel
theorem dX8_judge_0 : decode cX8_judge 0 = .ok (.iload_n 1, 1) := by decide +kernel
theorem dX8_judge_1 : decode cX8_judge 1 = .ok (.iconst 1, 1) := by decide +kernel
theorem dX8_judge_2 : decode cX8_judge 2 = .ok (.if_icmp .lt 14, 3) := by decide +kernel
theorem dX8_judge_5 : decode cX8_judge 5 = .ok (.iload_n 1, 1) := by decide +kernel
theorem dX8_judge_6 : decode cX8_judge 6 = .ok (.iconst 4, 1) := by decide +kernel
theorem dX8_judge_7 : decode cX8_judge 7 = .ok (.if_icmp .gt 9, 3) := by decide +kernel
theorem dX8_judge_10 : decode cX8_judge 10 = .ok (.lload_n 2, 1) := by decide +kernel
theorem dX8_judge_11 : decode cX8_judge 11 = .ok (.lconst 0, 1) := by decide +kernel
theorem dX8_judge_12 : decode cX8_judge 12 = .ok (.lcmp, 1) := by decide +kernel
theorem dX8_judge_13 : decode cX8_judge 13 = .ok (.ifCond .ge 6, 3) := by decide +kernel
theorem dX8_judge_16 : decode cX8_judge 16 = .ok (.bipush (-2), 2) := by decide +kernel
theorem dX8_judge_18 : decode cX8_judge 18 = .ok (.ireturn, 1) := by decide +kernel
theorem dX8_judge_19 : decode cX8_judge 19 = .ok (.aload_n 0, 1) := by decide +kernel
theorem dX8_judge_20 : decode cX8_judge 20 = .ok (.getfield 37, 3) := by decide +kernel
theorem dX8_judge_23 : decode cX8_judge 23 = .ok (.iload_n 1, 1) := by decide +kernel
theorem dX8_judge_24 : decode cX8_judge 24 = .ok (.lload_n 2, 1) := by decide +kernel
theorem dX8_judge_25 : decode cX8_judge 25 = .ok (.invokevirtual 206, 3) := by decide +kernel
theorem dX8_judge_28 : decode cX8_judge 28 = .ok (.ireturn, 1) := by decide +kernel
theorem dX8_share_0 : decode cX8_share 0 = .ok (.aload_n 0, 1) := by decide +kernel
theorem dX8_share_1 : decode cX8_share 1 = .ok (.getfield 19, 3) := by decide +kernel
theorem dX8_share_4 : decode cX8_share 4 = .ok (.iload_n 1, 1) := by decide +kernel
theorem dX8_share_5 : decode cX8_share 5 = .ok (.invokevirtual 144, 3) := by decide +kernel
theorem dX8_share_8 : decode cX8_share 8 = .ok (.ifCond .ne 5, 3) := by decide +kernel
theorem dX8_share_11 : decode cX8_share 11 = .ok (.iconst (-1), 1) := by decide +kernel
theorem dX8_share_12 : decode cX8_share 12 = .ok (.ireturn, 1) := by decide +kernel
theorem dX8_share_13 : decode cX8_share 13 = .ok (.aload_n 0, 1) := by decide +kernel
theorem dX8_share_14 : decode cX8_share 14 = .ok (.getfield 37, 3) := by decide +kernel
theorem dX8_share_17 : decode cX8_share 17 = .ok (.iload_n 1, 1) := by decide +kernel
theorem dX8_share_18 : decode cX8_share 18 = .ok (.iload_n 2, 1) := by decide +kernel
theorem dX8_share_19 : decode cX8_share 19 = .ok (.invokevirtual 210, 3) := by decide +kernel
theorem dX8_share_22 : decode cX8_share 22 = .ok (.ireturn, 1) := by decide +kernel
theorem dX8_tell_0 : decode cX8_tell 0 = .ok (.iload_n 1, 1) := by decide +kernel
theorem dX8_tell_1 : decode cX8_tell 1 = .ok (.ifCond .lt 18, 3) := by decide +kernel
theorem dX8_tell_4 : decode cX8_tell 4 = .ok (.iload_n 1, 1) := by decide +kernel
theorem dX8_tell_5 : decode cX8_tell 5 = .ok (.bipush 9, 2) := by decide +kernel
theorem dX8_tell_7 : decode cX8_tell 7 = .ok (.if_icmp .gt 12, 3) := by decide +kernel
theorem dX8_tell_10 : decode cX8_tell 10 = .ok (.iload_n 2, 1) := by decide +kernel
theorem dX8_tell_11 : decode cX8_tell 11 = .ok (.ifCond .lt 8, 3) := by decide +kernel
theorem dX8_tell_14 : decode cX8_tell 14 = .ok (.iload_n 2, 1) := by decide +kernel
theorem dX8_tell_15 : decode cX8_tell 15 = .ok (.iconst 1, 1) := by decide +kernel
theorem dX8_tell_16 : decode cX8_tell 16 = .ok (.if_icmp .le 6, 3) := by decide +kernel
theorem dX8_tell_19 : decode cX8_tell 19 = .ok (.bipush (-2), 2) := by decide +kernel
theorem dX8_tell_21 : decode cX8_tell 21 = .ok (.ireturn, 1) := by decide +kernel
theorem dX8_tell_22 : decode cX8_tell 22 = .ok (.aload_n 0, 1) := by decide +kernel
theorem dX8_tell_23 : decode cX8_tell 23 = .ok (.getfield 64, 3) := by decide +kernel
theorem dX8_tell_26 : decode cX8_tell 26 = .ok (.iload_n 1, 1) := by decide +kernel
theorem dX8_tell_27 : decode cX8_tell 27 = .ok (.iload_n 2, 1) := by decide +kernel
theorem dX8_tell_28 : decode cX8_tell 28 = .ok (.iconst 1, 1) := by decide +kernel
theorem dX8_tell_29 : decode cX8_tell 29 = .ok (.if_icmp .ne 7, 3) := by decide +kernel
theorem dX8_tell_32 : decode cX8_tell 32 = .ok (.iconst 1, 1) := by decide +kernel
theorem dX8_tell_33 : decode cX8_tell 33 = .ok (.goto 4, 3) := by decide +kernel
theorem dX8_tell_36 : decode cX8_tell 36 = .ok (.iconst 0, 1) := by decide +kernel
theorem dX8_tell_37 : decode cX8_tell 37 = .ok (.invokevirtual 214, 3) := by decide +kernel
theorem dX8_tell_40 : decode cX8_tell 40 = .ok (.ireturn, 1) := by decide +kernel
theorem dX8_untell_0 : decode cX8_untell 0 = .ok (.aload_n 0, 1) := by decide +kernel
theorem dX8_untell_1 : decode cX8_untell 1 = .ok (.getfield 64, 3) := by decide +kernel
theorem dX8_untell_4 : decode cX8_untell 4 = .ok (.invokevirtual 216, 3) := by decide +kernel
theorem dX8_untell_7 : decode cX8_untell 7 = .ok (.ireturn, 1) := by decide +kernel
theorem dX8_may_0 : decode cX8_may 0 = .ok (.iload_n 1, 1) := by decide +kernel
theorem dX8_may_1 : decode cX8_may 1 = .ok (.ifCond .lt 8, 3) := by decide +kernel
theorem dX8_may_4 : decode cX8_may 4 = .ok (.iload_n 1, 1) := by decide +kernel
theorem dX8_may_5 : decode cX8_may 5 = .ok (.iconst 1, 1) := by decide +kernel
theorem dX8_may_6 : decode cX8_may 6 = .ok (.if_icmp .le 6, 3) := by decide +kernel
theorem dX8_may_9 : decode cX8_may 9 = .ok (.bipush (-2), 2) := by decide +kernel
theorem dX8_may_11 : decode cX8_may 11 = .ok (.ireturn, 1) := by decide +kernel
theorem dX8_may_12 : decode cX8_may 12 = .ok (.iload_n 1, 1) := by decide +kernel
theorem dX8_may_13 : decode cX8_may 13 = .ok (.ifCond .ne 13, 3) := by decide +kernel
theorem dX8_may_16 : decode cX8_may 16 = .ok (.aload_n 0, 1) := by decide +kernel
theorem dX8_may_17 : decode cX8_may 17 = .ok (.getfield 64, 3) := by decide +kernel
theorem dX8_may_20 : decode cX8_may 20 = .ok (.invokevirtual 217, 3) := by decide +kernel
theorem dX8_may_23 : decode cX8_may 23 = .ok (.goto 10, 3) := by decide +kernel
theorem dX8_may_26 : decode cX8_may 26 = .ok (.aload_n 0, 1) := by decide +kernel
theorem dX8_may_27 : decode cX8_may 27 = .ok (.getfield 64, 3) := by decide +kernel
theorem dX8_may_30 : decode cX8_may 30 = .ok (.invokevirtual 220, 3) := by decide +kernel
theorem dX8_may_33 : decode cX8_may 33 = .ok (.ireturn, 1) := by decide +kernel
theorem dX8_rests_0 : decode cX8_rests 0 = .ok (.aload_n 0, 1) := by decide +kernel
theorem dX8_rests_1 : decode cX8_rests 1 = .ok (.getfield 19, 3) := by decide +kernel
theorem dX8_rests_4 : decode cX8_rests 4 = .ok (.iload_n 1, 1) := by decide +kernel
theorem dX8_rests_5 : decode cX8_rests 5 = .ok (.invokevirtual 144, 3) := by decide +kernel
theorem dX8_rests_8 : decode cX8_rests 8 = .ok (.ifCond .eq 14, 3) := by decide +kernel
theorem dX8_rests_11 : decode cX8_rests 11 = .ok (.aload_n 0, 1) := by decide +kernel
theorem dX8_rests_12 : decode cX8_rests 12 = .ok (.getfield 19, 3) := by decide +kernel
theorem dX8_rests_15 : decode cX8_rests 15 = .ok (.iload_n 2, 1) := by decide +kernel
theorem dX8_rests_16 : decode cX8_rests 16 = .ok (.invokevirtual 144, 3) := by decide +kernel
theorem dX8_rests_19 : decode cX8_rests 19 = .ok (.ifCond .ne 5, 3) := by decide +kernel
theorem dX8_rests_22 : decode cX8_rests 22 = .ok (.iconst (-1), 1) := by decide +kernel
theorem dX8_rests_23 : decode cX8_rests 23 = .ok (.ireturn, 1) := by decide +kernel
theorem dX8_rests_24 : decode cX8_rests 24 = .ok (.iload_n 1, 1) := by decide +kernel
theorem dX8_rests_25 : decode cX8_rests 25 = .ok (.iload_n 2, 1) := by decide +kernel
theorem dX8_rests_26 : decode cX8_rests 26 = .ok (.if_icmp .eq 12, 3) := by decide +kernel
theorem dX8_rests_29 : decode cX8_rests 29 = .ok (.iload_n 3, 1) := by decide +kernel
theorem dX8_rests_30 : decode cX8_rests 30 = .ok (.ifCond .lt 8, 3) := by decide +kernel
theorem dX8_rests_33 : decode cX8_rests 33 = .ok (.iload_n 3, 1) := by decide +kernel
theorem dX8_rests_34 : decode cX8_rests 34 = .ok (.iconst 1, 1) := by decide +kernel
theorem dX8_rests_35 : decode cX8_rests 35 = .ok (.if_icmp .le 6, 3) := by decide +kernel
theorem dX8_rests_38 : decode cX8_rests 38 = .ok (.bipush (-2), 2) := by decide +kernel
theorem dX8_rests_40 : decode cX8_rests 40 = .ok (.ireturn, 1) := by decide +kernel
theorem dX8_rests_41 : decode cX8_rests 41 = .ok (.aload_n 0, 1) := by decide +kernel
theorem dX8_rests_42 : decode cX8_rests 42 = .ok (.getfield 37, 3) := by decide +kernel
theorem dX8_rests_45 : decode cX8_rests 45 = .ok (.iload_n 1, 1) := by decide +kernel
theorem dX8_rests_46 : decode cX8_rests 46 = .ok (.iload_n 2, 1) := by decide +kernel
theorem dX8_rests_47 : decode cX8_rests 47 = .ok (.iload_n 3, 1) := by decide +kernel
theorem dX8_rests_48 : decode cX8_rests 48 = .ok (.iconst 1, 1) := by decide +kernel
theorem dX8_rests_49 : decode cX8_rests 49 = .ok (.if_icmp .ne 7, 3) := by decide +kernel
theorem dX8_rests_52 : decode cX8_rests 52 = .ok (.iconst 1, 1) := by decide +kernel
theorem dX8_rests_53 : decode cX8_rests 53 = .ok (.goto 4, 3) := by decide +kernel
theorem dX8_rests_56 : decode cX8_rests 56 = .ok (.iconst 0, 1) := by decide +kernel
theorem dX8_rests_57 : decode cX8_rests 57 = .ok (.invokevirtual 223, 3) := by decide +kernel
theorem dX8_rests_60 : decode cX8_rests 60 = .ok (.ireturn, 1) := by decide +kernel
theorem dX8_hawks_0 : decode cX8_hawks 0 = .ok (.iload_n 1, 1) := by decide +kernel
theorem dX8_hawks_1 : decode cX8_hawks 1 = .ok (.ifCond .lt 19, 3) := by decide +kernel
theorem dX8_hawks_4 : decode cX8_hawks 4 = .ok (.iload_n 1, 1) := by decide +kernel
theorem dX8_hawks_5 : decode cX8_hawks 5 = .ok (.bipush 6, 2) := by decide +kernel
theorem dX8_hawks_7 : decode cX8_hawks 7 = .ok (.if_icmp .gt 13, 3) := by decide +kernel
theorem dX8_hawks_10 : decode cX8_hawks 10 = .ok (.iload_n 2, 1) := by decide +kernel
theorem dX8_hawks_11 : decode cX8_hawks 11 = .ok (.ifCond .lt 9, 3) := by decide +kernel
theorem dX8_hawks_14 : decode cX8_hawks 14 = .ok (.iload_n 2, 1) := by decide +kernel
theorem dX8_hawks_15 : decode cX8_hawks 15 = .ok (.bipush 10, 2) := by decide +kernel
theorem dX8_hawks_17 : decode cX8_hawks 17 = .ok (.if_icmp .le 6, 3) := by decide +kernel
theorem dX8_hawks_20 : decode cX8_hawks 20 = .ok (.bipush (-2), 2) := by decide +kernel
theorem dX8_hawks_22 : decode cX8_hawks 22 = .ok (.ireturn, 1) := by decide +kernel
theorem dX8_hawks_23 : decode cX8_hawks 23 = .ok (.aload_n 0, 1) := by decide +kernel
theorem dX8_hawks_24 : decode cX8_hawks 24 = .ok (.getfield 71, 3) := by decide +kernel
theorem dX8_hawks_27 : decode cX8_hawks 27 = .ok (.aload_n 0, 1) := by decide +kernel
theorem dX8_hawks_28 : decode cX8_hawks 28 = .ok (.getfield 28, 3) := by decide +kernel
theorem dX8_hawks_31 : decode cX8_hawks 31 = .ok (.iconst 2, 1) := by decide +kernel
theorem dX8_hawks_32 : decode cX8_hawks 32 = .ok (.invokevirtual 108, 3) := by decide +kernel
theorem dX8_hawks_35 : decode cX8_hawks 35 = .ok (.invokestatic 227, 3) := by decide +kernel
theorem dX8_hawks_38 : decode cX8_hawks 38 = .ok (.iload_n 1, 1) := by decide +kernel
theorem dX8_hawks_39 : decode cX8_hawks 39 = .ok (.iload_n 2, 1) := by decide +kernel
theorem dX8_hawks_40 : decode cX8_hawks 40 = .ok (.iload_n 3, 1) := by decide +kernel
theorem dX8_hawks_41 : decode cX8_hawks 41 = .ok (.invokevirtual 232, 3) := by decide +kernel
theorem dX8_hawks_44 : decode cX8_hawks 44 = .ok (.ireturn, 1) := by decide +kernel
theorem dX8_seed_0 : decode cX8_seed 0 = .ok (.aload_n 0, 1) := by decide +kernel
theorem dX8_seed_1 : decode cX8_seed 1 = .ok (.getfield 236, 3) := by decide +kernel
theorem dX8_seed_4 : decode cX8_seed 4 = .ok (.lstore_n 3, 1) := by decide +kernel
theorem dX8_seed_5 : decode cX8_seed 5 = .ok (.aload_n 0, 1) := by decide +kernel
theorem dX8_seed_6 : decode cX8_seed 6 = .ok (.lload_n 1, 1) := by decide +kernel
theorem dX8_seed_7 : decode cX8_seed 7 = .ok (.putfield 236, 3) := by decide +kernel
theorem dX8_seed_10 : decode cX8_seed 10 = .ok (.lload_n 3, 1) := by decide +kernel
theorem dX8_seed_11 : decode cX8_seed 11 = .ok (.lreturn, 1) := by decide +kernel
theorem dX8_years_0 : decode cX8_years 0 = .ok (.iload_n 1, 1) := by decide +kernel
theorem dX8_years_1 : decode cX8_years 1 = .ok (.iconst 1, 1) := by decide +kernel
theorem dX8_years_2 : decode cX8_years 2 = .ok (.if_icmp .lt 9, 3) := by decide +kernel
theorem dX8_years_5 : decode cX8_years 5 = .ok (.iload_n 1, 1) := by decide +kernel
theorem dX8_years_6 : decode cX8_years 6 = .ok (.bipush 30, 2) := by decide +kernel
theorem dX8_years_8 : decode cX8_years 8 = .ok (.if_icmp .le 6, 3) := by decide +kernel
theorem dX8_years_11 : decode cX8_years 11 = .ok (.bipush (-2), 2) := by decide +kernel
theorem dX8_years_13 : decode cX8_years 13 = .ok (.ireturn, 1) := by decide +kernel
theorem dX8_years_14 : decode cX8_years 14 = .ok (.aload_n 0, 1) := by decide +kernel
theorem dX8_years_15 : decode cX8_years 15 = .ok (.getfield 37, 3) := by decide +kernel
theorem dX8_years_18 : decode cX8_years 18 = .ok (.iload_n 1, 1) := by decide +kernel
theorem dX8_years_19 : decode cX8_years 19 = .ok (.aload_n 0, 1) := by decide +kernel
theorem dX8_years_20 : decode cX8_years 20 = .ok (.getfield 236, 3) := by decide +kernel
theorem dX8_years_23 : decode cX8_years 23 = .ok (.invokevirtual 240, 3) := by decide +kernel
theorem dX8_years_26 : decode cX8_years 26 = .ok (.istore_n 2, 1) := by decide +kernel
theorem dX8_years_27 : decode cX8_years 27 = .ok (.aload_n 0, 1) := by decide +kernel
theorem dX8_years_28 : decode cX8_years 28 = .ok (.aload_n 0, 1) := by decide +kernel
theorem dX8_years_29 : decode cX8_years 29 = .ok (.getfield 37, 3) := by decide +kernel
theorem dX8_years_32 : decode cX8_years 32 = .ok (.getfield 243, 3) := by decide +kernel
theorem dX8_years_35 : decode cX8_years 35 = .ok (.putfield 236, 3) := by decide +kernel
theorem dX8_years_38 : decode cX8_years 38 = .ok (.iload_n 2, 1) := by decide +kernel
theorem dX8_years_39 : decode cX8_years 39 = .ok (.ireturn, 1) := by decide +kernel
theorem dX8_keep_0 : decode cX8_keep 0 = .ok (.iload_n 1, 1) := by decide +kernel
theorem dX8_keep_1 : decode cX8_keep 1 = .ok (.ifCond .lt 8, 3) := by decide +kernel
theorem dX8_keep_4 : decode cX8_keep 4 = .ok (.iload_n 1, 1) := by decide +kernel
theorem dX8_keep_5 : decode cX8_keep 5 = .ok (.iconst 2, 1) := by decide +kernel
theorem dX8_keep_6 : decode cX8_keep 6 = .ok (.if_icmp .lt 5, 3) := by decide +kernel
theorem dX8_keep_9 : decode cX8_keep 9 = .ok (.iconst (-1), 1) := by decide +kernel
theorem dX8_keep_10 : decode cX8_keep 10 = .ok (.ireturn, 1) := by decide +kernel
theorem dX8_keep_11 : decode cX8_keep 11 = .ok (.aload_n 0, 1) := by decide +kernel
theorem dX8_keep_12 : decode cX8_keep 12 = .ok (.getfield 53, 3) := by decide +kernel
theorem dX8_keep_15 : decode cX8_keep 15 = .ok (.iload_n 1, 1) := by decide +kernel
theorem dX8_keep_16 : decode cX8_keep 16 = .ok (.aload_n 0, 1) := by decide +kernel
theorem dX8_keep_17 : decode cX8_keep 17 = .ok (.getfield 28, 3) := by decide +kernel
theorem dX8_keep_20 : decode cX8_keep 20 = .ok (.invokevirtual 246, 3) := by decide +kernel
theorem dX8_keep_23 : decode cX8_keep 23 = .ok (.aload_n 0, 1) := by decide +kernel
theorem dX8_keep_24 : decode cX8_keep 24 = .ok (.getfield 57, 3) := by decide +kernel
theorem dX8_keep_27 : decode cX8_keep 27 = .ok (.iload_n 1, 1) := by decide +kernel
theorem dX8_keep_28 : decode cX8_keep 28 = .ok (.iconst 1, 1) := by decide +kernel
theorem dX8_keep_29 : decode cX8_keep 29 = .ok (.bastore, 1) := by decide +kernel
theorem dX8_keep_30 : decode cX8_keep 30 = .ok (.aload_n 0, 1) := by decide +kernel
theorem dX8_keep_31 : decode cX8_keep 31 = .ok (.getfield 28, 3) := by decide +kernel
theorem dX8_keep_34 : decode cX8_keep 34 = .ok (.invokevirtual 102, 3) := by decide +kernel
theorem dX8_keep_37 : decode cX8_keep 37 = .ok (.ireturn, 1) := by decide +kernel
theorem dX8_again_0 : decode cX8_again 0 = .ok (.iload_n 1, 1) := by decide +kernel
theorem dX8_again_1 : decode cX8_again 1 = .ok (.ifCond .lt 8, 3) := by decide +kernel
theorem dX8_again_4 : decode cX8_again 4 = .ok (.iload_n 1, 1) := by decide +kernel
theorem dX8_again_5 : decode cX8_again 5 = .ok (.iconst 2, 1) := by decide +kernel
theorem dX8_again_6 : decode cX8_again 6 = .ok (.if_icmp .lt 5, 3) := by decide +kernel
theorem dX8_again_9 : decode cX8_again 9 = .ok (.iconst (-1), 1) := by decide +kernel
theorem dX8_again_10 : decode cX8_again 10 = .ok (.ireturn, 1) := by decide +kernel
theorem dX8_again_11 : decode cX8_again 11 = .ok (.aload_n 0, 1) := by decide +kernel
theorem dX8_again_12 : decode cX8_again 12 = .ok (.getfield 57, 3) := by decide +kernel
theorem dX8_again_15 : decode cX8_again 15 = .ok (.iload_n 1, 1) := by decide +kernel
theorem dX8_again_16 : decode cX8_again 16 = .ok (.baload, 1) := by decide +kernel
theorem dX8_again_17 : decode cX8_again 17 = .ok (.ifCond .ne 6, 3) := by decide +kernel
theorem dX8_again_20 : decode cX8_again 20 = .ok (.bipush (-3), 2) := by decide +kernel
theorem dX8_again_22 : decode cX8_again 22 = .ok (.ireturn, 1) := by decide +kernel
theorem dX8_again_23 : decode cX8_again 23 = .ok (.aload_n 0, 1) := by decide +kernel
theorem dX8_again_24 : decode cX8_again 24 = .ok (.getfield 53, 3) := by decide +kernel
theorem dX8_again_27 : decode cX8_again 27 = .ok (.iload_n 1, 1) := by decide +kernel
theorem dX8_again_28 : decode cX8_again 28 = .ok (.aload_n 0, 1) := by decide +kernel
theorem dX8_again_29 : decode cX8_again 29 = .ok (.getfield 28, 3) := by decide +kernel
theorem dX8_again_32 : decode cX8_again 32 = .ok (.invokevirtual 250, 3) := by decide +kernel
theorem dX8_again_35 : decode cX8_again 35 = .ok (.aload_n 0, 1) := by decide +kernel
theorem dX8_again_36 : decode cX8_again 36 = .ok (.getfield 44, 3) := by decide +kernel
theorem dX8_again_39 : decode cX8_again 39 = .ok (.invokevirtual 93, 3) := by decide +kernel
theorem dX8_again_42 : decode cX8_again 42 = .ok (.aload_n 0, 1) := by decide +kernel
theorem dX8_again_43 : decode cX8_again 43 = .ok (.getfield 28, 3) := by decide +kernel
theorem dX8_again_46 : decode cX8_again 46 = .ok (.invokevirtual 102, 3) := by decide +kernel
theorem dX8_again_49 : decode cX8_again 49 = .ok (.ireturn, 1) := by decide +kernel
theorem dX8_isHole_0 : decode cX8_isHole 0 = .ok (.iload_n 0, 1) := by decide +kernel
theorem dX8_isHole_1 : decode cX8_isHole 1 = .ok (.ifCond .lt 13, 3) := by decide +kernel
theorem dX8_isHole_4 : decode cX8_isHole 4 = .ok (.iload_n 0, 1) := by decide +kernel
theorem dX8_isHole_5 : decode cX8_isHole 5 = .ok (.bipush 12, 2) := by decide +kernel
theorem dX8_isHole_7 : decode cX8_isHole 7 = .ok (.if_icmp .ge 7, 3) := by decide +kernel
theorem dX8_isHole_10 : decode cX8_isHole 10 = .ok (.iconst 1, 1) := by decide +kernel
theorem dX8_isHole_11 : decode cX8_isHole 11 = .ok (.goto 4, 3) := by decide +kernel
theorem dX8_isHole_14 : decode cX8_isHole 14 = .ok (.iconst 0, 1) := by decide +kernel
theorem dX8_isHole_15 : decode cX8_isHole 15 = .ok (.ireturn, 1) := by decide +kernel
theorem dX8_isRow_0 : decode cX8_isRow 0 = .ok (.iload_n 0, 1) := by decide +kernel
theorem dX8_isRow_1 : decode cX8_isRow 1 = .ok (.ifCond .lt 12, 3) := by decide +kernel
theorem dX8_isRow_4 : decode cX8_isRow 4 = .ok (.iload_n 0, 1) := by decide +kernel
theorem dX8_isRow_5 : decode cX8_isRow 5 = .ok (.iconst 3, 1) := by decide +kernel
theorem dX8_isRow_6 : decode cX8_isRow 6 = .ok (.if_icmp .ge 7, 3) := by decide +kernel
theorem dX8_isRow_9 : decode cX8_isRow 9 = .ok (.iconst 1, 1) := by decide +kernel
theorem dX8_isRow_10 : decode cX8_isRow 10 = .ok (.goto 4, 3) := by decide +kernel
theorem dX8_isRow_13 : decode cX8_isRow 13 = .ok (.iconst 0, 1) := by decide +kernel
theorem dX8_isRow_14 : decode cX8_isRow 14 = .ok (.ireturn, 1) := by decide +kernel
theorem dX8_waitAlone_0 : decode cX8_waitAlone 0 = .ok (.iload_n 1, 1) := by decide +kernel
theorem dX8_waitAlone_1 : decode cX8_waitAlone 1 = .ok (.iconst 2, 1) := by decide +kernel
theorem dX8_waitAlone_2 : decode cX8_waitAlone 2 = .ok (.if_icmp .ne 13, 3) := by decide +kernel
theorem dX8_waitAlone_5 : decode cX8_waitAlone 5 = .ok (.iconst 1, 1) := by decide +kernel
theorem dX8_waitAlone_6 : decode cX8_waitAlone 6 = .ok (.iload_n 0, 1) := by decide +kernel
theorem dX8_waitAlone_7 : decode cX8_waitAlone 7 = .ok (.iconst 2, 1) := by decide +kernel
theorem dX8_waitAlone_8 : decode cX8_waitAlone 8 = .ok (.idiv, 1) := by decide +kernel
theorem dX8_waitAlone_9 : decode cX8_waitAlone 9 = .ok (.invokestatic 253, 3) := by decide +kernel
theorem dX8_waitAlone_12 : decode cX8_waitAlone 12 = .ok (.goto 4, 3) := by decide +kernel
theorem dX8_waitAlone_15 : decode cX8_waitAlone 15 = .ok (.iload_n 0, 1) := by decide +kernel
theorem dX8_waitAlone_16 : decode cX8_waitAlone 16 = .ok (.ireturn, 1) := by decide +kernel
theorem dX8_part_0 : decode cX8_part 0 = .ok (.iload_n 0, 1) := by decide +kernel
theorem dX8_part_1 : decode cX8_part 1 = .ok (.invokestatic 258, 3) := by decide +kernel
theorem dX8_part_4 : decode cX8_part 4 = .ok (.istore_n 3, 1) := by decide +kernel
theorem dX8_part_5 : decode cX8_part 5 = .ok (.iload_n 1, 1) := by decide +kernel
theorem dX8_part_6 : decode cX8_part 6 = .ok (.istore 4, 2) := by decide +kernel
theorem dX8_part_8 : decode cX8_part 8 = .ok (.iconst 0, 1) := by decide +kernel
theorem dX8_part_9 : decode cX8_part 9 = .ok (.istore 5, 2) := by decide +kernel
theorem dX8_part_11 : decode cX8_part 11 = .ok (.iload 5, 2) := by decide +kernel
theorem dX8_part_13 : decode cX8_part 13 = .ok (.bipush 64, 2) := by decide +kernel
theorem dX8_part_15 : decode cX8_part 15 = .ok (.if_icmp .ge 27, 3) := by decide +kernel
theorem dX8_part_18 : decode cX8_part 18 = .ok (.iload 4, 2) := by decide +kernel
theorem dX8_part_20 : decode cX8_part 20 = .ok (.ifCond .eq 22, 3) := by decide +kernel
theorem dX8_part_23 : decode cX8_part 23 = .ok (.iload_n 3, 1) := by decide +kernel
theorem dX8_part_24 : decode cX8_part 24 = .ok (.iload 4, 2) := by decide +kernel
theorem dX8_part_26 : decode cX8_part 26 = .ok (.irem, 1) := by decide +kernel
theorem dX8_part_27 : decode cX8_part 27 = .ok (.istore 6, 2) := by decide +kernel
theorem dX8_part_29 : decode cX8_part 29 = .ok (.iload 4, 2) := by decide +kernel
theorem dX8_part_31 : decode cX8_part 31 = .ok (.istore_n 3, 1) := by decide +kernel
theorem dX8_part_32 : decode cX8_part 32 = .ok (.iload 6, 2) := by decide +kernel
theorem dX8_part_34 : decode cX8_part 34 = .ok (.istore 4, 2) := by decide +kernel
theorem dX8_part_36 : decode cX8_part 36 = .ok (.iinc 5 1, 3) := by decide +kernel
theorem dX8_part_39 : decode cX8_part 39 = .ok (.goto (-28), 3) := by decide +kernel
theorem dX8_part_42 : decode cX8_part 42 = .ok (.iload_n 3, 1) := by decide +kernel
theorem dX8_part_43 : decode cX8_part 43 = .ok (.ifCond .ne 13, 3) := by decide +kernel
theorem dX8_part_46 : decode cX8_part 46 = .ok (.iload_n 2, 1) := by decide +kernel
theorem dX8_part_47 : decode cX8_part 47 = .ok (.ifCond .eq 7, 3) := by decide +kernel
theorem dX8_part_50 : decode cX8_part 50 = .ok (.iload_n 0, 1) := by decide +kernel
theorem dX8_part_51 : decode cX8_part 51 = .ok (.goto 4, 3) := by decide +kernel
theorem dX8_part_54 : decode cX8_part 54 = .ok (.iload_n 1, 1) := by decide +kernel
theorem dX8_part_55 : decode cX8_part 55 = .ok (.ireturn, 1) := by decide +kernel
theorem dX8_part_56 : decode cX8_part 56 = .ok (.iload_n 2, 1) := by decide +kernel
theorem dX8_part_57 : decode cX8_part 57 = .ok (.ifCond .eq 7, 3) := by decide +kernel
theorem dX8_part_60 : decode cX8_part 60 = .ok (.iload_n 0, 1) := by decide +kernel
theorem dX8_part_61 : decode cX8_part 61 = .ok (.goto 4, 3) := by decide +kernel
theorem dX8_part_64 : decode cX8_part 64 = .ok (.iload_n 1, 1) := by decide +kernel
theorem dX8_part_65 : decode cX8_part 65 = .ok (.iload_n 3, 1) := by decide +kernel
theorem dX8_part_66 : decode cX8_part 66 = .ok (.idiv, 1) := by decide +kernel
theorem dX8_part_67 : decode cX8_part 67 = .ok (.ireturn, 1) := by decide +kernel
theorem dX9_init_0 : decode cX9_init 0 = .ok (.aload_n 0, 1) := by decide +kernel
theorem dX9_init_1 : decode cX9_init 1 = .ok (.invokespecial 1, 3) := by decide +kernel
theorem dX9_init_4 : decode cX9_init 4 = .ok (.aload_n 0, 1) := by decide +kernel
theorem dX9_init_5 : decode cX9_init 5 = .ok (.bipush 48, 2) := by decide +kernel
theorem dX9_init_7 : decode cX9_init 7 = .ok (.newarray .int, 2) := by decide +kernel
theorem dX9_init_9 : decode cX9_init 9 = .ok (.putfield 7, 3) := by decide +kernel
theorem dX9_init_12 : decode cX9_init 12 = .ok (.aload_n 0, 1) := by decide +kernel
theorem dX9_init_13 : decode cX9_init 13 = .ok (.bipush 6, 2) := by decide +kernel
theorem dX9_init_15 : decode cX9_init 15 = .ok (.newarray .int, 2) := by decide +kernel
theorem dX9_init_17 : decode cX9_init 17 = .ok (.putfield 13, 3) := by decide +kernel
theorem dX9_init_20 : decode cX9_init 20 = .ok (.aload_n 0, 1) := by decide +kernel
theorem dX9_init_21 : decode cX9_init 21 = .ok (.bipush 6, 2) := by decide +kernel
theorem dX9_init_23 : decode cX9_init 23 = .ok (.newarray .int, 2) := by decide +kernel
theorem dX9_init_25 : decode cX9_init 25 = .ok (.putfield 16, 3) := by decide +kernel
theorem dX9_init_28 : decode cX9_init 28 = .ok (.aload_n 0, 1) := by decide +kernel
theorem dX9_init_29 : decode cX9_init 29 = .ok (.iconst 3, 1) := by decide +kernel
theorem dX9_init_30 : decode cX9_init 30 = .ok (.newarray .int, 2) := by decide +kernel
theorem dX9_init_32 : decode cX9_init 32 = .ok (.putfield 19, 3) := by decide +kernel
theorem dX9_init_35 : decode cX9_init 35 = .ok (.aload_n 0, 1) := by decide +kernel
theorem dX9_init_36 : decode cX9_init 36 = .ok (.bipush 18, 2) := by decide +kernel
theorem dX9_init_38 : decode cX9_init 38 = .ok (.newarray .int, 2) := by decide +kernel
theorem dX9_init_40 : decode cX9_init 40 = .ok (.putfield 22, 3) := by decide +kernel
theorem dX9_init_43 : decode cX9_init 43 = .ok (.aload_n 0, 1) := by decide +kernel
theorem dX9_init_44 : decode cX9_init 44 = .ok (.bipush 6, 2) := by decide +kernel
theorem dX9_init_46 : decode cX9_init 46 = .ok (.newarray .int, 2) := by decide +kernel
theorem dX9_init_48 : decode cX9_init 48 = .ok (.putfield 25, 3) := by decide +kernel
theorem dX9_init_51 : decode cX9_init 51 = .ok (.aload_n 0, 1) := by decide +kernel
theorem dX9_init_52 : decode cX9_init 52 = .ok (.bipush 23, 2) := by decide +kernel
theorem dX9_init_54 : decode cX9_init 54 = .ok (.newarray .int, 2) := by decide +kernel
theorem dX9_init_56 : decode cX9_init 56 = .ok (.putfield 28, 3) := by decide +kernel
theorem dX9_init_59 : decode cX9_init 59 = .ok (.aload_n 0, 1) := by decide +kernel
theorem dX9_init_60 : decode cX9_init 60 = .ok (.bipush 23, 2) := by decide +kernel
theorem dX9_init_62 : decode cX9_init 62 = .ok (.newarray .int, 2) := by decide +kernel
theorem dX9_init_64 : decode cX9_init 64 = .ok (.putfield 31, 3) := by decide +kernel
theorem dX9_init_67 : decode cX9_init 67 = .ok (.aload_n 0, 1) := by decide +kernel
theorem dX9_init_68 : decode cX9_init 68 = .ok (.sipush 322, 3) := by decide +kernel
theorem dX9_init_71 : decode cX9_init 71 = .ok (.newarray .int, 2) := by decide +kernel
theorem dX9_init_73 : decode cX9_init 73 = .ok (.putfield 34, 3) := by decide +kernel
theorem dX9_init_76 : decode cX9_init 76 = .ok (.aload_n 0, 1) := by decide +kernel
theorem dX9_init_77 : decode cX9_init 77 = .ok (.bipush 46, 2) := by decide +kernel
theorem dX9_init_79 : decode cX9_init 79 = .ok (.newarray .int, 2) := by decide +kernel
theorem dX9_init_81 : decode cX9_init 81 = .ok (.putfield 37, 3) := by decide +kernel
theorem dX9_init_84 : decode cX9_init 84 = .ok (.aload_n 0, 1) := by decide +kernel
theorem dX9_init_85 : decode cX9_init 85 = .ok (.iconst 2, 1) := by decide +kernel
theorem dX9_init_86 : decode cX9_init 86 = .ok (.newarray .boolean, 2) := by decide +kernel
theorem dX9_init_88 : decode cX9_init 88 = .ok (.putfield 40, 3) := by decide +kernel
theorem dX9_init_91 : decode cX9_init 91 = .ok (.aload_n 0, 1) := by decide +kernel
theorem dX9_init_92 : decode cX9_init 92 = .ok (.bipush 6, 2) := by decide +kernel
theorem dX9_init_94 : decode cX9_init 94 = .ok (.newarray .int, 2) := by decide +kernel
theorem dX9_init_96 : decode cX9_init 96 = .ok (.putfield 44, 3) := by decide +kernel
theorem dX9_init_99 : decode cX9_init 99 = .ok (.aload_n 0, 1) := by decide +kernel
theorem dX9_init_100 : decode cX9_init 100 = .ok (.bipush 6, 2) := by decide +kernel
theorem dX9_init_102 : decode cX9_init 102 = .ok (.newarray .int, 2) := by decide +kernel
theorem dX9_init_104 : decode cX9_init 104 = .ok (.putfield 47, 3) := by decide +kernel
theorem dX9_init_107 : decode cX9_init 107 = .ok (.aload_n 0, 1) := by decide +kernel
theorem dX9_init_108 : decode cX9_init 108 = .ok (.iconst 3, 1) := by decide +kernel
theorem dX9_init_109 : decode cX9_init 109 = .ok (.newarray .int, 2) := by decide +kernel
theorem dX9_init_111 : decode cX9_init 111 = .ok (.putfield 50, 3) := by decide +kernel
theorem dX9_init_114 : decode cX9_init 114 = .ok (.aload_n 0, 1) := by decide +kernel
theorem dX9_init_115 : decode cX9_init 115 = .ok (.bipush 18, 2) := by decide +kernel
theorem dX9_init_117 : decode cX9_init 117 = .ok (.newarray .int, 2) := by decide +kernel
theorem dX9_init_119 : decode cX9_init 119 = .ok (.putfield 53, 3) := by decide +kernel
theorem dX9_init_122 : decode cX9_init 122 = .ok (.aload_n 0, 1) := by decide +kernel
theorem dX9_init_123 : decode cX9_init 123 = .ok (.bipush 8, 2) := by decide +kernel
theorem dX9_init_125 : decode cX9_init 125 = .ok (.newarray .int, 2) := by decide +kernel
theorem dX9_init_127 : decode cX9_init 127 = .ok (.putfield 56, 3) := by decide +kernel
theorem dX9_init_130 : decode cX9_init 130 = .ok (.return_, 1) := by decide +kernel
theorem dX9_in_0 : decode cX9_in 0 = .ok (.lload_n 0, 1) := by decide +kernel
theorem dX9_in_1 : decode cX9_in 1 = .ok (.lload_n 2, 1) := by decide +kernel
theorem dX9_in_2 : decode cX9_in 2 = .ok (.lcmp, 1) := by decide +kernel
theorem dX9_in_3 : decode cX9_in 3 = .ok (.ifCond .lt 14, 3) := by decide +kernel
theorem dX9_in_6 : decode cX9_in 6 = .ok (.lload_n 0, 1) := by decide +kernel
theorem dX9_in_7 : decode cX9_in 7 = .ok (.lload 4, 2) := by decide +kernel
theorem dX9_in_9 : decode cX9_in 9 = .ok (.lcmp, 1) := by decide +kernel
theorem dX9_in_10 : decode cX9_in 10 = .ok (.ifCond .gt 7, 3) := by decide +kernel
theorem dX9_in_13 : decode cX9_in 13 = .ok (.iconst 1, 1) := by decide +kernel
theorem dX9_in_14 : decode cX9_in 14 = .ok (.goto 4, 3) := by decide +kernel
theorem dX9_in_17 : decode cX9_in 17 = .ok (.iconst 0, 1) := by decide +kernel
theorem dX9_in_18 : decode cX9_in 18 = .ok (.ireturn, 1) := by decide +kernel
theorem dX9_has_0 : decode cX9_has 0 = .ok (.iload_n 0, 1) := by decide +kernel
theorem dX9_has_1 : decode cX9_has 1 = .ok (.iload_n 1, 1) := by decide +kernel
theorem dX9_has_2 : decode cX9_has 2 = .ok (.ishr, 1) := by decide +kernel
theorem dX9_has_3 : decode cX9_has 3 = .ok (.iconst 1, 1) := by decide +kernel
theorem dX9_has_4 : decode cX9_has 4 = .ok (.iand, 1) := by decide +kernel
theorem dX9_has_5 : decode cX9_has 5 = .ok (.iconst 1, 1) := by decide +kernel
theorem dX9_has_6 : decode cX9_has 6 = .ok (.if_icmp .ne 7, 3) := by decide +kernel
theorem dX9_has_9 : decode cX9_has 9 = .ok (.iconst 1, 1) := by decide +kernel
theorem dX9_has_10 : decode cX9_has 10 = .ok (.goto 4, 3) := by decide +kernel
theorem dX9_has_13 : decode cX9_has 13 = .ok (.iconst 0, 1) := by decide +kernel
theorem dX9_has_14 : decode cX9_has 14 = .ok (.ireturn, 1) := by decide +kernel
theorem dX9_many_0 : decode cX9_many 0 = .ok (.iconst 0, 1) := by decide +kernel
theorem dX9_many_1 : decode cX9_many 1 = .ok (.istore_n 1, 1) := by decide +kernel
theorem dX9_many_2 : decode cX9_many 2 = .ok (.iconst 0, 1) := by decide +kernel
theorem dX9_many_3 : decode cX9_many 3 = .ok (.istore_n 2, 1) := by decide +kernel
theorem dX9_many_4 : decode cX9_many 4 = .ok (.iload_n 2, 1) := by decide +kernel
theorem dX9_many_5 : decode cX9_many 5 = .ok (.bipush 6, 2) := by decide +kernel
theorem dX9_many_7 : decode cX9_many 7 = .ok (.if_icmp .ge 17, 3) := by decide +kernel
theorem dX9_many_10 : decode cX9_many 10 = .ok (.iload_n 1, 1) := by decide +kernel
theorem dX9_many_11 : decode cX9_many 11 = .ok (.iload_n 0, 1) := by decide +kernel
theorem dX9_many_12 : decode cX9_many 12 = .ok (.iload_n 2, 1) := by decide +kernel
theorem dX9_many_13 : decode cX9_many 13 = .ok (.ishr, 1) := by decide +kernel
theorem dX9_many_14 : decode cX9_many 14 = .ok (.iconst 1, 1) := by decide +kernel
theorem dX9_many_15 : decode cX9_many 15 = .ok (.iand, 1) := by decide +kernel
theorem dX9_many_16 : decode cX9_many 16 = .ok (.iadd, 1) := by decide +kernel
theorem dX9_many_17 : decode cX9_many 17 = .ok (.istore_n 1, 1) := by decide +kernel
theorem dX9_many_18 : decode cX9_many 18 = .ok (.iinc 2 1, 3) := by decide +kernel
theorem dX9_many_21 : decode cX9_many 21 = .ok (.goto (-17), 3) := by decide +kernel
theorem dX9_many_24 : decode cX9_many 24 = .ok (.iload_n 1, 1) := by decide +kernel
theorem dX9_many_25 : decode cX9_many 25 = .ok (.ireturn, 1) := by decide +kernel
theorem dX9_power_0 : decode cX9_power 0 = .ok (.iconst 1, 1) := by decide +kernel
theorem dX9_power_1 : decode cX9_power 1 = .ok (.istore_n 2, 1) := by decide +kernel
theorem dX9_power_2 : decode cX9_power 2 = .ok (.iconst 0, 1) := by decide +kernel
theorem dX9_power_3 : decode cX9_power 3 = .ok (.istore_n 3, 1) := by decide +kernel
theorem dX9_power_4 : decode cX9_power 4 = .ok (.iload_n 3, 1) := by decide +kernel
theorem dX9_power_5 : decode cX9_power 5 = .ok (.iload_n 1, 1) := by decide +kernel
theorem dX9_power_6 : decode cX9_power 6 = .ok (.if_icmp .ge 13, 3) := by decide +kernel
theorem dX9_power_9 : decode cX9_power 9 = .ok (.iload_n 2, 1) := by decide +kernel
theorem dX9_power_10 : decode cX9_power 10 = .ok (.iload_n 0, 1) := by decide +kernel
theorem dX9_power_11 : decode cX9_power 11 = .ok (.imul, 1) := by decide +kernel
theorem dX9_power_12 : decode cX9_power 12 = .ok (.istore_n 2, 1) := by decide +kernel
theorem dX9_power_13 : decode cX9_power 13 = .ok (.iinc 3 1, 3) := by decide +kernel
theorem dX9_power_16 : decode cX9_power 16 = .ok (.goto (-12), 3) := by decide +kernel
theorem dX9_power_19 : decode cX9_power 19 = .ok (.iload_n 2, 1) := by decide +kernel
theorem dX9_power_20 : decode cX9_power 20 = .ok (.ireturn, 1) := by decide +kernel
theorem dX9_noLetter_0 : decode cX9_noLetter 0 = .ok (.iload_n 1, 1) := by decide +kernel
theorem dX9_noLetter_1 : decode cX9_noLetter 1 = .ok (.i2l, 1) := by decide +kernel
theorem dX9_noLetter_2 : decode cX9_noLetter 2 = .ok (.lconst 0, 1) := by decide +kernel
theorem dX9_noLetter_3 : decode cX9_noLetter 3 = .ok (.aload_n 0, 1) := by decide +kernel
theorem dX9_noLetter_4 : decode cX9_noLetter 4 = .ok (.getfield 63, 3) := by decide +kernel
theorem dX9_noLetter_7 : decode cX9_noLetter 7 = .ok (.iconst 1, 1) := by decide +kernel
theorem dX9_noLetter_8 : decode cX9_noLetter 8 = .ok (.isub, 1) := by decide +kernel
theorem dX9_noLetter_9 : decode cX9_noLetter 9 = .ok (.i2l, 1) := by decide +kernel
theorem dX9_noLetter_10 : decode cX9_noLetter 10 = .ok (.invokestatic 66, 3) := by decide +kernel
theorem dX9_noLetter_13 : decode cX9_noLetter 13 = .ok (.ifCond .ne 7, 3) := by decide +kernel
theorem dX9_noLetter_16 : decode cX9_noLetter 16 = .ok (.iconst 1, 1) := by decide +kernel
theorem dX9_noLetter_17 : decode cX9_noLetter 17 = .ok (.goto 4, 3) := by decide +kernel
theorem dX9_noLetter_20 : decode cX9_noLetter 20 = .ok (.iconst 0, 1) := by decide +kernel
theorem dX9_noLetter_21 : decode cX9_noLetter 21 = .ok (.ireturn, 1) := by decide +kernel
theorem dX9_noClerk_0 : decode cX9_noClerk 0 = .ok (.iload_n 1, 1) := by decide +kernel
theorem dX9_noClerk_1 : decode cX9_noClerk 1 = .ok (.i2l, 1) := by decide +kernel
theorem dX9_noClerk_2 : decode cX9_noClerk 2 = .ok (.lconst 0, 1) := by decide +kernel
theorem dX9_noClerk_3 : decode cX9_noClerk 3 = .ok (.aload_n 0, 1) := by decide +kernel
theorem dX9_noClerk_4 : decode cX9_noClerk 4 = .ok (.getfield 70, 3) := by decide +kernel
theorem dX9_noClerk_7 : decode cX9_noClerk 7 = .ok (.iconst 1, 1) := by decide +kernel
theorem dX9_noClerk_8 : decode cX9_noClerk 8 = .ok (.isub, 1) := by decide +kernel
theorem dX9_noClerk_9 : decode cX9_noClerk 9 = .ok (.i2l, 1) := by decide +kernel
theorem dX9_noClerk_10 : decode cX9_noClerk 10 = .ok (.invokestatic 66, 3) := by decide +kernel
theorem dX9_noClerk_13 : decode cX9_noClerk 13 = .ok (.ifCond .ne 7, 3) := by decide +kernel
theorem dX9_noClerk_16 : decode cX9_noClerk 16 = .ok (.iconst 1, 1) := by decide +kernel
theorem dX9_noClerk_17 : decode cX9_noClerk 17 = .ok (.goto 4, 3) := by decide +kernel
theorem dX9_noClerk_20 : decode cX9_noClerk 20 = .ok (.iconst 0, 1) := by decide +kernel
theorem dX9_noClerk_21 : decode cX9_noClerk 21 = .ok (.ireturn, 1) := by decide +kernel
theorem dX9_write_0 : decode cX9_write 0 = .ok (.aload_n 0, 1) := by decide +kernel
theorem dX9_write_1 : decode cX9_write 1 = .ok (.iconst 0, 1) := by decide +kernel
theorem dX9_write_2 : decode cX9_write 2 = .ok (.putfield 59, 3) := by decide +kernel
theorem dX9_write_5 : decode cX9_write 5 = .ok (.iload_n 1, 1) := by decide +kernel
theorem dX9_write_6 : decode cX9_write 6 = .ok (.i2l, 1) := by decide +kernel
theorem dX9_write_7 : decode cX9_write 7 = .ok (.lconst 0, 1) := by decide +kernel
theorem dX9_write_8 : decode cX9_write 8 = .ok (.ldc2_w 73, 3) := by decide +kernel
theorem dX9_write_11 : decode cX9_write 11 = .ok (.invokestatic 66, 3) := by decide +kernel
theorem dX9_write_14 : decode cX9_write 14 = .ok (.ifCond .ne 6, 3) := by decide +kernel
theorem dX9_write_17 : decode cX9_write 17 = .ok (.bipush (-2), 2) := by decide +kernel
theorem dX9_write_19 : decode cX9_write 19 = .ok (.ireturn, 1) := by decide +kernel
theorem dX9_write_20 : decode cX9_write 20 = .ok (.aload_n 0, 1) := by decide +kernel
theorem dX9_write_21 : decode cX9_write 21 = .ok (.getfield 75, 3) := by decide +kernel
theorem dX9_write_24 : decode cX9_write 24 = .ok (.bipush 48, 2) := by decide +kernel
theorem dX9_write_26 : decode cX9_write 26 = .ok (.if_icmp .ne 6, 3) := by decide +kernel
theorem dX9_write_29 : decode cX9_write 29 = .ok (.bipush (-4), 2) := by decide +kernel
theorem dX9_write_31 : decode cX9_write 31 = .ok (.ireturn, 1) := by decide +kernel
theorem dX9_write_32 : decode cX9_write 32 = .ok (.aload_n 0, 1) := by decide +kernel
theorem dX9_write_33 : decode cX9_write 33 = .ok (.getfield 7, 3) := by decide +kernel
theorem dX9_write_36 : decode cX9_write 36 = .ok (.aload_n 0, 1) := by decide +kernel
theorem dX9_write_37 : decode cX9_write 37 = .ok (.getfield 75, 3) := by decide +kernel
theorem dX9_write_40 : decode cX9_write 40 = .ok (.iload_n 1, 1) := by decide +kernel
theorem dX9_write_41 : decode cX9_write 41 = .ok (.iastore, 1) := by decide +kernel
theorem dX9_write_42 : decode cX9_write 42 = .ok (.aload_n 0, 1) := by decide +kernel
theorem dX9_write_43 : decode cX9_write 43 = .ok (.dup, 1) := by decide +kernel
theorem dX9_write_44 : decode cX9_write 44 = .ok (.getfield 75, 3) := by decide +kernel
theorem dX9_write_47 : decode cX9_write 47 = .ok (.iconst 1, 1) := by decide +kernel
theorem dX9_write_48 : decode cX9_write 48 = .ok (.iadd, 1) := by decide +kernel
theorem dX9_write_49 : decode cX9_write 49 = .ok (.putfield 75, 3) := by decide +kernel
theorem dX9_write_52 : decode cX9_write 52 = .ok (.aload_n 0, 1) := by decide +kernel
theorem dX9_write_53 : decode cX9_write 53 = .ok (.getfield 75, 3) := by decide +kernel
theorem dX9_write_56 : decode cX9_write 56 = .ok (.ireturn, 1) := by decide +kernel
theorem dX9_wipe_0 : decode cX9_wipe 0 = .ok (.aload_n 0, 1) := by decide +kernel
theorem dX9_wipe_1 : decode cX9_wipe 1 = .ok (.iconst 0, 1) := by decide +kernel
theorem dX9_wipe_2 : decode cX9_wipe 2 = .ok (.putfield 59, 3) := by decide +kernel
theorem dX9_wipe_5 : decode cX9_wipe 5 = .ok (.aload_n 0, 1) := by decide +kernel
theorem dX9_wipe_6 : decode cX9_wipe 6 = .ok (.getfield 75, 3) := by decide +kernel
theorem dX9_wipe_9 : decode cX9_wipe 9 = .ok (.istore_n 1, 1) := by decide +kernel
theorem dX9_wipe_10 : decode cX9_wipe 10 = .ok (.aload_n 0, 1) := by decide +kernel
theorem dX9_wipe_11 : decode cX9_wipe 11 = .ok (.iconst 0, 1) := by decide +kernel
theorem dX9_wipe_12 : decode cX9_wipe 12 = .ok (.putfield 75, 3) := by decide +kernel
theorem dX9_wipe_15 : decode cX9_wipe 15 = .ok (.iload_n 1, 1) := by decide +kernel
theorem dX9_wipe_16 : decode cX9_wipe 16 = .ok (.ireturn, 1) := by decide +kernel
theorem dX9_from_0 : decode cX9_from 0 = .ok (.aload_n 0, 1) := by decide +kernel
theorem dX9_from_1 : decode cX9_from 1 = .ok (.getfield 78, 3) := by decide +kernel
theorem dX9_from_4 : decode cX9_from 4 = .ok (.aload_n 0, 1) := by decide +kernel
theorem dX9_from_5 : decode cX9_from 5 = .ok (.getfield 75, 3) := by decide +kernel
theorem dX9_from_8 : decode cX9_from 8 = .ok (.if_icmp .eq 25, 3) := by decide +kernel
theorem dX9_from_11 : decode cX9_from 11 = .ok (.aload_n 0, 1) := by decide +kernel
theorem dX9_from_12 : decode cX9_from 12 = .ok (.getfield 7, 3) := by decide +kernel
theorem dX9_from_15 : decode cX9_from 15 = .ok (.aload_n 0, 1) := by decide +kernel
theorem dX9_from_16 : decode cX9_from 16 = .ok (.getfield 78, 3) := by decide +kernel
theorem dX9_from_19 : decode cX9_from 19 = .ok (.iaload, 1) := by decide +kernel
theorem dX9_from_20 : decode cX9_from 20 = .ok (.iload_n 1, 1) := by decide +kernel
theorem dX9_from_21 : decode cX9_from 21 = .ok (.isub, 1) := by decide +kernel
theorem dX9_from_22 : decode cX9_from 22 = .ok (.i2l, 1) := by decide +kernel
theorem dX9_from_23 : decode cX9_from 23 = .ok (.iload_n 2, 1) := by decide +kernel
theorem dX9_from_24 : decode cX9_from 24 = .ok (.i2l, 1) := by decide +kernel
theorem dX9_from_25 : decode cX9_from 25 = .ok (.iload_n 3, 1) := by decide +kernel
theorem dX9_from_26 : decode cX9_from 26 = .ok (.i2l, 1) := by decide +kernel
theorem dX9_from_27 : decode cX9_from 27 = .ok (.invokestatic 66, 3) := by decide +kernel
theorem dX9_from_30 : decode cX9_from 30 = .ok (.ifCond .ne 6, 3) := by decide +kernel
theorem dX9_from_33 : decode cX9_from 33 = .ok (.bipush (-9), 2) := by decide +kernel
theorem dX9_from_35 : decode cX9_from 35 = .ok (.ireturn, 1) := by decide +kernel
theorem dX9_from_36 : decode cX9_from 36 = .ok (.aload_n 0, 1) := by decide +kernel
theorem dX9_from_37 : decode cX9_from 37 = .ok (.dup, 1) := by decide +kernel
theorem dX9_from_38 : decode cX9_from 38 = .ok (.getfield 78, 3) := by decide +kernel
theorem dX9_from_41 : decode cX9_from 41 = .ok (.iconst 1, 1) := by decide +kernel
theorem dX9_from_42 : decode cX9_from 42 = .ok (.iadd, 1) := by decide +kernel
theorem dX9_from_43 : decode cX9_from 43 = .ok (.putfield 78, 3) := by decide +kernel
theorem dX9_from_46 : decode cX9_from 46 = .ok (.aload_n 0, 1) := by decide +kernel
theorem dX9_from_47 : decode cX9_from 47 = .ok (.getfield 7, 3) := by decide +kernel
theorem dX9_from_50 : decode cX9_from 50 = .ok (.aload_n 0, 1) := by decide +kernel
theorem dX9_from_51 : decode cX9_from 51 = .ok (.getfield 78, 3) := by decide +kernel
theorem dX9_from_54 : decode cX9_from 54 = .ok (.iconst 1, 1) := by decide +kernel
theorem dX9_from_55 : decode cX9_from 55 = .ok (.isub, 1) := by decide +kernel
theorem dX9_from_56 : decode cX9_from 56 = .ok (.iaload, 1) := by decide +kernel
theorem dX9_from_57 : decode cX9_from 57 = .ok (.iload_n 1, 1) := by decide +kernel
theorem dX9_from_58 : decode cX9_from 58 = .ok (.isub, 1) := by decide +kernel
theorem dX9_from_59 : decode cX9_from 59 = .ok (.ireturn, 1) := by decide +kernel
theorem dX9_readIn_0 : decode cX9_readIn 0 = .ok (.iconst 0, 1) := by decide +kernel
theorem dX9_readIn_1 : decode cX9_readIn 1 = .ok (.istore_n 2, 1) := by decide +kernel
theorem dX9_readIn_2 : decode cX9_readIn 2 = .ok (.iconst 0, 1) := by decide +kernel
theorem dX9_readIn_3 : decode cX9_readIn 3 = .ok (.istore_n 3, 1) := by decide +kernel
theorem dX9_readIn_4 : decode cX9_readIn 4 = .ok (.iload_n 3, 1) := by decide +kernel
theorem dX9_readIn_5 : decode cX9_readIn 5 = .ok (.aload_n 0, 1) := by decide +kernel
theorem dX9_readIn_6 : decode cX9_readIn 6 = .ok (.getfield 81, 3) := by decide +kernel
theorem dX9_readIn_9 : decode cX9_readIn 9 = .ok (.if_icmp .ge 29, 3) := by decide +kernel
theorem dX9_readIn_12 : decode cX9_readIn 12 = .ok (.iload_n 2, 1) := by decide +kernel
theorem dX9_readIn_13 : decode cX9_readIn 13 = .ok (.aload_n 0, 1) := by decide +kernel
theorem dX9_readIn_14 : decode cX9_readIn 14 = .ok (.getfield 22, 3) := by decide +kernel
theorem dX9_readIn_17 : decode cX9_readIn 17 = .ok (.iconst 3, 1) := by decide +kernel
theorem dX9_readIn_18 : decode cX9_readIn 18 = .ok (.iload_n 3, 1) := by decide +kernel
theorem dX9_readIn_19 : decode cX9_readIn 19 = .ok (.imul, 1) := by decide +kernel
theorem dX9_readIn_20 : decode cX9_readIn 20 = .ok (.iaload, 1) := by decide +kernel
theorem dX9_readIn_21 : decode cX9_readIn 21 = .ok (.iload_n 1, 1) := by decide +kernel
theorem dX9_readIn_22 : decode cX9_readIn 22 = .ok (.if_icmp .ne 7, 3) := by decide +kernel
theorem dX9_readIn_25 : decode cX9_readIn 25 = .ok (.iconst 1, 1) := by decide +kernel
theorem dX9_readIn_26 : decode cX9_readIn 26 = .ok (.goto 4, 3) := by decide +kernel
theorem dX9_readIn_29 : decode cX9_readIn 29 = .ok (.iconst 0, 1) := by decide +kernel
theorem dX9_readIn_30 : decode cX9_readIn 30 = .ok (.iadd, 1) := by decide +kernel
theorem dX9_readIn_31 : decode cX9_readIn 31 = .ok (.istore_n 2, 1) := by decide +kernel
theorem dX9_readIn_32 : decode cX9_readIn 32 = .ok (.iinc 3 1, 3) := by decide +kernel
theorem dX9_readIn_35 : decode cX9_readIn 35 = .ok (.goto (-31), 3) := by decide +kernel
theorem dX9_readIn_38 : decode cX9_readIn 38 = .ok (.iload_n 2, 1) := by decide +kernel
theorem dX9_readIn_39 : decode cX9_readIn 39 = .ok (.ireturn, 1) := by decide +kernel
theorem dX9_readOneLetter_0 : decode cX9_readOneLetter 0 = .ok (.aload_n 0, 1) := by decide +kernel
theorem dX9_readOneLetter_1 : decode cX9_readOneLetter 1 = .ok (.bipush 97, 2) := by decide +kernel
theorem dX9_readOneLetter_3 : decode cX9_readOneLetter 3 = .ok (.iconst 0, 1) := by decide +kernel
theorem dX9_readOneLetter_4 : decode cX9_readOneLetter 4 = .ok (.bipush 11, 2) := by decide +kernel
theorem dX9_readOneLetter_6 : decode cX9_readOneLetter 6 = .ok (.invokevirtual 84, 3) := by decide +kernel
theorem dX9_readOneLetter_9 : decode cX9_readOneLetter 9 = .ok (.istore_n 1, 1) := by decide +kernel
theorem dX9_readOneLetter_10 : decode cX9_readOneLetter 10 = .ok (.iload_n 1, 1) := by decide +kernel
theorem dX9_readOneLetter_11 : decode cX9_readOneLetter 11 = .ok (.bipush (-9), 2) := by decide +kernel
theorem dX9_readOneLetter_13 : decode cX9_readOneLetter 13 = .ok (.if_icmp .ne 5, 3) := by decide +kernel
theorem dX9_readOneLetter_16 : decode cX9_readOneLetter 16 = .ok (.iconst 0, 1) := by decide +kernel
theorem dX9_readOneLetter_17 : decode cX9_readOneLetter 17 = .ok (.ireturn, 1) := by decide +kernel
theorem dX9_readOneLetter_18 : decode cX9_readOneLetter 18 = .ok (.aload_n 0, 1) := by decide +kernel
theorem dX9_readOneLetter_19 : decode cX9_readOneLetter 19 = .ok (.iload_n 1, 1) := by decide +kernel
theorem dX9_readOneLetter_20 : decode cX9_readOneLetter 20 = .ok (.invokevirtual 88, 3) := by decide +kernel
theorem dX9_readOneLetter_23 : decode cX9_readOneLetter 23 = .ok (.iconst 2, 1) := by decide +kernel
theorem dX9_readOneLetter_24 : decode cX9_readOneLetter 24 = .ok (.if_icmp .ne 15, 3) := by decide +kernel
theorem dX9_readOneLetter_27 : decode cX9_readOneLetter 27 = .ok (.aload_n 0, 1) := by decide +kernel
theorem dX9_readOneLetter_28 : decode cX9_readOneLetter 28 = .ok (.dup, 1) := by decide +kernel
theorem dX9_readOneLetter_29 : decode cX9_readOneLetter 29 = .ok (.getfield 78, 3) := by decide +kernel
theorem dX9_readOneLetter_32 : decode cX9_readOneLetter 32 = .ok (.iconst 1, 1) := by decide +kernel
theorem dX9_readOneLetter_33 : decode cX9_readOneLetter 33 = .ok (.isub, 1) := by decide +kernel
theorem dX9_readOneLetter_34 : decode cX9_readOneLetter 34 = .ok (.putfield 78, 3) := by decide +kernel
theorem dX9_readOneLetter_37 : decode cX9_readOneLetter 37 = .ok (.iconst 0, 1) := by decide +kernel
theorem dX9_readOneLetter_38 : decode cX9_readOneLetter 38 = .ok (.ireturn, 1) := by decide +kernel
theorem dX9_readOneLetter_39 : decode cX9_readOneLetter 39 = .ok (.aload_n 0, 1) := by decide +kernel
theorem dX9_readOneLetter_40 : decode cX9_readOneLetter 40 = .ok (.bipush 48, 2) := by decide +kernel
theorem dX9_readOneLetter_42 : decode cX9_readOneLetter 42 = .ok (.iconst 1, 1) := by decide +kernel
theorem dX9_readOneLetter_43 : decode cX9_readOneLetter 43 = .ok (.bipush 9, 2) := by decide +kernel
theorem dX9_readOneLetter_45 : decode cX9_readOneLetter 45 = .ok (.invokevirtual 84, 3) := by decide +kernel
theorem dX9_readOneLetter_48 : decode cX9_readOneLetter 48 = .ok (.istore_n 2, 1) := by decide +kernel
theorem dX9_readOneLetter_49 : decode cX9_readOneLetter 49 = .ok (.iload_n 2, 1) := by decide +kernel
theorem dX9_readOneLetter_50 : decode cX9_readOneLetter 50 = .ok (.bipush (-9), 2) := by decide +kernel
theorem dX9_readOneLetter_52 : decode cX9_readOneLetter 52 = .ok (.if_icmp .ne 8, 3) := by decide +kernel
theorem dX9_readOneLetter_55 : decode cX9_readOneLetter 55 = .ok (.bipush (-9), 2) := by decide +kernel
theorem dX9_readOneLetter_57 : decode cX9_readOneLetter 57 = .ok (.goto 11, 3) := by decide +kernel
theorem dX9_readOneLetter_60 : decode cX9_readOneLetter 60 = .ok (.aload_n 0, 1) := by decide +kernel
theorem dX9_readOneLetter_61 : decode cX9_readOneLetter 61 = .ok (.bipush 48, 2) := by decide +kernel
theorem dX9_readOneLetter_63 : decode cX9_readOneLetter 63 = .ok (.iconst 0, 1) := by decide +kernel
theorem dX9_readOneLetter_64 : decode cX9_readOneLetter 64 = .ok (.iconst 3, 1) := by decide +kernel
theorem dX9_readOneLetter_65 : decode cX9_readOneLetter 65 = .ok (.invokevirtual 84, 3) := by decide +kernel
theorem dX9_readOneLetter_68 : decode cX9_readOneLetter 68 = .ok (.istore_n 3, 1) := by decide +kernel
theorem dX9_readOneLetter_69 : decode cX9_readOneLetter 69 = .ok (.iload_n 3, 1) := by decide +kernel
theorem dX9_readOneLetter_70 : decode cX9_readOneLetter 70 = .ok (.bipush (-9), 2) := by decide +kernel
theorem dX9_readOneLetter_72 : decode cX9_readOneLetter 72 = .ok (.if_icmp .ne 5, 3) := by decide +kernel
theorem dX9_readOneLetter_75 : decode cX9_readOneLetter 75 = .ok (.iconst 0, 1) := by decide +kernel
theorem dX9_readOneLetter_76 : decode cX9_readOneLetter 76 = .ok (.ireturn, 1) := by decide +kernel
theorem dX9_readOneLetter_77 : decode cX9_readOneLetter 77 = .ok (.aload_n 0, 1) := by decide +kernel
theorem dX9_readOneLetter_78 : decode cX9_readOneLetter 78 = .ok (.getfield 22, 3) := by decide +kernel
theorem dX9_readOneLetter_81 : decode cX9_readOneLetter 81 = .ok (.iconst 3, 1) := by decide +kernel
theorem dX9_readOneLetter_82 : decode cX9_readOneLetter 82 = .ok (.aload_n 0, 1) := by decide +kernel
theorem dX9_readOneLetter_83 : decode cX9_readOneLetter 83 = .ok (.getfield 81, 3) := by decide +kernel
theorem dX9_readOneLetter_86 : decode cX9_readOneLetter 86 = .ok (.imul, 1) := by decide +kernel
theorem dX9_readOneLetter_87 : decode cX9_readOneLetter 87 = .ok (.iload_n 1, 1) := by decide +kernel
theorem dX9_readOneLetter_88 : decode cX9_readOneLetter 88 = .ok (.iastore, 1) := by decide +kernel
theorem dX9_readOneLetter_89 : decode cX9_readOneLetter 89 = .ok (.aload_n 0, 1) := by decide +kernel
theorem dX9_readOneLetter_90 : decode cX9_readOneLetter 90 = .ok (.getfield 22, 3) := by decide +kernel
theorem dX9_readOneLetter_93 : decode cX9_readOneLetter 93 = .ok (.iconst 3, 1) := by decide +kernel
theorem dX9_readOneLetter_94 : decode cX9_readOneLetter 94 = .ok (.aload_n 0, 1) := by decide +kernel
theorem dX9_readOneLetter_95 : decode cX9_readOneLetter 95 = .ok (.getfield 81, 3) := by decide +kernel
theorem dX9_readOneLetter_98 : decode cX9_readOneLetter 98 = .ok (.imul, 1) := by decide +kernel
theorem dX9_readOneLetter_99 : decode cX9_readOneLetter 99 = .ok (.iconst 1, 1) := by decide +kernel
theorem dX9_readOneLetter_100 : decode cX9_readOneLetter 100 = .ok (.iadd, 1) := by decide +kernel
theorem dX9_readOneLetter_101 : decode cX9_readOneLetter 101 = .ok (.iload_n 2, 1) := by decide +kernel
theorem dX9_readOneLetter_102 : decode cX9_readOneLetter 102 = .ok (.iastore, 1) := by decide +kernel
theorem dX9_readOneLetter_103 : decode cX9_readOneLetter 103 = .ok (.aload_n 0, 1) := by decide +kernel
theorem dX9_readOneLetter_104 : decode cX9_readOneLetter 104 = .ok (.getfield 22, 3) := by decide +kernel
theorem dX9_readOneLetter_107 : decode cX9_readOneLetter 107 = .ok (.iconst 3, 1) := by decide +kernel
theorem dX9_readOneLetter_108 : decode cX9_readOneLetter 108 = .ok (.aload_n 0, 1) := by decide +kernel
theorem dX9_readOneLetter_109 : decode cX9_readOneLetter 109 = .ok (.getfield 81, 3) := by decide +kernel
theorem dX9_readOneLetter_112 : decode cX9_readOneLetter 112 = .ok (.imul, 1) := by decide +kernel
theorem dX9_readOneLetter_113 : decode cX9_readOneLetter 113 = .ok (.iconst 2, 1) := by decide +kernel
theorem dX9_readOneLetter_114 : decode cX9_readOneLetter 114 = .ok (.iadd, 1) := by decide +kernel
theorem dX9_readOneLetter_115 : decode cX9_readOneLetter 115 = .ok (.iload_n 3, 1) := by decide +kernel
theorem dX9_readOneLetter_116 : decode cX9_readOneLetter 116 = .ok (.iastore, 1) := by decide +kernel
theorem dX9_readOneLetter_117 : decode cX9_readOneLetter 117 = .ok (.aload_n 0, 1) := by decide +kernel
theorem dX9_readOneLetter_118 : decode cX9_readOneLetter 118 = .ok (.dup, 1) := by decide +kernel
theorem dX9_readOneLetter_119 : decode cX9_readOneLetter 119 = .ok (.getfield 81, 3) := by decide +kernel
theorem dX9_readOneLetter_122 : decode cX9_readOneLetter 122 = .ok (.iconst 1, 1) := by decide +kernel
theorem dX9_readOneLetter_123 : decode cX9_readOneLetter 123 = .ok (.iadd, 1) := by decide +kernel
theorem dX9_readOneLetter_124 : decode cX9_readOneLetter 124 = .ok (.putfield 81, 3) := by decide +kernel
theorem dX9_readOneLetter_127 : decode cX9_readOneLetter 127 = .ok (.iconst 1, 1) := by decide +kernel
theorem dX9_readOneLetter_128 : decode cX9_readOneLetter 128 = .ok (.ireturn, 1) := by decide +kernel
theorem dX9_readOneClerk_0 : decode cX9_readOneClerk 0 = .ok (.aload_n 0, 1) := by decide +kernel
theorem dX9_readOneClerk_1 : decode cX9_readOneClerk 1 = .ok (.bipush 48, 2) := by decide +kernel
theorem dX9_readOneClerk_3 : decode cX9_readOneClerk 3 = .ok (.iconst 0, 1) := by decide +kernel
theorem dX9_readOneClerk_4 : decode cX9_readOneClerk 4 = .ok (.iconst 2, 1) := by decide +kernel
theorem dX9_readOneClerk_5 : decode cX9_readOneClerk 5 = .ok (.invokevirtual 84, 3) := by decide +kernel
theorem dX9_readOneClerk_8 : decode cX9_readOneClerk 8 = .ok (.istore_n 1, 1) := by decide +kernel
theorem dX9_readOneClerk_9 : decode cX9_readOneClerk 9 = .ok (.iload_n 1, 1) := by decide +kernel
theorem dX9_readOneClerk_10 : decode cX9_readOneClerk 10 = .ok (.bipush (-9), 2) := by decide +kernel
theorem dX9_readOneClerk_12 : decode cX9_readOneClerk 12 = .ok (.if_icmp .ne 8, 3) := by decide +kernel
theorem dX9_readOneClerk_15 : decode cX9_readOneClerk 15 = .ok (.bipush (-9), 2) := by decide +kernel
theorem dX9_readOneClerk_17 : decode cX9_readOneClerk 17 = .ok (.goto 11, 3) := by decide +kernel
theorem dX9_readOneClerk_20 : decode cX9_readOneClerk 20 = .ok (.aload_n 0, 1) := by decide +kernel
theorem dX9_readOneClerk_21 : decode cX9_readOneClerk 21 = .ok (.bipush 48, 2) := by decide +kernel
theorem dX9_readOneClerk_23 : decode cX9_readOneClerk 23 = .ok (.iconst 1, 1) := by decide +kernel
theorem dX9_readOneClerk_24 : decode cX9_readOneClerk 24 = .ok (.iconst 3, 1) := by decide +kernel
theorem dX9_readOneClerk_25 : decode cX9_readOneClerk 25 = .ok (.invokevirtual 84, 3) := by decide +kernel
theorem dX9_readOneClerk_28 : decode cX9_readOneClerk 28 = .ok (.istore_n 2, 1) := by decide +kernel
theorem dX9_readOneClerk_29 : decode cX9_readOneClerk 29 = .ok (.iload_n 2, 1) := by decide +kernel
end
section
theorem dX9_readOneClerk_30 : decode cX9_readOneClerk 30 = .ok (.bipush (-9), 2) := by decide +kernel
theorem dX9_readOneClerk_32 : decode cX9_readOneClerk 32 = .ok (.if_icmp .ne 5, 3) := by decide +kernel
theorem dX9_readOneClerk_35 : decode cX9_readOneClerk 35 = .ok (.iconst 0, 1) := by decide +kernel
theorem dX9_readOneClerk_36 : decode cX9_readOneClerk 36 = .ok (.ireturn, 1) := by decide +kernel
theorem dX9_readOneClerk_37 : decode cX9_readOneClerk 37 = .ok (.aload_n 0, 1) := by decide +kernel
theorem dX9_readOneClerk_38 : decode cX9_readOneClerk 38 = .ok (.getfield 25, 3) := by decide +kernel
theorem dX9_readOneClerk_41 : decode cX9_readOneClerk 41 = .ok (.iconst 2, 1) := by decide +kernel
theorem dX9_readOneClerk_42 : decode cX9_readOneClerk 42 = .ok (.aload_n 0, 1) := by decide +kernel
theorem dX9_readOneClerk_43 : decode cX9_readOneClerk 43 = .ok (.getfield 92, 3) := by decide +kernel
theorem dX9_readOneClerk_46 : decode cX9_readOneClerk 46 = .ok (.imul, 1) := by decide +kernel
theorem dX9_readOneClerk_47 : decode cX9_readOneClerk 47 = .ok (.iload_n 1, 1) := by decide +kernel
theorem dX9_readOneClerk_48 : decode cX9_readOneClerk 48 = .ok (.iastore, 1) := by decide +kernel
theorem dX9_readOneClerk_49 : decode cX9_readOneClerk 49 = .ok (.aload_n 0, 1) := by decide +kernel
theorem dX9_readOneClerk_50 : decode cX9_readOneClerk 50 = .ok (.getfield 25, 3) := by decide +kernel
theorem dX9_readOneClerk_53 : decode cX9_readOneClerk 53 = .ok (.iconst 2, 1) := by decide +kernel
theorem dX9_readOneClerk_54 : decode cX9_readOneClerk 54 = .ok (.aload_n 0, 1) := by decide +kernel
theorem dX9_readOneClerk_55 : decode cX9_readOneClerk 55 = .ok (.getfield 92, 3) := by decide +kernel
theorem dX9_readOneClerk_58 : decode cX9_readOneClerk 58 = .ok (.imul, 1) := by decide +kernel
theorem dX9_readOneClerk_59 : decode cX9_readOneClerk 59 = .ok (.iconst 1, 1) := by decide +kernel
theorem dX9_readOneClerk_60 : decode cX9_readOneClerk 60 = .ok (.iadd, 1) := by decide +kernel
theorem dX9_readOneClerk_61 : decode cX9_readOneClerk 61 = .ok (.iload_n 2, 1) := by decide +kernel
theorem dX9_readOneClerk_62 : decode cX9_readOneClerk 62 = .ok (.iastore, 1) := by decide +kernel
theorem dX9_readOneClerk_63 : decode cX9_readOneClerk 63 = .ok (.aload_n 0, 1) := by decide +kernel
theorem dX9_readOneClerk_64 : decode cX9_readOneClerk 64 = .ok (.dup, 1) := by decide +kernel
theorem dX9_readOneClerk_65 : decode cX9_readOneClerk 65 = .ok (.getfield 92, 3) := by decide +kernel
theorem dX9_readOneClerk_68 : decode cX9_readOneClerk 68 = .ok (.iconst 1, 1) := by decide +kernel
theorem dX9_readOneClerk_69 : decode cX9_readOneClerk 69 = .ok (.iadd, 1) := by decide +kernel
theorem dX9_readOneClerk_70 : decode cX9_readOneClerk 70 = .ok (.putfield 92, 3) := by decide +kernel
theorem dX9_readOneClerk_73 : decode cX9_readOneClerk 73 = .ok (.iconst 1, 1) := by decide +kernel
theorem dX9_readOneClerk_74 : decode cX9_readOneClerk 74 = .ok (.ireturn, 1) := by decide +kernel
theorem dX9_readThing_0 : decode cX9_readThing 0 = .ok (.aload_n 0, 1) := by decide +kernel
theorem dX9_readThing_1 : decode cX9_readThing 1 = .ok (.getfield 7, 3) := by decide +kernel
theorem dX9_readThing_4 : decode cX9_readThing 4 = .ok (.aload_n 0, 1) := by decide +kernel
theorem dX9_readThing_5 : decode cX9_readThing 5 = .ok (.getfield 78, 3) := by decide +kernel
theorem dX9_readThing_8 : decode cX9_readThing 8 = .ok (.iaload, 1) := by decide +kernel
theorem dX9_readThing_9 : decode cX9_readThing 9 = .ok (.istore_n 1, 1) := by decide +kernel
theorem dX9_readThing_10 : decode cX9_readThing 10 = .ok (.aload_n 0, 1) := by decide +kernel
theorem dX9_readThing_11 : decode cX9_readThing 11 = .ok (.dup, 1) := by decide +kernel
theorem dX9_readThing_12 : decode cX9_readThing 12 = .ok (.getfield 78, 3) := by decide +kernel
theorem dX9_readThing_15 : decode cX9_readThing 15 = .ok (.iconst 1, 1) := by decide +kernel
theorem dX9_readThing_16 : decode cX9_readThing 16 = .ok (.iadd, 1) := by decide +kernel
theorem dX9_readThing_17 : decode cX9_readThing 17 = .ok (.putfield 78, 3) := by decide +kernel
theorem dX9_readThing_20 : decode cX9_readThing 20 = .ok (.iload_n 1, 1) := by decide +kernel
theorem dX9_readThing_21 : decode cX9_readThing 21 = .ok (.bipush 76, 2) := by decide +kernel
theorem dX9_readThing_23 : decode cX9_readThing 23 = .ok (.if_icmp .ne 17, 3) := by decide +kernel
theorem dX9_readThing_26 : decode cX9_readThing 26 = .ok (.aload_n 0, 1) := by decide +kernel
theorem dX9_readThing_27 : decode cX9_readThing 27 = .ok (.getfield 81, 3) := by decide +kernel
theorem dX9_readThing_30 : decode cX9_readThing 30 = .ok (.bipush 6, 2) := by decide +kernel
theorem dX9_readThing_32 : decode cX9_readThing 32 = .ok (.if_icmp .ge 8, 3) := by decide +kernel
theorem dX9_readThing_35 : decode cX9_readThing 35 = .ok (.aload_n 0, 1) := by decide +kernel
theorem dX9_readThing_36 : decode cX9_readThing 36 = .ok (.invokevirtual 95, 3) := by decide +kernel
theorem dX9_readThing_39 : decode cX9_readThing 39 = .ok (.ireturn, 1) := by decide +kernel
theorem dX9_readThing_40 : decode cX9_readThing 40 = .ok (.iload_n 1, 1) := by decide +kernel
theorem dX9_readThing_41 : decode cX9_readThing 41 = .ok (.bipush 67, 2) := by decide +kernel
theorem dX9_readThing_43 : decode cX9_readThing 43 = .ok (.if_icmp .ne 16, 3) := by decide +kernel
theorem dX9_readThing_46 : decode cX9_readThing 46 = .ok (.aload_n 0, 1) := by decide +kernel
theorem dX9_readThing_47 : decode cX9_readThing 47 = .ok (.getfield 92, 3) := by decide +kernel
theorem dX9_readThing_50 : decode cX9_readThing 50 = .ok (.iconst 3, 1) := by decide +kernel
theorem dX9_readThing_51 : decode cX9_readThing 51 = .ok (.if_icmp .ge 8, 3) := by decide +kernel
theorem dX9_readThing_54 : decode cX9_readThing 54 = .ok (.aload_n 0, 1) := by decide +kernel
theorem dX9_readThing_55 : decode cX9_readThing 55 = .ok (.invokevirtual 99, 3) := by decide +kernel
theorem dX9_readThing_58 : decode cX9_readThing 58 = .ok (.ireturn, 1) := by decide +kernel
theorem dX9_readThing_59 : decode cX9_readThing 59 = .ok (.aload_n 0, 1) := by decide +kernel
theorem dX9_readThing_60 : decode cX9_readThing 60 = .ok (.dup, 1) := by decide +kernel
theorem dX9_readThing_61 : decode cX9_readThing 61 = .ok (.getfield 78, 3) := by decide +kernel
theorem dX9_readThing_64 : decode cX9_readThing 64 = .ok (.iconst 1, 1) := by decide +kernel
theorem dX9_readThing_65 : decode cX9_readThing 65 = .ok (.isub, 1) := by decide +kernel
theorem dX9_readThing_66 : decode cX9_readThing 66 = .ok (.putfield 78, 3) := by decide +kernel
theorem dX9_readThing_69 : decode cX9_readThing 69 = .ok (.iconst 0, 1) := by decide +kernel
theorem dX9_readThing_70 : decode cX9_readThing 70 = .ok (.ireturn, 1) := by decide +kernel
theorem dX9_readRoom_0 : decode cX9_readRoom 0 = .ok (.aload_n 0, 1) := by decide +kernel
theorem dX9_readRoom_1 : decode cX9_readRoom 1 = .ok (.iconst 0, 1) := by decide +kernel
theorem dX9_readRoom_2 : decode cX9_readRoom 2 = .ok (.putfield 78, 3) := by decide +kernel
theorem dX9_readRoom_5 : decode cX9_readRoom 5 = .ok (.aload_n 0, 1) := by decide +kernel
theorem dX9_readRoom_6 : decode cX9_readRoom 6 = .ok (.iconst 0, 1) := by decide +kernel
theorem dX9_readRoom_7 : decode cX9_readRoom 7 = .ok (.putfield 81, 3) := by decide +kernel
theorem dX9_readRoom_10 : decode cX9_readRoom 10 = .ok (.aload_n 0, 1) := by decide +kernel
theorem dX9_readRoom_11 : decode cX9_readRoom 11 = .ok (.iconst 0, 1) := by decide +kernel
theorem dX9_readRoom_12 : decode cX9_readRoom 12 = .ok (.putfield 92, 3) := by decide +kernel
theorem dX9_readRoom_15 : decode cX9_readRoom 15 = .ok (.aload_n 0, 1) := by decide +kernel
theorem dX9_readRoom_16 : decode cX9_readRoom 16 = .ok (.getfield 75, 3) := by decide +kernel
theorem dX9_readRoom_19 : decode cX9_readRoom 19 = .ok (.ifCond .eq 14, 3) := by decide +kernel
theorem dX9_readRoom_22 : decode cX9_readRoom 22 = .ok (.aload_n 0, 1) := by decide +kernel
theorem dX9_readRoom_23 : decode cX9_readRoom 23 = .ok (.getfield 7, 3) := by decide +kernel
theorem dX9_readRoom_26 : decode cX9_readRoom 26 = .ok (.iconst 0, 1) := by decide +kernel
theorem dX9_readRoom_27 : decode cX9_readRoom 27 = .ok (.iaload, 1) := by decide +kernel
theorem dX9_readRoom_28 : decode cX9_readRoom 28 = .ok (.bipush 77, 2) := by decide +kernel
theorem dX9_readRoom_30 : decode cX9_readRoom 30 = .ok (.if_icmp .eq 5, 3) := by decide +kernel
theorem dX9_readRoom_33 : decode cX9_readRoom 33 = .ok (.iconst 0, 1) := by decide +kernel
theorem dX9_readRoom_34 : decode cX9_readRoom 34 = .ok (.ireturn, 1) := by decide +kernel
theorem dX9_readRoom_35 : decode cX9_readRoom 35 = .ok (.aload_n 0, 1) := by decide +kernel
theorem dX9_readRoom_36 : decode cX9_readRoom 36 = .ok (.iconst 1, 1) := by decide +kernel
theorem dX9_readRoom_37 : decode cX9_readRoom 37 = .ok (.putfield 78, 3) := by decide +kernel
theorem dX9_readRoom_40 : decode cX9_readRoom 40 = .ok (.aload_n 0, 1) := by decide +kernel
theorem dX9_readRoom_41 : decode cX9_readRoom 41 = .ok (.aload_n 0, 1) := by decide +kernel
theorem dX9_readRoom_42 : decode cX9_readRoom 42 = .ok (.bipush 48, 2) := by decide +kernel
theorem dX9_readRoom_44 : decode cX9_readRoom 44 = .ok (.iconst 0, 1) := by decide +kernel
theorem dX9_readRoom_45 : decode cX9_readRoom 45 = .ok (.bipush 9, 2) := by decide +kernel
theorem dX9_readRoom_47 : decode cX9_readRoom 47 = .ok (.invokevirtual 84, 3) := by decide +kernel
theorem dX9_readRoom_50 : decode cX9_readRoom 50 = .ok (.putfield 102, 3) := by decide +kernel
theorem dX9_readRoom_53 : decode cX9_readRoom 53 = .ok (.aload_n 0, 1) := by decide +kernel
theorem dX9_readRoom_54 : decode cX9_readRoom 54 = .ok (.getfield 102, 3) := by decide +kernel
theorem dX9_readRoom_57 : decode cX9_readRoom 57 = .ok (.bipush (-9), 2) := by decide +kernel
theorem dX9_readRoom_59 : decode cX9_readRoom 59 = .ok (.if_icmp .ne 8, 3) := by decide +kernel
theorem dX9_readRoom_62 : decode cX9_readRoom 62 = .ok (.aload_n 0, 1) := by decide +kernel
theorem dX9_readRoom_63 : decode cX9_readRoom 63 = .ok (.getfield 78, 3) := by decide +kernel
theorem dX9_readRoom_66 : decode cX9_readRoom 66 = .ok (.ireturn, 1) := by decide +kernel
theorem dX9_readRoom_67 : decode cX9_readRoom 67 = .ok (.aload_n 0, 1) := by decide +kernel
theorem dX9_readRoom_68 : decode cX9_readRoom 68 = .ok (.getfield 78, 3) := by decide +kernel
theorem dX9_readRoom_71 : decode cX9_readRoom 71 = .ok (.aload_n 0, 1) := by decide +kernel
theorem dX9_readRoom_72 : decode cX9_readRoom 72 = .ok (.getfield 75, 3) := by decide +kernel
theorem dX9_readRoom_75 : decode cX9_readRoom 75 = .ok (.if_icmp .ge 15, 3) := by decide +kernel
theorem dX9_readRoom_78 : decode cX9_readRoom 78 = .ok (.aload_n 0, 1) := by decide +kernel
theorem dX9_readRoom_79 : decode cX9_readRoom 79 = .ok (.invokevirtual 105, 3) := by decide +kernel
theorem dX9_readRoom_82 : decode cX9_readRoom 82 = .ok (.ifCond .ne (-15), 3) := by decide +kernel
theorem dX9_readRoom_85 : decode cX9_readRoom 85 = .ok (.aload_n 0, 1) := by decide +kernel
theorem dX9_readRoom_86 : decode cX9_readRoom 86 = .ok (.getfield 78, 3) := by decide +kernel
theorem dX9_readRoom_89 : decode cX9_readRoom 89 = .ok (.ireturn, 1) := by decide +kernel
theorem dX9_readRoom_90 : decode cX9_readRoom 90 = .ok (.bipush (-9), 2) := by decide +kernel
theorem dX9_readRoom_92 : decode cX9_readRoom 92 = .ok (.ireturn, 1) := by decide +kernel
theorem dX9_fault_0 : decode cX9_fault 0 = .ok (.aload_n 0, 1) := by decide +kernel
theorem dX9_fault_1 : decode cX9_fault 1 = .ok (.iconst 0, 1) := by decide +kernel
theorem dX9_fault_2 : decode cX9_fault 2 = .ok (.putfield 59, 3) := by decide +kernel
theorem dX9_fault_5 : decode cX9_fault 5 = .ok (.aload_n 0, 1) := by decide +kernel
theorem dX9_fault_6 : decode cX9_fault 6 = .ok (.invokevirtual 108, 3) := by decide +kernel
theorem dX9_fault_9 : decode cX9_fault 9 = .ok (.ireturn, 1) := by decide +kernel
theorem dX9_room_0 : decode cX9_room 0 = .ok (.aload_n 0, 1) := by decide +kernel
theorem dX9_room_1 : decode cX9_room 1 = .ok (.iconst 0, 1) := by decide +kernel
theorem dX9_room_2 : decode cX9_room 2 = .ok (.putfield 59, 3) := by decide +kernel
theorem dX9_room_5 : decode cX9_room 5 = .ok (.aload_n 0, 1) := by decide +kernel
theorem dX9_room_6 : decode cX9_room 6 = .ok (.invokevirtual 108, 3) := by decide +kernel
theorem dX9_room_9 : decode cX9_room 9 = .ok (.bipush (-9), 2) := by decide +kernel
theorem dX9_room_11 : decode cX9_room 11 = .ok (.if_icmp .eq 6, 3) := by decide +kernel
theorem dX9_room_14 : decode cX9_room 14 = .ok (.bipush (-3), 2) := by decide +kernel
theorem dX9_room_16 : decode cX9_room 16 = .ok (.ireturn, 1) := by decide +kernel
theorem dX9_room_17 : decode cX9_room 17 = .ok (.aload_n 0, 1) := by decide +kernel
theorem dX9_room_18 : decode cX9_room 18 = .ok (.aload_n 0, 1) := by decide +kernel
theorem dX9_room_19 : decode cX9_room 19 = .ok (.getfield 81, 3) := by decide +kernel
theorem dX9_room_22 : decode cX9_room 22 = .ok (.putfield 63, 3) := by decide +kernel
theorem dX9_room_25 : decode cX9_room 25 = .ok (.aload_n 0, 1) := by decide +kernel
theorem dX9_room_26 : decode cX9_room 26 = .ok (.aload_n 0, 1) := by decide +kernel
theorem dX9_room_27 : decode cX9_room 27 = .ok (.getfield 92, 3) := by decide +kernel
theorem dX9_room_30 : decode cX9_room 30 = .ok (.putfield 70, 3) := by decide +kernel
theorem dX9_room_33 : decode cX9_room 33 = .ok (.iconst 0, 1) := by decide +kernel
theorem dX9_room_34 : decode cX9_room 34 = .ok (.istore_n 1, 1) := by decide +kernel
theorem dX9_room_35 : decode cX9_room 35 = .ok (.iload_n 1, 1) := by decide +kernel
theorem dX9_room_36 : decode cX9_room 36 = .ok (.bipush 23, 2) := by decide +kernel
theorem dX9_room_38 : decode cX9_room 38 = .ok (.if_icmp .ge 16, 3) := by decide +kernel
theorem dX9_room_41 : decode cX9_room 41 = .ok (.aload_n 0, 1) := by decide +kernel
theorem dX9_room_42 : decode cX9_room 42 = .ok (.getfield 28, 3) := by decide +kernel
theorem dX9_room_45 : decode cX9_room 45 = .ok (.iload_n 1, 1) := by decide +kernel
theorem dX9_room_46 : decode cX9_room 46 = .ok (.iconst 0, 1) := by decide +kernel
theorem dX9_room_47 : decode cX9_room 47 = .ok (.iastore, 1) := by decide +kernel
theorem dX9_room_48 : decode cX9_room 48 = .ok (.iinc 1 1, 3) := by decide +kernel
theorem dX9_room_51 : decode cX9_room 51 = .ok (.goto (-16), 3) := by decide +kernel
theorem dX9_room_54 : decode cX9_room 54 = .ok (.iconst 0, 1) := by decide +kernel
theorem dX9_room_55 : decode cX9_room 55 = .ok (.istore_n 1, 1) := by decide +kernel
theorem dX9_room_56 : decode cX9_room 56 = .ok (.iload_n 1, 1) := by decide +kernel
theorem dX9_room_57 : decode cX9_room 57 = .ok (.aload_n 0, 1) := by decide +kernel
theorem dX9_room_58 : decode cX9_room 58 = .ok (.getfield 63, 3) := by decide +kernel
theorem dX9_room_61 : decode cX9_room 61 = .ok (.if_icmp .ge 55, 3) := by decide +kernel
theorem dX9_room_64 : decode cX9_room 64 = .ok (.aload_n 0, 1) := by decide +kernel
theorem dX9_room_65 : decode cX9_room 65 = .ok (.getfield 28, 3) := by decide +kernel
theorem dX9_room_68 : decode cX9_room 68 = .ok (.iload_n 1, 1) := by decide +kernel
theorem dX9_room_69 : decode cX9_room 69 = .ok (.aload_n 0, 1) := by decide +kernel
theorem dX9_room_70 : decode cX9_room 70 = .ok (.getfield 22, 3) := by decide +kernel
theorem dX9_room_73 : decode cX9_room 73 = .ok (.iconst 3, 1) := by decide +kernel
theorem dX9_room_74 : decode cX9_room 74 = .ok (.iload_n 1, 1) := by decide +kernel
theorem dX9_room_75 : decode cX9_room 75 = .ok (.imul, 1) := by decide +kernel
theorem dX9_room_76 : decode cX9_room 76 = .ok (.iaload, 1) := by decide +kernel
theorem dX9_room_77 : decode cX9_room 77 = .ok (.iastore, 1) := by decide +kernel
theorem dX9_room_78 : decode cX9_room 78 = .ok (.aload_n 0, 1) := by decide +kernel
theorem dX9_room_79 : decode cX9_room 79 = .ok (.getfield 13, 3) := by decide +kernel
theorem dX9_room_82 : decode cX9_room 82 = .ok (.iload_n 1, 1) := by decide +kernel
theorem dX9_room_83 : decode cX9_room 83 = .ok (.aload_n 0, 1) := by decide +kernel
theorem dX9_room_84 : decode cX9_room 84 = .ok (.getfield 22, 3) := by decide +kernel
theorem dX9_room_87 : decode cX9_room 87 = .ok (.iconst 3, 1) := by decide +kernel
theorem dX9_room_88 : decode cX9_room 88 = .ok (.iload_n 1, 1) := by decide +kernel
theorem dX9_room_89 : decode cX9_room 89 = .ok (.imul, 1) := by decide +kernel
theorem dX9_room_90 : decode cX9_room 90 = .ok (.iconst 1, 1) := by decide +kernel
theorem dX9_room_91 : decode cX9_room 91 = .ok (.iadd, 1) := by decide +kernel
theorem dX9_room_92 : decode cX9_room 92 = .ok (.iaload, 1) := by decide +kernel
theorem dX9_room_93 : decode cX9_room 93 = .ok (.iastore, 1) := by decide +kernel
theorem dX9_room_94 : decode cX9_room 94 = .ok (.aload_n 0, 1) := by decide +kernel
theorem dX9_room_95 : decode cX9_room 95 = .ok (.getfield 16, 3) := by decide +kernel
theorem dX9_room_98 : decode cX9_room 98 = .ok (.iload_n 1, 1) := by decide +kernel
theorem dX9_room_99 : decode cX9_room 99 = .ok (.aload_n 0, 1) := by decide +kernel
theorem dX9_room_100 : decode cX9_room 100 = .ok (.getfield 22, 3) := by decide +kernel
theorem dX9_room_103 : decode cX9_room 103 = .ok (.iconst 3, 1) := by decide +kernel
theorem dX9_room_104 : decode cX9_room 104 = .ok (.iload_n 1, 1) := by decide +kernel
theorem dX9_room_105 : decode cX9_room 105 = .ok (.imul, 1) := by decide +kernel
theorem dX9_room_106 : decode cX9_room 106 = .ok (.iconst 2, 1) := by decide +kernel
theorem dX9_room_107 : decode cX9_room 107 = .ok (.iadd, 1) := by decide +kernel
theorem dX9_room_108 : decode cX9_room 108 = .ok (.iaload, 1) := by decide +kernel
theorem dX9_room_109 : decode cX9_room 109 = .ok (.iastore, 1) := by decide +kernel
theorem dX9_room_110 : decode cX9_room 110 = .ok (.iinc 1 1, 3) := by decide +kernel
theorem dX9_room_113 : decode cX9_room 113 = .ok (.goto (-57), 3) := by decide +kernel
theorem dX9_room_116 : decode cX9_room 116 = .ok (.iconst 0, 1) := by decide +kernel
theorem dX9_room_117 : decode cX9_room 117 = .ok (.istore_n 1, 1) := by decide +kernel
theorem dX9_room_118 : decode cX9_room 118 = .ok (.iload_n 1, 1) := by decide +kernel
theorem dX9_room_119 : decode cX9_room 119 = .ok (.aload_n 0, 1) := by decide +kernel
theorem dX9_room_120 : decode cX9_room 120 = .ok (.getfield 70, 3) := by decide +kernel
theorem dX9_room_123 : decode cX9_room 123 = .ok (.if_icmp .ge 42, 3) := by decide +kernel
theorem dX9_room_126 : decode cX9_room 126 = .ok (.aload_n 0, 1) := by decide +kernel
theorem dX9_room_127 : decode cX9_room 127 = .ok (.getfield 28, 3) := by decide +kernel
theorem dX9_room_130 : decode cX9_room 130 = .ok (.bipush 18, 2) := by decide +kernel
theorem dX9_room_132 : decode cX9_room 132 = .ok (.iload_n 1, 1) := by decide +kernel
theorem dX9_room_133 : decode cX9_room 133 = .ok (.iadd, 1) := by decide +kernel
theorem dX9_room_134 : decode cX9_room 134 = .ok (.aload_n 0, 1) := by decide +kernel
theorem dX9_room_135 : decode cX9_room 135 = .ok (.getfield 25, 3) := by decide +kernel
theorem dX9_room_138 : decode cX9_room 138 = .ok (.iconst 2, 1) := by decide +kernel
theorem dX9_room_139 : decode cX9_room 139 = .ok (.iload_n 1, 1) := by decide +kernel
theorem dX9_room_140 : decode cX9_room 140 = .ok (.imul, 1) := by decide +kernel
theorem dX9_room_141 : decode cX9_room 141 = .ok (.iaload, 1) := by decide +kernel
theorem dX9_room_142 : decode cX9_room 142 = .ok (.iastore, 1) := by decide +kernel
theorem dX9_room_143 : decode cX9_room 143 = .ok (.aload_n 0, 1) := by decide +kernel
theorem dX9_room_144 : decode cX9_room 144 = .ok (.getfield 19, 3) := by decide +kernel
theorem dX9_room_147 : decode cX9_room 147 = .ok (.iload_n 1, 1) := by decide +kernel
theorem dX9_room_148 : decode cX9_room 148 = .ok (.aload_n 0, 1) := by decide +kernel
theorem dX9_room_149 : decode cX9_room 149 = .ok (.getfield 25, 3) := by decide +kernel
theorem dX9_room_152 : decode cX9_room 152 = .ok (.iconst 2, 1) := by decide +kernel
theorem dX9_room_153 : decode cX9_room 153 = .ok (.iload_n 1, 1) := by decide +kernel
theorem dX9_room_154 : decode cX9_room 154 = .ok (.imul, 1) := by decide +kernel
theorem dX9_room_155 : decode cX9_room 155 = .ok (.iconst 1, 1) := by decide +kernel
theorem dX9_room_156 : decode cX9_room 156 = .ok (.iadd, 1) := by decide +kernel
theorem dX9_room_157 : decode cX9_room 157 = .ok (.iaload, 1) := by decide +kernel
theorem dX9_room_158 : decode cX9_room 158 = .ok (.iastore, 1) := by decide +kernel
theorem dX9_room_159 : decode cX9_room 159 = .ok (.iinc 1 1, 3) := by decide +kernel
theorem dX9_room_162 : decode cX9_room 162 = .ok (.goto (-44), 3) := by decide +kernel
theorem dX9_room_165 : decode cX9_room 165 = .ok (.aload_n 0, 1) := by decide +kernel
theorem dX9_room_166 : decode cX9_room 166 = .ok (.getfield 28, 3) := by decide +kernel
theorem dX9_room_169 : decode cX9_room 169 = .ok (.bipush 21, 2) := by decide +kernel
theorem dX9_room_171 : decode cX9_room 171 = .ok (.aload_n 0, 1) := by decide +kernel
theorem dX9_room_172 : decode cX9_room 172 = .ok (.getfield 102, 3) := by decide +kernel
theorem dX9_room_175 : decode cX9_room 175 = .ok (.iastore, 1) := by decide +kernel
theorem dX9_room_176 : decode cX9_room 176 = .ok (.aload_n 0, 1) := by decide +kernel
theorem dX9_room_177 : decode cX9_room 177 = .ok (.iconst 0, 1) := by decide +kernel
theorem dX9_room_178 : decode cX9_room 178 = .ok (.putfield 112, 3) := by decide +kernel
theorem dX9_room_181 : decode cX9_room 181 = .ok (.aload_n 0, 1) := by decide +kernel
theorem dX9_room_182 : decode cX9_room 182 = .ok (.getfield 40, 3) := by decide +kernel
theorem dX9_room_185 : decode cX9_room 185 = .ok (.iconst 0, 1) := by decide +kernel
theorem dX9_room_186 : decode cX9_room 186 = .ok (.iconst 0, 1) := by decide +kernel
theorem dX9_room_187 : decode cX9_room 187 = .ok (.bastore, 1) := by decide +kernel
theorem dX9_room_188 : decode cX9_room 188 = .ok (.aload_n 0, 1) := by decide +kernel
theorem dX9_room_189 : decode cX9_room 189 = .ok (.getfield 40, 3) := by decide +kernel
theorem dX9_room_192 : decode cX9_room 192 = .ok (.iconst 1, 1) := by decide +kernel
theorem dX9_room_193 : decode cX9_room 193 = .ok (.iconst 0, 1) := by decide +kernel
theorem dX9_room_194 : decode cX9_room 194 = .ok (.bastore, 1) := by decide +kernel
theorem dX9_room_195 : decode cX9_room 195 = .ok (.bipush 10, 2) := by decide +kernel
theorem dX9_room_197 : decode cX9_room 197 = .ok (.aload_n 0, 1) := by decide +kernel
theorem dX9_room_198 : decode cX9_room 198 = .ok (.getfield 63, 3) := by decide +kernel
theorem dX9_room_201 : decode cX9_room 201 = .ok (.imul, 1) := by decide +kernel
theorem dX9_room_202 : decode cX9_room 202 = .ok (.aload_n 0, 1) := by decide +kernel
theorem dX9_room_203 : decode cX9_room 203 = .ok (.getfield 70, 3) := by decide +kernel
theorem dX9_room_206 : decode cX9_room 206 = .ok (.iadd, 1) := by decide +kernel
theorem dX9_room_207 : decode cX9_room 207 = .ok (.ireturn, 1) := by decide +kernel
theorem dX9_halfOf_0 : decode cX9_halfOf 0 = .ok (.iload_n 0, 1) := by decide +kernel
theorem dX9_halfOf_1 : decode cX9_halfOf 1 = .ok (.iconst 2, 1) := by decide +kernel
theorem dX9_halfOf_2 : decode cX9_halfOf 2 = .ok (.if_icmp .ge 7, 3) := by decide +kernel
theorem dX9_halfOf_5 : decode cX9_halfOf 5 = .ok (.iconst 1, 1) := by decide +kernel
theorem dX9_halfOf_6 : decode cX9_halfOf 6 = .ok (.goto 6, 3) := by decide +kernel
theorem dX9_halfOf_9 : decode cX9_halfOf 9 = .ok (.iload_n 0, 1) := by decide +kernel
theorem dX9_halfOf_10 : decode cX9_halfOf 10 = .ok (.iconst 2, 1) := by decide +kernel
theorem dX9_halfOf_11 : decode cX9_halfOf 11 = .ok (.idiv, 1) := by decide +kernel
theorem dX9_halfOf_12 : decode cX9_halfOf 12 = .ok (.ireturn, 1) := by decide +kernel
theorem dX9_needs_0 : decode cX9_needs 0 = .ok (.aload_n 0, 1) := by decide +kernel
theorem dX9_needs_1 : decode cX9_needs 1 = .ok (.getfield 16, 3) := by decide +kernel
theorem dX9_needs_4 : decode cX9_needs 4 = .ok (.iload_n 2, 1) := by decide +kernel
theorem dX9_needs_5 : decode cX9_needs 5 = .ok (.iaload, 1) := by decide +kernel
theorem dX9_needs_6 : decode cX9_needs 6 = .ok (.iconst 2, 1) := by decide +kernel
theorem dX9_needs_7 : decode cX9_needs 7 = .ok (.if_icmp .ne 13, 3) := by decide +kernel
theorem dX9_needs_10 : decode cX9_needs 10 = .ok (.aload_n 0, 1) := by decide +kernel
theorem dX9_needs_11 : decode cX9_needs 11 = .ok (.getfield 13, 3) := by decide +kernel
theorem dX9_needs_14 : decode cX9_needs 14 = .ok (.iload_n 2, 1) := by decide +kernel
theorem dX9_needs_15 : decode cX9_needs 15 = .ok (.iaload, 1) := by decide +kernel
theorem dX9_needs_16 : decode cX9_needs 16 = .ok (.invokestatic 115, 3) := by decide +kernel
theorem dX9_needs_19 : decode cX9_needs 19 = .ok (.ireturn, 1) := by decide +kernel
theorem dX9_needs_20 : decode cX9_needs 20 = .ok (.aload_n 0, 1) := by decide +kernel
theorem dX9_needs_21 : decode cX9_needs 21 = .ok (.getfield 13, 3) := by decide +kernel
theorem dX9_needs_24 : decode cX9_needs 24 = .ok (.iload_n 2, 1) := by decide +kernel
theorem dX9_needs_25 : decode cX9_needs 25 = .ok (.iaload, 1) := by decide +kernel
theorem dX9_needs_26 : decode cX9_needs 26 = .ok (.istore_n 3, 1) := by decide +kernel
theorem dX9_needs_27 : decode cX9_needs 27 = .ok (.iconst 0, 1) := by decide +kernel
theorem dX9_needs_28 : decode cX9_needs 28 = .ok (.istore 4, 2) := by decide +kernel
theorem dX9_needs_30 : decode cX9_needs 30 = .ok (.iload 4, 2) := by decide +kernel
theorem dX9_needs_32 : decode cX9_needs 32 = .ok (.aload_n 0, 1) := by decide +kernel
theorem dX9_needs_33 : decode cX9_needs 33 = .ok (.getfield 63, 3) := by decide +kernel
theorem dX9_needs_36 : decode cX9_needs 36 = .ok (.if_icmp .ge 53, 3) := by decide +kernel
theorem dX9_needs_39 : decode cX9_needs 39 = .ok (.aload_n 0, 1) := by decide +kernel
theorem dX9_needs_40 : decode cX9_needs 40 = .ok (.getfield 16, 3) := by decide +kernel
theorem dX9_needs_43 : decode cX9_needs 43 = .ok (.iload_n 2, 1) := by decide +kernel
theorem dX9_needs_44 : decode cX9_needs 44 = .ok (.iaload, 1) := by decide +kernel
theorem dX9_needs_45 : decode cX9_needs 45 = .ok (.iconst 3, 1) := by decide +kernel
theorem dX9_needs_46 : decode cX9_needs 46 = .ok (.if_icmp .ne 43, 3) := by decide +kernel
theorem dX9_needs_49 : decode cX9_needs 49 = .ok (.iload_n 3, 1) := by decide +kernel
theorem dX9_needs_50 : decode cX9_needs 50 = .ok (.iload 4, 2) := by decide +kernel
theorem dX9_needs_52 : decode cX9_needs 52 = .ok (.iload_n 2, 1) := by decide +kernel
theorem dX9_needs_53 : decode cX9_needs 53 = .ok (.if_icmp .eq 27, 3) := by decide +kernel
theorem dX9_needs_56 : decode cX9_needs 56 = .ok (.aload_n 1, 1) := by decide +kernel
theorem dX9_needs_57 : decode cX9_needs 57 = .ok (.bipush 6, 2) := by decide +kernel
theorem dX9_needs_59 : decode cX9_needs 59 = .ok (.iload 4, 2) := by decide +kernel
theorem dX9_needs_61 : decode cX9_needs 61 = .ok (.iadd, 1) := by decide +kernel
theorem dX9_needs_62 : decode cX9_needs 62 = .ok (.iaload, 1) := by decide +kernel
theorem dX9_needs_63 : decode cX9_needs 63 = .ok (.ifCond .ne 17, 3) := by decide +kernel
theorem dX9_needs_66 : decode cX9_needs 66 = .ok (.aload_n 1, 1) := by decide +kernel
theorem dX9_needs_67 : decode cX9_needs 67 = .ok (.iload 4, 2) := by decide +kernel
theorem dX9_needs_69 : decode cX9_needs 69 = .ok (.iaload, 1) := by decide +kernel
theorem dX9_needs_70 : decode cX9_needs 70 = .ok (.aload_n 1, 1) := by decide +kernel
theorem dX9_needs_71 : decode cX9_needs 71 = .ok (.iload_n 2, 1) := by decide +kernel
theorem dX9_needs_72 : decode cX9_needs 72 = .ok (.iaload, 1) := by decide +kernel
theorem dX9_needs_73 : decode cX9_needs 73 = .ok (.if_icmp .ne 7, 3) := by decide +kernel
theorem dX9_needs_76 : decode cX9_needs 76 = .ok (.iconst 1, 1) := by decide +kernel
theorem dX9_needs_77 : decode cX9_needs 77 = .ok (.goto 4, 3) := by decide +kernel
theorem dX9_needs_80 : decode cX9_needs 80 = .ok (.iconst 0, 1) := by decide +kernel
theorem dX9_needs_81 : decode cX9_needs 81 = .ok (.iadd, 1) := by decide +kernel
theorem dX9_needs_82 : decode cX9_needs 82 = .ok (.istore_n 3, 1) := by decide +kernel
theorem dX9_needs_83 : decode cX9_needs 83 = .ok (.iinc 4 1, 3) := by decide +kernel
theorem dX9_needs_86 : decode cX9_needs 86 = .ok (.goto (-56), 3) := by decide +kernel
theorem dX9_needs_89 : decode cX9_needs 89 = .ok (.iload_n 3, 1) := by decide +kernel
theorem dX9_needs_90 : decode cX9_needs 90 = .ok (.ireturn, 1) := by decide +kernel
theorem dX9_toWait_0 : decode cX9_toWait 0 = .ok (.aload_n 0, 1) := by decide +kernel
theorem dX9_toWait_1 : decode cX9_toWait 1 = .ok (.aload_n 1, 1) := by decide +kernel
theorem dX9_toWait_2 : decode cX9_toWait 2 = .ok (.iload_n 2, 1) := by decide +kernel
theorem dX9_toWait_3 : decode cX9_toWait 3 = .ok (.invokevirtual 118, 3) := by decide +kernel
theorem dX9_toWait_6 : decode cX9_toWait 6 = .ok (.aload_n 1, 1) := by decide +kernel
theorem dX9_toWait_7 : decode cX9_toWait 7 = .ok (.bipush 12, 2) := by decide +kernel
theorem dX9_toWait_9 : decode cX9_toWait 9 = .ok (.iload_n 2, 1) := by decide +kernel
theorem dX9_toWait_10 : decode cX9_toWait 10 = .ok (.iadd, 1) := by decide +kernel
theorem dX9_toWait_11 : decode cX9_toWait 11 = .ok (.iaload, 1) := by decide +kernel
theorem dX9_toWait_12 : decode cX9_toWait 12 = .ok (.isub, 1) := by decide +kernel
theorem dX9_toWait_13 : decode cX9_toWait 13 = .ok (.istore_n 3, 1) := by decide +kernel
theorem dX9_toWait_14 : decode cX9_toWait 14 = .ok (.iload_n 3, 1) := by decide +kernel
theorem dX9_toWait_15 : decode cX9_toWait 15 = .ok (.ifCond .ge 7, 3) := by decide +kernel
theorem dX9_toWait_18 : decode cX9_toWait 18 = .ok (.iconst 0, 1) := by decide +kernel
theorem dX9_toWait_19 : decode cX9_toWait 19 = .ok (.goto 4, 3) := by decide +kernel
theorem dX9_toWait_22 : decode cX9_toWait 22 = .ok (.iload_n 3, 1) := by decide +kernel
theorem dX9_toWait_23 : decode cX9_toWait 23 = .ok (.ireturn, 1) := by decide +kernel
theorem dX9_thatAre_0 : decode cX9_thatAre 0 = .ok (.iconst 0, 1) := by decide +kernel
theorem dX9_thatAre_1 : decode cX9_thatAre 1 = .ok (.istore_n 3, 1) := by decide +kernel
theorem dX9_thatAre_2 : decode cX9_thatAre 2 = .ok (.iconst 0, 1) := by decide +kernel
theorem dX9_thatAre_3 : decode cX9_thatAre 3 = .ok (.istore 4, 2) := by decide +kernel
theorem dX9_thatAre_5 : decode cX9_thatAre 5 = .ok (.iload 4, 2) := by decide +kernel
theorem dX9_thatAre_7 : decode cX9_thatAre 7 = .ok (.aload_n 0, 1) := by decide +kernel
theorem dX9_thatAre_8 : decode cX9_thatAre 8 = .ok (.getfield 63, 3) := by decide +kernel
theorem dX9_thatAre_11 : decode cX9_thatAre 11 = .ok (.if_icmp .ge 31, 3) := by decide +kernel
theorem dX9_thatAre_14 : decode cX9_thatAre 14 = .ok (.iload_n 3, 1) := by decide +kernel
theorem dX9_thatAre_15 : decode cX9_thatAre 15 = .ok (.aload_n 1, 1) := by decide +kernel
theorem dX9_thatAre_16 : decode cX9_thatAre 16 = .ok (.bipush 6, 2) := by decide +kernel
theorem dX9_thatAre_18 : decode cX9_thatAre 18 = .ok (.iload 4, 2) := by decide +kernel
theorem dX9_thatAre_20 : decode cX9_thatAre 20 = .ok (.iadd, 1) := by decide +kernel
theorem dX9_thatAre_21 : decode cX9_thatAre 21 = .ok (.iaload, 1) := by decide +kernel
theorem dX9_thatAre_22 : decode cX9_thatAre 22 = .ok (.iload_n 2, 1) := by decide +kernel
theorem dX9_thatAre_23 : decode cX9_thatAre 23 = .ok (.if_icmp .ne 10, 3) := by decide +kernel
theorem dX9_thatAre_26 : decode cX9_thatAre 26 = .ok (.iconst 1, 1) := by decide +kernel
theorem dX9_thatAre_27 : decode cX9_thatAre 27 = .ok (.iload 4, 2) := by decide +kernel
theorem dX9_thatAre_29 : decode cX9_thatAre 29 = .ok (.ishl, 1) := by decide +kernel
theorem dX9_thatAre_30 : decode cX9_thatAre 30 = .ok (.goto 4, 3) := by decide +kernel
theorem dX9_thatAre_33 : decode cX9_thatAre 33 = .ok (.iconst 0, 1) := by decide +kernel
theorem dX9_thatAre_34 : decode cX9_thatAre 34 = .ok (.ior, 1) := by decide +kernel
theorem dX9_thatAre_35 : decode cX9_thatAre 35 = .ok (.istore_n 3, 1) := by decide +kernel
theorem dX9_thatAre_36 : decode cX9_thatAre 36 = .ok (.iinc 4 1, 3) := by decide +kernel
theorem dX9_thatAre_39 : decode cX9_thatAre 39 = .ok (.goto (-34), 3) := by decide +kernel
theorem dX9_thatAre_42 : decode cX9_thatAre 42 = .ok (.iload_n 3, 1) := by decide +kernel
theorem dX9_thatAre_43 : decode cX9_thatAre 43 = .ok (.ireturn, 1) := by decide +kernel
theorem dX9_lost_0 : decode cX9_lost 0 = .ok (.aload_n 0, 1) := by decide +kernel
theorem dX9_lost_1 : decode cX9_lost 1 = .ok (.aload_n 1, 1) := by decide +kernel
theorem dX9_lost_2 : decode cX9_lost 2 = .ok (.iconst 2, 1) := by decide +kernel
theorem dX9_lost_3 : decode cX9_lost 3 = .ok (.invokevirtual 122, 3) := by decide +kernel
theorem dX9_lost_6 : decode cX9_lost 6 = .ok (.aload_n 0, 1) := by decide +kernel
theorem dX9_lost_7 : decode cX9_lost 7 = .ok (.aload_n 1, 1) := by decide +kernel
theorem dX9_lost_8 : decode cX9_lost 8 = .ok (.iconst 3, 1) := by decide +kernel
theorem dX9_lost_9 : decode cX9_lost 9 = .ok (.invokevirtual 122, 3) := by decide +kernel
theorem dX9_lost_12 : decode cX9_lost 12 = .ok (.ior, 1) := by decide +kernel
theorem dX9_lost_13 : decode cX9_lost 13 = .ok (.ireturn, 1) := by decide +kernel
theorem dX9_inHole_0 : decode cX9_inHole 0 = .ok (.iconst 0, 1) := by decide +kernel
theorem dX9_inHole_1 : decode cX9_inHole 1 = .ok (.istore_n 3, 1) := by decide +kernel
theorem dX9_inHole_2 : decode cX9_inHole 2 = .ok (.iconst 0, 1) := by decide +kernel
theorem dX9_inHole_3 : decode cX9_inHole 3 = .ok (.istore 4, 2) := by decide +kernel
theorem dX9_inHole_5 : decode cX9_inHole 5 = .ok (.iload 4, 2) := by decide +kernel
theorem dX9_inHole_7 : decode cX9_inHole 7 = .ok (.aload_n 0, 1) := by decide +kernel
theorem dX9_inHole_8 : decode cX9_inHole 8 = .ok (.getfield 63, 3) := by decide +kernel
theorem dX9_inHole_11 : decode cX9_inHole 11 = .ok (.if_icmp .ge 61, 3) := by decide +kernel
theorem dX9_inHole_14 : decode cX9_inHole 14 = .ok (.aload_n 1, 1) := by decide +kernel
theorem dX9_inHole_15 : decode cX9_inHole 15 = .ok (.bipush 6, 2) := by decide +kernel
theorem dX9_inHole_17 : decode cX9_inHole 17 = .ok (.iload 4, 2) := by decide +kernel
theorem dX9_inHole_19 : decode cX9_inHole 19 = .ok (.iadd, 1) := by decide +kernel
theorem dX9_inHole_20 : decode cX9_inHole 20 = .ok (.iaload, 1) := by decide +kernel
theorem dX9_inHole_21 : decode cX9_inHole 21 = .ok (.ifCond .eq 14, 3) := by decide +kernel
theorem dX9_inHole_24 : decode cX9_inHole 24 = .ok (.aload_n 1, 1) := by decide +kernel
theorem dX9_inHole_25 : decode cX9_inHole 25 = .ok (.bipush 6, 2) := by decide +kernel
theorem dX9_inHole_27 : decode cX9_inHole 27 = .ok (.iload 4, 2) := by decide +kernel
theorem dX9_inHole_29 : decode cX9_inHole 29 = .ok (.iadd, 1) := by decide +kernel
theorem dX9_inHole_30 : decode cX9_inHole 30 = .ok (.iaload, 1) := by decide +kernel
theorem dX9_inHole_31 : decode cX9_inHole 31 = .ok (.iconst 2, 1) := by decide +kernel
theorem dX9_inHole_32 : decode cX9_inHole 32 = .ok (.if_icmp .ne 7, 3) := by decide +kernel
theorem dX9_inHole_35 : decode cX9_inHole 35 = .ok (.iconst 1, 1) := by decide +kernel
theorem dX9_inHole_36 : decode cX9_inHole 36 = .ok (.goto 4, 3) := by decide +kernel
theorem dX9_inHole_39 : decode cX9_inHole 39 = .ok (.iconst 0, 1) := by decide +kernel
theorem dX9_inHole_40 : decode cX9_inHole 40 = .ok (.istore 5, 2) := by decide +kernel
theorem dX9_inHole_42 : decode cX9_inHole 42 = .ok (.iload_n 3, 1) := by decide +kernel
theorem dX9_inHole_43 : decode cX9_inHole 43 = .ok (.iload 5, 2) := by decide +kernel
theorem dX9_inHole_45 : decode cX9_inHole 45 = .ok (.ifCond .eq 18, 3) := by decide +kernel
theorem dX9_inHole_48 : decode cX9_inHole 48 = .ok (.aload_n 1, 1) := by decide +kernel
theorem dX9_inHole_49 : decode cX9_inHole 49 = .ok (.iload 4, 2) := by decide +kernel
theorem dX9_inHole_51 : decode cX9_inHole 51 = .ok (.iaload, 1) := by decide +kernel
theorem dX9_inHole_52 : decode cX9_inHole 52 = .ok (.iload_n 2, 1) := by decide +kernel
theorem dX9_inHole_53 : decode cX9_inHole 53 = .ok (.if_icmp .ne 10, 3) := by decide +kernel
theorem dX9_inHole_56 : decode cX9_inHole 56 = .ok (.iconst 1, 1) := by decide +kernel
theorem dX9_inHole_57 : decode cX9_inHole 57 = .ok (.iload 4, 2) := by decide +kernel
theorem dX9_inHole_59 : decode cX9_inHole 59 = .ok (.ishl, 1) := by decide +kernel
theorem dX9_inHole_60 : decode cX9_inHole 60 = .ok (.goto 4, 3) := by decide +kernel
theorem dX9_inHole_63 : decode cX9_inHole 63 = .ok (.iconst 0, 1) := by decide +kernel
theorem dX9_inHole_64 : decode cX9_inHole 64 = .ok (.ior, 1) := by decide +kernel
theorem dX9_inHole_65 : decode cX9_inHole 65 = .ok (.istore_n 3, 1) := by decide +kernel
theorem dX9_inHole_66 : decode cX9_inHole 66 = .ok (.iinc 4 1, 3) := by decide +kernel
theorem dX9_inHole_69 : decode cX9_inHole 69 = .ok (.goto (-64), 3) := by decide +kernel
theorem dX9_inHole_72 : decode cX9_inHole 72 = .ok (.iload_n 3, 1) := by decide +kernel
theorem dX9_inHole_73 : decode cX9_inHole 73 = .ok (.ireturn, 1) := by decide +kernel
theorem dX9_pairs_0 : decode cX9_pairs 0 = .ok (.iconst 0, 1) := by decide +kernel
theorem dX9_pairs_1 : decode cX9_pairs 1 = .ok (.istore_n 1, 1) := by decide +kernel
theorem dX9_pairs_2 : decode cX9_pairs 2 = .ok (.iconst 0, 1) := by decide +kernel
theorem dX9_pairs_3 : decode cX9_pairs 3 = .ok (.istore_n 2, 1) := by decide +kernel
theorem dX9_pairs_4 : decode cX9_pairs 4 = .ok (.iload_n 2, 1) := by decide +kernel
theorem dX9_pairs_5 : decode cX9_pairs 5 = .ok (.bipush 12, 2) := by decide +kernel
theorem dX9_pairs_7 : decode cX9_pairs 7 = .ok (.if_icmp .ge 45, 3) := by decide +kernel
theorem dX9_pairs_10 : decode cX9_pairs 10 = .ok (.iload_n 1, 1) := by decide +kernel
theorem dX9_pairs_11 : decode cX9_pairs 11 = .ok (.aload_n 0, 1) := by decide +kernel
theorem dX9_pairs_12 : decode cX9_pairs 12 = .ok (.aload_n 0, 1) := by decide +kernel
theorem dX9_pairs_13 : decode cX9_pairs 13 = .ok (.getfield 28, 3) := by decide +kernel
theorem dX9_pairs_16 : decode cX9_pairs 16 = .ok (.iload_n 2, 1) := by decide +kernel
theorem dX9_pairs_17 : decode cX9_pairs 17 = .ok (.invokevirtual 125, 3) := by decide +kernel
theorem dX9_pairs_20 : decode cX9_pairs 20 = .ok (.aload_n 0, 1) := by decide +kernel
theorem dX9_pairs_21 : decode cX9_pairs 21 = .ok (.aload_n 0, 1) := by decide +kernel
theorem dX9_pairs_22 : decode cX9_pairs 22 = .ok (.getfield 28, 3) := by decide +kernel
theorem dX9_pairs_25 : decode cX9_pairs 25 = .ok (.iconst 2, 1) := by decide +kernel
theorem dX9_pairs_26 : decode cX9_pairs 26 = .ok (.invokevirtual 122, 3) := by decide +kernel
theorem dX9_pairs_29 : decode cX9_pairs 29 = .ok (.iand, 1) := by decide +kernel
theorem dX9_pairs_30 : decode cX9_pairs 30 = .ok (.invokestatic 128, 3) := by decide +kernel
theorem dX9_pairs_33 : decode cX9_pairs 33 = .ok (.iconst 1, 1) := by decide +kernel
theorem dX9_pairs_34 : decode cX9_pairs 34 = .ok (.if_icmp .le 9, 3) := by decide +kernel
theorem dX9_pairs_37 : decode cX9_pairs 37 = .ok (.iconst 1, 1) := by decide +kernel
theorem dX9_pairs_38 : decode cX9_pairs 38 = .ok (.iload_n 2, 1) := by decide +kernel
theorem dX9_pairs_39 : decode cX9_pairs 39 = .ok (.ishl, 1) := by decide +kernel
theorem dX9_pairs_40 : decode cX9_pairs 40 = .ok (.goto 4, 3) := by decide +kernel
theorem dX9_pairs_43 : decode cX9_pairs 43 = .ok (.iconst 0, 1) := by decide +kernel
theorem dX9_pairs_44 : decode cX9_pairs 44 = .ok (.ior, 1) := by decide +kernel
theorem dX9_pairs_45 : decode cX9_pairs 45 = .ok (.istore_n 1, 1) := by decide +kernel
theorem dX9_pairs_46 : decode cX9_pairs 46 = .ok (.iinc 2 1, 3) := by decide +kernel
theorem dX9_pairs_49 : decode cX9_pairs 49 = .ok (.goto (-45), 3) := by decide +kernel
theorem dX9_pairs_52 : decode cX9_pairs 52 = .ok (.iload_n 1, 1) := by decide +kernel
theorem dX9_pairs_53 : decode cX9_pairs 53 = .ok (.ireturn, 1) := by decide +kernel
theorem dX9_nextOf_0 : decode cX9_nextOf 0 = .ok (.bipush (-9), 2) := by decide +kernel
theorem dX9_nextOf_2 : decode cX9_nextOf 2 = .ok (.istore_n 3, 1) := by decide +kernel
theorem dX9_nextOf_3 : decode cX9_nextOf 3 = .ok (.aload_n 0, 1) := by decide +kernel
theorem dX9_nextOf_4 : decode cX9_nextOf 4 = .ok (.getfield 63, 3) := by decide +kernel
theorem dX9_nextOf_7 : decode cX9_nextOf 7 = .ok (.iconst 1, 1) := by decide +kernel
theorem dX9_nextOf_8 : decode cX9_nextOf 8 = .ok (.isub, 1) := by decide +kernel
theorem dX9_nextOf_9 : decode cX9_nextOf 9 = .ok (.istore 4, 2) := by decide +kernel
theorem dX9_nextOf_11 : decode cX9_nextOf 11 = .ok (.iload 4, 2) := by decide +kernel
theorem dX9_nextOf_13 : decode cX9_nextOf 13 = .ok (.ifCond .lt 70, 3) := by decide +kernel
theorem dX9_nextOf_16 : decode cX9_nextOf 16 = .ok (.aload_n 1, 1) := by decide +kernel
theorem dX9_nextOf_17 : decode cX9_nextOf 17 = .ok (.bipush 6, 2) := by decide +kernel
theorem dX9_nextOf_19 : decode cX9_nextOf 19 = .ok (.iload 4, 2) := by decide +kernel
theorem dX9_nextOf_21 : decode cX9_nextOf 21 = .ok (.iadd, 1) := by decide +kernel
theorem dX9_nextOf_22 : decode cX9_nextOf 22 = .ok (.iaload, 1) := by decide +kernel
theorem dX9_nextOf_23 : decode cX9_nextOf 23 = .ok (.ifCond .ne 17, 3) := by decide +kernel
theorem dX9_nextOf_26 : decode cX9_nextOf 26 = .ok (.aload_n 1, 1) := by decide +kernel
theorem dX9_nextOf_27 : decode cX9_nextOf 27 = .ok (.iload 4, 2) := by decide +kernel
theorem dX9_nextOf_29 : decode cX9_nextOf 29 = .ok (.iaload, 1) := by decide +kernel
theorem dX9_nextOf_30 : decode cX9_nextOf 30 = .ok (.iconst 4, 1) := by decide +kernel
theorem dX9_nextOf_31 : decode cX9_nextOf 31 = .ok (.idiv, 1) := by decide +kernel
theorem dX9_nextOf_32 : decode cX9_nextOf 32 = .ok (.iload_n 2, 1) := by decide +kernel
theorem dX9_nextOf_33 : decode cX9_nextOf 33 = .ok (.if_icmp .ne 7, 3) := by decide +kernel
theorem dX9_nextOf_36 : decode cX9_nextOf 36 = .ok (.iconst 1, 1) := by decide +kernel
theorem dX9_nextOf_37 : decode cX9_nextOf 37 = .ok (.goto 4, 3) := by decide +kernel
theorem dX9_nextOf_40 : decode cX9_nextOf 40 = .ok (.iconst 0, 1) := by decide +kernel
theorem dX9_nextOf_41 : decode cX9_nextOf 41 = .ok (.istore 5, 2) := by decide +kernel
theorem dX9_nextOf_43 : decode cX9_nextOf 43 = .ok (.iload 5, 2) := by decide +kernel
theorem dX9_nextOf_45 : decode cX9_nextOf 45 = .ok (.ifCond .eq 30, 3) := by decide +kernel
theorem dX9_nextOf_48 : decode cX9_nextOf 48 = .ok (.iload_n 3, 1) := by decide +kernel
theorem dX9_nextOf_49 : decode cX9_nextOf 49 = .ok (.bipush (-9), 2) := by decide +kernel
theorem dX9_nextOf_51 : decode cX9_nextOf 51 = .ok (.if_icmp .eq 19, 3) := by decide +kernel
theorem dX9_nextOf_54 : decode cX9_nextOf 54 = .ok (.aload_n 0, 1) := by decide +kernel
theorem dX9_nextOf_55 : decode cX9_nextOf 55 = .ok (.aload_n 1, 1) := by decide +kernel
theorem dX9_nextOf_56 : decode cX9_nextOf 56 = .ok (.iload 4, 2) := by decide +kernel
theorem dX9_nextOf_58 : decode cX9_nextOf 58 = .ok (.invokevirtual 131, 3) := by decide +kernel
theorem dX9_nextOf_61 : decode cX9_nextOf 61 = .ok (.aload_n 0, 1) := by decide +kernel
theorem dX9_nextOf_62 : decode cX9_nextOf 62 = .ok (.aload_n 1, 1) := by decide +kernel
theorem dX9_nextOf_63 : decode cX9_nextOf 63 = .ok (.iload_n 3, 1) := by decide +kernel
theorem dX9_nextOf_64 : decode cX9_nextOf 64 = .ok (.invokevirtual 131, 3) := by decide +kernel
theorem dX9_nextOf_67 : decode cX9_nextOf 67 = .ok (.if_icmp .gt 8, 3) := by decide +kernel
theorem dX9_nextOf_70 : decode cX9_nextOf 70 = .ok (.iload 4, 2) := by decide +kernel
theorem dX9_nextOf_72 : decode cX9_nextOf 72 = .ok (.goto 4, 3) := by decide +kernel
theorem dX9_nextOf_75 : decode cX9_nextOf 75 = .ok (.iload_n 3, 1) := by decide +kernel
theorem dX9_nextOf_76 : decode cX9_nextOf 76 = .ok (.istore_n 3, 1) := by decide +kernel
theorem dX9_nextOf_77 : decode cX9_nextOf 77 = .ok (.iinc 4 (-1), 3) := by decide +kernel
theorem dX9_nextOf_80 : decode cX9_nextOf 80 = .ok (.goto (-69), 3) := by decide +kernel
theorem dX9_nextOf_83 : decode cX9_nextOf 83 = .ok (.iload_n 3, 1) := by decide +kernel
theorem dX9_nextOf_84 : decode cX9_nextOf 84 = .ok (.ireturn, 1) := by decide +kernel
theorem dX9_answer_0 : decode cX9_answer 0 = .ok (.iconst 0, 1) := by decide +kernel
theorem dX9_answer_1 : decode cX9_answer 1 = .ok (.istore_n 3, 1) := by decide +kernel
theorem dX9_answer_2 : decode cX9_answer 2 = .ok (.iload_n 3, 1) := by decide +kernel
theorem dX9_answer_3 : decode cX9_answer 3 = .ok (.aload_n 0, 1) := by decide +kernel
theorem dX9_answer_4 : decode cX9_answer 4 = .ok (.getfield 19, 3) := by decide +kernel
theorem dX9_answer_7 : decode cX9_answer 7 = .ok (.iload_n 2, 1) := by decide +kernel
theorem dX9_answer_8 : decode cX9_answer 8 = .ok (.iaload, 1) := by decide +kernel
theorem dX9_answer_9 : decode cX9_answer 9 = .ok (.if_icmp .ge 47, 3) := by decide +kernel
theorem dX9_answer_12 : decode cX9_answer 12 = .ok (.aload_n 0, 1) := by decide +kernel
theorem dX9_answer_13 : decode cX9_answer 13 = .ok (.aload_n 1, 1) := by decide +kernel
theorem dX9_answer_14 : decode cX9_answer 14 = .ok (.aload_n 1, 1) := by decide +kernel
theorem dX9_answer_15 : decode cX9_answer 15 = .ok (.bipush 18, 2) := by decide +kernel
theorem dX9_answer_17 : decode cX9_answer 17 = .ok (.iload_n 2, 1) := by decide +kernel
theorem dX9_answer_18 : decode cX9_answer 18 = .ok (.iadd, 1) := by decide +kernel
theorem dX9_answer_19 : decode cX9_answer 19 = .ok (.iaload, 1) := by decide +kernel
theorem dX9_answer_20 : decode cX9_answer 20 = .ok (.invokevirtual 134, 3) := by decide +kernel
theorem dX9_answer_23 : decode cX9_answer 23 = .ok (.istore 4, 2) := by decide +kernel
theorem dX9_answer_25 : decode cX9_answer 25 = .ok (.iload 4, 2) := by decide +kernel
theorem dX9_answer_27 : decode cX9_answer 27 = .ok (.bipush (-9), 2) := by decide +kernel
theorem dX9_answer_29 : decode cX9_answer 29 = .ok (.if_icmp .eq 21, 3) := by decide +kernel
theorem dX9_answer_32 : decode cX9_answer 32 = .ok (.aload_n 1, 1) := by decide +kernel
theorem dX9_answer_33 : decode cX9_answer 33 = .ok (.bipush 6, 2) := by decide +kernel
theorem dX9_answer_35 : decode cX9_answer 35 = .ok (.iload 4, 2) := by decide +kernel
theorem dX9_answer_37 : decode cX9_answer 37 = .ok (.iadd, 1) := by decide +kernel
theorem dX9_answer_38 : decode cX9_answer 38 = .ok (.iconst 1, 1) := by decide +kernel
theorem dX9_answer_39 : decode cX9_answer 39 = .ok (.iastore, 1) := by decide +kernel
theorem dX9_answer_40 : decode cX9_answer 40 = .ok (.aload_n 0, 1) := by decide +kernel
theorem dX9_answer_41 : decode cX9_answer 41 = .ok (.getfield 50, 3) := by decide +kernel
theorem dX9_answer_44 : decode cX9_answer 44 = .ok (.iload_n 2, 1) := by decide +kernel
theorem dX9_answer_45 : decode cX9_answer 45 = .ok (.dup2, 1) := by decide +kernel
theorem dX9_answer_46 : decode cX9_answer 46 = .ok (.iaload, 1) := by decide +kernel
theorem dX9_answer_47 : decode cX9_answer 47 = .ok (.iconst 1, 1) := by decide +kernel
theorem dX9_answer_48 : decode cX9_answer 48 = .ok (.iadd, 1) := by decide +kernel
theorem dX9_answer_49 : decode cX9_answer 49 = .ok (.iastore, 1) := by decide +kernel
theorem dX9_answer_50 : decode cX9_answer 50 = .ok (.iinc 3 1, 3) := by decide +kernel
theorem dX9_answer_53 : decode cX9_answer 53 = .ok (.goto (-51), 3) := by decide +kernel
theorem dX9_answer_56 : decode cX9_answer 56 = .ok (.return_, 1) := by decide +kernel
theorem dX9_putOut_0 : decode cX9_putOut 0 = .ok (.iconst 0, 1) := by decide +kernel
theorem dX9_putOut_1 : decode cX9_putOut 1 = .ok (.istore_n 3, 1) := by decide +kernel
theorem dX9_putOut_2 : decode cX9_putOut 2 = .ok (.iload_n 3, 1) := by decide +kernel
theorem dX9_putOut_3 : decode cX9_putOut 3 = .ok (.aload_n 0, 1) := by decide +kernel
theorem dX9_putOut_4 : decode cX9_putOut 4 = .ok (.getfield 63, 3) := by decide +kernel
theorem dX9_putOut_7 : decode cX9_putOut 7 = .ok (.if_icmp .ge 62, 3) := by decide +kernel
theorem dX9_putOut_10 : decode cX9_putOut 10 = .ok (.iload_n 3, 1) := by decide +kernel
theorem dX9_putOut_11 : decode cX9_putOut 11 = .ok (.iload_n 2, 1) := by decide +kernel
theorem dX9_putOut_12 : decode cX9_putOut 12 = .ok (.if_icmp .eq 32, 3) := by decide +kernel
theorem dX9_putOut_15 : decode cX9_putOut 15 = .ok (.aload_n 1, 1) := by decide +kernel
theorem dX9_putOut_16 : decode cX9_putOut 16 = .ok (.bipush 6, 2) := by decide +kernel
theorem dX9_putOut_18 : decode cX9_putOut 18 = .ok (.iload_n 3, 1) := by decide +kernel
theorem dX9_putOut_19 : decode cX9_putOut 19 = .ok (.iadd, 1) := by decide +kernel
theorem dX9_putOut_20 : decode cX9_putOut 20 = .ok (.iaload, 1) := by decide +kernel
theorem dX9_putOut_21 : decode cX9_putOut 21 = .ok (.ifCond .ne 23, 3) := by decide +kernel
theorem dX9_putOut_24 : decode cX9_putOut 24 = .ok (.aload_n 1, 1) := by decide +kernel
theorem dX9_putOut_25 : decode cX9_putOut 25 = .ok (.iload_n 3, 1) := by decide +kernel
theorem dX9_putOut_26 : decode cX9_putOut 26 = .ok (.iaload, 1) := by decide +kernel
theorem dX9_putOut_27 : decode cX9_putOut 27 = .ok (.aload_n 1, 1) := by decide +kernel
theorem dX9_putOut_28 : decode cX9_putOut 28 = .ok (.iload_n 2, 1) := by decide +kernel
theorem dX9_putOut_29 : decode cX9_putOut 29 = .ok (.iaload, 1) := by decide +kernel
theorem dX9_putOut_30 : decode cX9_putOut 30 = .ok (.if_icmp .ne 14, 3) := by decide +kernel
theorem dX9_putOut_33 : decode cX9_putOut 33 = .ok (.aload_n 1, 1) := by decide +kernel
theorem dX9_putOut_34 : decode cX9_putOut 34 = .ok (.iload_n 2, 1) := by decide +kernel
theorem dX9_putOut_35 : decode cX9_putOut 35 = .ok (.iaload, 1) := by decide +kernel
theorem dX9_putOut_36 : decode cX9_putOut 36 = .ok (.iconst 3, 1) := by decide +kernel
theorem dX9_putOut_37 : decode cX9_putOut 37 = .ok (.if_icmp .le 7, 3) := by decide +kernel
theorem dX9_putOut_40 : decode cX9_putOut 40 = .ok (.iconst 1, 1) := by decide +kernel
theorem dX9_putOut_41 : decode cX9_putOut 41 = .ok (.goto 4, 3) := by decide +kernel
theorem dX9_putOut_44 : decode cX9_putOut 44 = .ok (.iconst 0, 1) := by decide +kernel
theorem dX9_putOut_45 : decode cX9_putOut 45 = .ok (.istore 4, 2) := by decide +kernel
theorem dX9_putOut_47 : decode cX9_putOut 47 = .ok (.aload_n 1, 1) := by decide +kernel
theorem dX9_putOut_48 : decode cX9_putOut 48 = .ok (.iload_n 3, 1) := by decide +kernel
theorem dX9_putOut_49 : decode cX9_putOut 49 = .ok (.dup2, 1) := by decide +kernel
theorem dX9_putOut_50 : decode cX9_putOut 50 = .ok (.iaload, 1) := by decide +kernel
theorem dX9_putOut_51 : decode cX9_putOut 51 = .ok (.iload 4, 2) := by decide +kernel
theorem dX9_putOut_53 : decode cX9_putOut 53 = .ok (.ifCond .eq 7, 3) := by decide +kernel
theorem dX9_putOut_56 : decode cX9_putOut 56 = .ok (.iconst 4, 1) := by decide +kernel
theorem dX9_putOut_57 : decode cX9_putOut 57 = .ok (.goto 4, 3) := by decide +kernel
theorem dX9_putOut_60 : decode cX9_putOut 60 = .ok (.iconst 0, 1) := by decide +kernel
theorem dX9_putOut_61 : decode cX9_putOut 61 = .ok (.isub, 1) := by decide +kernel
theorem dX9_putOut_62 : decode cX9_putOut 62 = .ok (.iastore, 1) := by decide +kernel
theorem dX9_putOut_63 : decode cX9_putOut 63 = .ok (.iinc 3 1, 3) := by decide +kernel
theorem dX9_putOut_66 : decode cX9_putOut 66 = .ok (.goto (-64), 3) := by decide +kernel
theorem dX9_putOut_69 : decode cX9_putOut 69 = .ok (.return_, 1) := by decide +kernel
theorem dX9_hatch_0 : decode cX9_hatch 0 = .ok (.iconst 0, 1) := by decide +kernel
theorem dX9_hatch_1 : decode cX9_hatch 1 = .ok (.istore_n 2, 1) := by decide +kernel
theorem dX9_hatch_2 : decode cX9_hatch 2 = .ok (.iconst 0, 1) := by decide +kernel
theorem dX9_hatch_3 : decode cX9_hatch 3 = .ok (.istore_n 3, 1) := by decide +kernel
theorem dX9_hatch_4 : decode cX9_hatch 4 = .ok (.iload_n 3, 1) := by decide +kernel
theorem dX9_hatch_5 : decode cX9_hatch 5 = .ok (.aload_n 0, 1) := by decide +kernel
theorem dX9_hatch_6 : decode cX9_hatch 6 = .ok (.getfield 63, 3) := by decide +kernel
theorem dX9_hatch_9 : decode cX9_hatch 9 = .ok (.if_icmp .ge 32, 3) := by decide +kernel
theorem dX9_hatch_12 : decode cX9_hatch 12 = .ok (.aload_n 1, 1) := by decide +kernel
theorem dX9_hatch_13 : decode cX9_hatch 13 = .ok (.bipush 12, 2) := by decide +kernel
theorem dX9_hatch_15 : decode cX9_hatch 15 = .ok (.iload_n 3, 1) := by decide +kernel
theorem dX9_hatch_16 : decode cX9_hatch 16 = .ok (.iadd, 1) := by decide +kernel
theorem dX9_hatch_17 : decode cX9_hatch 17 = .ok (.dup2, 1) := by decide +kernel
theorem dX9_hatch_18 : decode cX9_hatch 18 = .ok (.iaload, 1) := by decide +kernel
theorem dX9_hatch_19 : decode cX9_hatch 19 = .ok (.aload_n 1, 1) := by decide +kernel
theorem dX9_hatch_20 : decode cX9_hatch 20 = .ok (.bipush 6, 2) := by decide +kernel
theorem dX9_hatch_22 : decode cX9_hatch 22 = .ok (.iload_n 3, 1) := by decide +kernel
theorem dX9_hatch_23 : decode cX9_hatch 23 = .ok (.iadd, 1) := by decide +kernel
theorem dX9_hatch_24 : decode cX9_hatch 24 = .ok (.iaload, 1) := by decide +kernel
theorem dX9_hatch_25 : decode cX9_hatch 25 = .ok (.ifCond .ne 7, 3) := by decide +kernel
theorem dX9_hatch_28 : decode cX9_hatch 28 = .ok (.iconst 1, 1) := by decide +kernel
theorem dX9_hatch_29 : decode cX9_hatch 29 = .ok (.goto 4, 3) := by decide +kernel
theorem dX9_hatch_32 : decode cX9_hatch 32 = .ok (.iconst 0, 1) := by decide +kernel
theorem dX9_hatch_33 : decode cX9_hatch 33 = .ok (.iadd, 1) := by decide +kernel
theorem dX9_hatch_34 : decode cX9_hatch 34 = .ok (.iastore, 1) := by decide +kernel
theorem dX9_hatch_35 : decode cX9_hatch 35 = .ok (.iinc 3 1, 3) := by decide +kernel
theorem dX9_hatch_38 : decode cX9_hatch 38 = .ok (.goto (-34), 3) := by decide +kernel
theorem dX9_hatch_41 : decode cX9_hatch 41 = .ok (.iconst 0, 1) := by decide +kernel
theorem dX9_hatch_42 : decode cX9_hatch 42 = .ok (.istore_n 3, 1) := by decide +kernel
theorem dX9_hatch_43 : decode cX9_hatch 43 = .ok (.iload_n 3, 1) := by decide +kernel
theorem dX9_hatch_44 : decode cX9_hatch 44 = .ok (.aload_n 0, 1) := by decide +kernel
theorem dX9_hatch_45 : decode cX9_hatch 45 = .ok (.getfield 63, 3) := by decide +kernel
theorem dX9_hatch_48 : decode cX9_hatch 48 = .ok (.if_icmp .ge 59, 3) := by decide +kernel
theorem dX9_hatch_51 : decode cX9_hatch 51 = .ok (.aload_n 1, 1) := by decide +kernel
theorem dX9_hatch_52 : decode cX9_hatch 52 = .ok (.bipush 6, 2) := by decide +kernel
theorem dX9_hatch_54 : decode cX9_hatch 54 = .ok (.iload_n 3, 1) := by decide +kernel
theorem dX9_hatch_55 : decode cX9_hatch 55 = .ok (.iadd, 1) := by decide +kernel
theorem dX9_hatch_56 : decode cX9_hatch 56 = .ok (.iaload, 1) := by decide +kernel
theorem dX9_hatch_57 : decode cX9_hatch 57 = .ok (.ifCond .ne 44, 3) := by decide +kernel
theorem dX9_hatch_60 : decode cX9_hatch 60 = .ok (.aload_n 1, 1) := by decide +kernel
theorem dX9_hatch_61 : decode cX9_hatch 61 = .ok (.bipush 12, 2) := by decide +kernel
theorem dX9_hatch_63 : decode cX9_hatch 63 = .ok (.iload_n 3, 1) := by decide +kernel
theorem dX9_hatch_64 : decode cX9_hatch 64 = .ok (.iadd, 1) := by decide +kernel
theorem dX9_hatch_65 : decode cX9_hatch 65 = .ok (.iaload, 1) := by decide +kernel
theorem dX9_hatch_66 : decode cX9_hatch 66 = .ok (.aload_n 0, 1) := by decide +kernel
theorem dX9_hatch_67 : decode cX9_hatch 67 = .ok (.aload_n 1, 1) := by decide +kernel
theorem dX9_hatch_68 : decode cX9_hatch 68 = .ok (.iload_n 3, 1) := by decide +kernel
theorem dX9_hatch_69 : decode cX9_hatch 69 = .ok (.invokevirtual 118, 3) := by decide +kernel
theorem dX9_hatch_72 : decode cX9_hatch 72 = .ok (.if_icmp .lt 29, 3) := by decide +kernel
theorem dX9_hatch_75 : decode cX9_hatch 75 = .ok (.aload_n 1, 1) := by decide +kernel
theorem dX9_hatch_76 : decode cX9_hatch 76 = .ok (.bipush 6, 2) := by decide +kernel
theorem dX9_hatch_78 : decode cX9_hatch 78 = .ok (.iload_n 3, 1) := by decide +kernel
theorem dX9_hatch_79 : decode cX9_hatch 79 = .ok (.iadd, 1) := by decide +kernel
theorem dX9_hatch_80 : decode cX9_hatch 80 = .ok (.iconst 2, 1) := by decide +kernel
theorem dX9_hatch_81 : decode cX9_hatch 81 = .ok (.iastore, 1) := by decide +kernel
theorem dX9_hatch_82 : decode cX9_hatch 82 = .ok (.iinc 2 1, 3) := by decide +kernel
theorem dX9_hatch_85 : decode cX9_hatch 85 = .ok (.aload_n 0, 1) := by decide +kernel
theorem dX9_hatch_86 : decode cX9_hatch 86 = .ok (.getfield 16, 3) := by decide +kernel
theorem dX9_hatch_89 : decode cX9_hatch 89 = .ok (.iload_n 3, 1) := by decide +kernel
theorem dX9_hatch_90 : decode cX9_hatch 90 = .ok (.iaload, 1) := by decide +kernel
theorem dX9_hatch_91 : decode cX9_hatch 91 = .ok (.iconst 1, 1) := by decide +kernel
theorem dX9_hatch_92 : decode cX9_hatch 92 = .ok (.if_icmp .ne 9, 3) := by decide +kernel
theorem dX9_hatch_95 : decode cX9_hatch 95 = .ok (.aload_n 0, 1) := by decide +kernel
theorem dX9_hatch_96 : decode cX9_hatch 96 = .ok (.aload_n 1, 1) := by decide +kernel
theorem dX9_hatch_97 : decode cX9_hatch 97 = .ok (.iload_n 3, 1) := by decide +kernel
theorem dX9_hatch_98 : decode cX9_hatch 98 = .ok (.invokevirtual 137, 3) := by decide +kernel
theorem dX9_hatch_101 : decode cX9_hatch 101 = .ok (.iinc 3 1, 3) := by decide +kernel
theorem dX9_hatch_104 : decode cX9_hatch 104 = .ok (.goto (-61), 3) := by decide +kernel
theorem dX9_hatch_107 : decode cX9_hatch 107 = .ok (.iload_n 2, 1) := by decide +kernel
theorem dX9_hatch_108 : decode cX9_hatch 108 = .ok (.ireturn, 1) := by decide +kernel
theorem dX9_goDay_0 : decode cX9_goDay 0 = .ok (.iconst 0, 1) := by decide +kernel
theorem dX9_goDay_1 : decode cX9_goDay 1 = .ok (.istore_n 2, 1) := by decide +kernel
theorem dX9_goDay_2 : decode cX9_goDay 2 = .ok (.iload_n 2, 1) := by decide +kernel
theorem dX9_goDay_3 : decode cX9_goDay 3 = .ok (.aload_n 0, 1) := by decide +kernel
theorem dX9_goDay_4 : decode cX9_goDay 4 = .ok (.getfield 70, 3) := by decide +kernel
theorem dX9_goDay_7 : decode cX9_goDay 7 = .ok (.if_icmp .ge 26, 3) := by decide +kernel
theorem dX9_goDay_10 : decode cX9_goDay 10 = .ok (.aload_n 0, 1) := by decide +kernel
theorem dX9_goDay_11 : decode cX9_goDay 11 = .ok (.getfield 141, 3) := by decide +kernel
theorem dX9_goDay_14 : decode cX9_goDay 14 = .ok (.iload_n 2, 1) := by decide +kernel
theorem dX9_goDay_15 : decode cX9_goDay 15 = .ok (.invokestatic 144, 3) := by decide +kernel
theorem dX9_goDay_18 : decode cX9_goDay 18 = .ok (.ifCond .eq 9, 3) := by decide +kernel
theorem dX9_goDay_21 : decode cX9_goDay 21 = .ok (.aload_n 0, 1) := by decide +kernel
theorem dX9_goDay_22 : decode cX9_goDay 22 = .ok (.aload_n 1, 1) := by decide +kernel
theorem dX9_goDay_23 : decode cX9_goDay 23 = .ok (.iload_n 2, 1) := by decide +kernel
theorem dX9_goDay_24 : decode cX9_goDay 24 = .ok (.invokevirtual 148, 3) := by decide +kernel
theorem dX9_goDay_27 : decode cX9_goDay 27 = .ok (.iinc 2 1, 3) := by decide +kernel
theorem dX9_goDay_30 : decode cX9_goDay 30 = .ok (.goto (-28), 3) := by decide +kernel
theorem dX9_goDay_33 : decode cX9_goDay 33 = .ok (.aload_n 0, 1) := by decide +kernel
theorem dX9_goDay_34 : decode cX9_goDay 34 = .ok (.aload_n 1, 1) := by decide +kernel
theorem dX9_goDay_35 : decode cX9_goDay 35 = .ok (.invokevirtual 151, 3) := by decide +kernel
theorem dX9_goDay_38 : decode cX9_goDay 38 = .ok (.istore_n 2, 1) := by decide +kernel
theorem dX9_goDay_39 : decode cX9_goDay 39 = .ok (.iconst 0, 1) := by decide +kernel
theorem dX9_goDay_40 : decode cX9_goDay 40 = .ok (.istore_n 3, 1) := by decide +kernel
theorem dX9_goDay_41 : decode cX9_goDay 41 = .ok (.iload_n 3, 1) := by decide +kernel
theorem dX9_goDay_42 : decode cX9_goDay 42 = .ok (.aload_n 0, 1) := by decide +kernel
theorem dX9_goDay_43 : decode cX9_goDay 43 = .ok (.getfield 63, 3) := by decide +kernel
theorem dX9_goDay_46 : decode cX9_goDay 46 = .ok (.if_icmp .ge 56, 3) := by decide +kernel
theorem dX9_goDay_49 : decode cX9_goDay 49 = .ok (.aload_n 1, 1) := by decide +kernel
theorem dX9_goDay_50 : decode cX9_goDay 50 = .ok (.bipush 6, 2) := by decide +kernel
theorem dX9_goDay_52 : decode cX9_goDay 52 = .ok (.iload_n 3, 1) := by decide +kernel
theorem dX9_goDay_53 : decode cX9_goDay 53 = .ok (.iadd, 1) := by decide +kernel
theorem dX9_goDay_54 : decode cX9_goDay 54 = .ok (.iaload, 1) := by decide +kernel
theorem dX9_goDay_55 : decode cX9_goDay 55 = .ok (.iconst 2, 1) := by decide +kernel
theorem dX9_goDay_56 : decode cX9_goDay 56 = .ok (.if_icmp .ne 40, 3) := by decide +kernel
theorem dX9_goDay_59 : decode cX9_goDay 59 = .ok (.aload_n 1, 1) := by decide +kernel
theorem dX9_goDay_60 : decode cX9_goDay 60 = .ok (.bipush 6, 2) := by decide +kernel
theorem dX9_goDay_62 : decode cX9_goDay 62 = .ok (.iload_n 3, 1) := by decide +kernel
theorem dX9_goDay_63 : decode cX9_goDay 63 = .ok (.iadd, 1) := by decide +kernel
theorem dX9_goDay_64 : decode cX9_goDay 64 = .ok (.aload_n 1, 1) := by decide +kernel
theorem dX9_goDay_65 : decode cX9_goDay 65 = .ok (.bipush 21, 2) := by decide +kernel
theorem dX9_goDay_67 : decode cX9_goDay 67 = .ok (.iaload, 1) := by decide +kernel
theorem dX9_goDay_68 : decode cX9_goDay 68 = .ok (.ifCond .le 7, 3) := by decide +kernel
theorem dX9_goDay_71 : decode cX9_goDay 71 = .ok (.iconst 2, 1) := by decide +kernel
theorem dX9_goDay_72 : decode cX9_goDay 72 = .ok (.goto 4, 3) := by decide +kernel
theorem dX9_goDay_75 : decode cX9_goDay 75 = .ok (.iconst 3, 1) := by decide +kernel
theorem dX9_goDay_76 : decode cX9_goDay 76 = .ok (.iastore, 1) := by decide +kernel
theorem dX9_goDay_77 : decode cX9_goDay 77 = .ok (.aload_n 1, 1) := by decide +kernel
theorem dX9_goDay_78 : decode cX9_goDay 78 = .ok (.bipush 21, 2) := by decide +kernel
theorem dX9_goDay_80 : decode cX9_goDay 80 = .ok (.dup2, 1) := by decide +kernel
theorem dX9_goDay_81 : decode cX9_goDay 81 = .ok (.iaload, 1) := by decide +kernel
theorem dX9_goDay_82 : decode cX9_goDay 82 = .ok (.aload_n 1, 1) := by decide +kernel
theorem dX9_goDay_83 : decode cX9_goDay 83 = .ok (.bipush 21, 2) := by decide +kernel
theorem dX9_goDay_85 : decode cX9_goDay 85 = .ok (.iaload, 1) := by decide +kernel
theorem dX9_goDay_86 : decode cX9_goDay 86 = .ok (.ifCond .le 7, 3) := by decide +kernel
theorem dX9_goDay_89 : decode cX9_goDay 89 = .ok (.iconst 1, 1) := by decide +kernel
theorem dX9_goDay_90 : decode cX9_goDay 90 = .ok (.goto 4, 3) := by decide +kernel
theorem dX9_goDay_93 : decode cX9_goDay 93 = .ok (.iconst 0, 1) := by decide +kernel
theorem dX9_goDay_94 : decode cX9_goDay 94 = .ok (.isub, 1) := by decide +kernel
theorem dX9_goDay_95 : decode cX9_goDay 95 = .ok (.iastore, 1) := by decide +kernel
theorem dX9_goDay_96 : decode cX9_goDay 96 = .ok (.iinc 3 1, 3) := by decide +kernel
theorem dX9_goDay_99 : decode cX9_goDay 99 = .ok (.goto (-58), 3) := by decide +kernel
theorem dX9_goDay_102 : decode cX9_goDay 102 = .ok (.aload_n 1, 1) := by decide +kernel
theorem dX9_goDay_103 : decode cX9_goDay 103 = .ok (.bipush 22, 2) := by decide +kernel
theorem dX9_goDay_105 : decode cX9_goDay 105 = .ok (.dup2, 1) := by decide +kernel
theorem dX9_goDay_106 : decode cX9_goDay 106 = .ok (.iaload, 1) := by decide +kernel
theorem dX9_goDay_107 : decode cX9_goDay 107 = .ok (.iconst 1, 1) := by decide +kernel
theorem dX9_goDay_108 : decode cX9_goDay 108 = .ok (.iadd, 1) := by decide +kernel
theorem dX9_goDay_109 : decode cX9_goDay 109 = .ok (.iastore, 1) := by decide +kernel
theorem dX9_goDay_110 : decode cX9_goDay 110 = .ok (.iload_n 2, 1) := by decide +kernel
theorem dX9_goDay_111 : decode cX9_goDay 111 = .ok (.ireturn, 1) := by decide +kernel
theorem dX9_goDays_0 : decode cX9_goDays 0 = .ok (.iconst 0, 1) := by decide +kernel
theorem dX9_goDays_1 : decode cX9_goDays 1 = .ok (.istore_n 2, 1) := by decide +kernel
theorem dX9_goDays_2 : decode cX9_goDays 2 = .ok (.iload_n 2, 1) := by decide +kernel
theorem dX9_goDays_3 : decode cX9_goDays 3 = .ok (.iload_n 1, 1) := by decide +kernel
theorem dX9_goDays_4 : decode cX9_goDays 4 = .ok (.if_icmp .ge 18, 3) := by decide +kernel
theorem dX9_goDays_7 : decode cX9_goDays 7 = .ok (.aload_n 0, 1) := by decide +kernel
theorem dX9_goDays_8 : decode cX9_goDays 8 = .ok (.aload_n 0, 1) := by decide +kernel
theorem dX9_goDays_9 : decode cX9_goDays 9 = .ok (.getfield 31, 3) := by decide +kernel
theorem dX9_goDays_12 : decode cX9_goDays 12 = .ok (.invokevirtual 155, 3) := by decide +kernel
theorem dX9_goDays_15 : decode cX9_goDays 15 = .ok (.pop, 1) := by decide +kernel
theorem dX9_goDays_16 : decode cX9_goDays 16 = .ok (.iinc 2 1, 3) := by decide +kernel
theorem dX9_goDays_19 : decode cX9_goDays 19 = .ok (.goto (-17), 3) := by decide +kernel
theorem dX9_goDays_22 : decode cX9_goDays 22 = .ok (.return_, 1) := by decide +kernel
theorem dX9_about_0 : decode cX9_about 0 = .ok (.aload_n 0, 1) := by decide +kernel
theorem dX9_about_1 : decode cX9_about 1 = .ok (.iconst 0, 1) := by decide +kernel
theorem dX9_about_2 : decode cX9_about 2 = .ok (.putfield 59, 3) := by decide +kernel
theorem dX9_about_5 : decode cX9_about 5 = .ok (.iload_n 1, 1) := by decide +kernel
theorem dX9_about_6 : decode cX9_about 6 = .ok (.tableswitch 120 0 11 #[62, 67, 72, 80, 88, 88, 88, 88, 100, 105, 110, 115], 62) := by decide +kernel
theorem dX9_about_68 : decode cX9_about 68 = .ok (.aload_n 0, 1) := by decide +kernel
theorem dX9_about_69 : decode cX9_about 69 = .ok (.getfield 63, 3) := by decide +kernel
theorem dX9_about_72 : decode cX9_about 72 = .ok (.ireturn, 1) := by decide +kernel
theorem dX9_about_73 : decode cX9_about 73 = .ok (.aload_n 0, 1) := by decide +kernel
theorem dX9_about_74 : decode cX9_about 74 = .ok (.getfield 70, 3) := by decide +kernel
theorem dX9_about_77 : decode cX9_about 77 = .ok (.ireturn, 1) := by decide +kernel
theorem dX9_about_78 : decode cX9_about 78 = .ok (.aload_n 0, 1) := by decide +kernel
theorem dX9_about_79 : decode cX9_about 79 = .ok (.getfield 28, 3) := by decide +kernel
theorem dX9_about_82 : decode cX9_about 82 = .ok (.bipush 22, 2) := by decide +kernel
theorem dX9_about_84 : decode cX9_about 84 = .ok (.iaload, 1) := by decide +kernel
theorem dX9_about_85 : decode cX9_about 85 = .ok (.ireturn, 1) := by decide +kernel
theorem dX9_about_86 : decode cX9_about 86 = .ok (.aload_n 0, 1) := by decide +kernel
theorem dX9_about_87 : decode cX9_about 87 = .ok (.getfield 28, 3) := by decide +kernel
theorem dX9_about_90 : decode cX9_about 90 = .ok (.bipush 21, 2) := by decide +kernel
theorem dX9_about_92 : decode cX9_about 92 = .ok (.iaload, 1) := by decide +kernel
theorem dX9_about_93 : decode cX9_about 93 = .ok (.ireturn, 1) := by decide +kernel
theorem dX9_about_94 : decode cX9_about 94 = .ok (.aload_n 0, 1) := by decide +kernel
theorem dX9_about_95 : decode cX9_about 95 = .ok (.aload_n 0, 1) := by decide +kernel
theorem dX9_about_96 : decode cX9_about 96 = .ok (.getfield 28, 3) := by decide +kernel
theorem dX9_about_99 : decode cX9_about 99 = .ok (.iload_n 1, 1) := by decide +kernel
theorem dX9_about_100 : decode cX9_about 100 = .ok (.iconst 4, 1) := by decide +kernel
theorem dX9_about_101 : decode cX9_about 101 = .ok (.isub, 1) := by decide +kernel
theorem dX9_about_102 : decode cX9_about 102 = .ok (.invokevirtual 122, 3) := by decide +kernel
theorem dX9_about_105 : decode cX9_about 105 = .ok (.ireturn, 1) := by decide +kernel
theorem dX9_about_106 : decode cX9_about 106 = .ok (.aload_n 0, 1) := by decide +kernel
theorem dX9_about_107 : decode cX9_about 107 = .ok (.invokevirtual 158, 3) := by decide +kernel
theorem dX9_about_110 : decode cX9_about 110 = .ok (.ireturn, 1) := by decide +kernel
theorem dX9_about_111 : decode cX9_about 111 = .ok (.aload_n 0, 1) := by decide +kernel
theorem dX9_about_112 : decode cX9_about 112 = .ok (.getfield 112, 3) := by decide +kernel
theorem dX9_about_115 : decode cX9_about 115 = .ok (.ireturn, 1) := by decide +kernel
theorem dX9_about_116 : decode cX9_about 116 = .ok (.aload_n 0, 1) := by decide +kernel
theorem dX9_about_117 : decode cX9_about 117 = .ok (.getfield 161, 3) := by decide +kernel
theorem dX9_about_120 : decode cX9_about 120 = .ok (.ireturn, 1) := by decide +kernel
theorem dX9_about_121 : decode cX9_about 121 = .ok (.aload_n 0, 1) := by decide +kernel
theorem dX9_about_122 : decode cX9_about 122 = .ok (.getfield 75, 3) := by decide +kernel
theorem dX9_about_125 : decode cX9_about 125 = .ok (.ireturn, 1) := by decide +kernel
theorem dX9_about_126 : decode cX9_about 126 = .ok (.bipush (-2), 2) := by decide +kernel
theorem dX9_about_128 : decode cX9_about 128 = .ok (.ireturn, 1) := by decide +kernel
theorem dX9_letter_0 : decode cX9_letter 0 = .ok (.aload_n 0, 1) := by decide +kernel
theorem dX9_letter_1 : decode cX9_letter 1 = .ok (.iconst 0, 1) := by decide +kernel
theorem dX9_letter_2 : decode cX9_letter 2 = .ok (.putfield 59, 3) := by decide +kernel
theorem dX9_letter_5 : decode cX9_letter 5 = .ok (.aload_n 0, 1) := by decide +kernel
theorem dX9_letter_6 : decode cX9_letter 6 = .ok (.iload_n 1, 1) := by decide +kernel
theorem dX9_letter_7 : decode cX9_letter 7 = .ok (.invokevirtual 164, 3) := by decide +kernel
theorem dX9_letter_10 : decode cX9_letter 10 = .ok (.ifCond .eq 5, 3) := by decide +kernel
theorem dX9_letter_13 : decode cX9_letter 13 = .ok (.iconst (-1), 1) := by decide +kernel
theorem dX9_letter_14 : decode cX9_letter 14 = .ok (.ireturn, 1) := by decide +kernel
theorem dX9_letter_15 : decode cX9_letter 15 = .ok (.iload_n 2, 1) := by decide +kernel
theorem dX9_letter_16 : decode cX9_letter 16 = .ok (.tableswitch 108 0 5 #[40, 47, 54, 61, 71, 81], 40) := by decide +kernel
theorem dX9_letter_56 : decode cX9_letter 56 = .ok (.aload_n 0, 1) := by decide +kernel
theorem dX9_letter_57 : decode cX9_letter 57 = .ok (.getfield 28, 3) := by decide +kernel
theorem dX9_letter_60 : decode cX9_letter 60 = .ok (.iload_n 1, 1) := by decide +kernel
theorem dX9_letter_61 : decode cX9_letter 61 = .ok (.iaload, 1) := by decide +kernel
theorem dX9_letter_62 : decode cX9_letter 62 = .ok (.ireturn, 1) := by decide +kernel
theorem dX9_letter_63 : decode cX9_letter 63 = .ok (.aload_n 0, 1) := by decide +kernel
theorem dX9_letter_64 : decode cX9_letter 64 = .ok (.getfield 13, 3) := by decide +kernel
theorem dX9_letter_67 : decode cX9_letter 67 = .ok (.iload_n 1, 1) := by decide +kernel
theorem dX9_letter_68 : decode cX9_letter 68 = .ok (.iaload, 1) := by decide +kernel
theorem dX9_letter_69 : decode cX9_letter 69 = .ok (.ireturn, 1) := by decide +kernel
theorem dX9_letter_70 : decode cX9_letter 70 = .ok (.aload_n 0, 1) := by decide +kernel
theorem dX9_letter_71 : decode cX9_letter 71 = .ok (.getfield 16, 3) := by decide +kernel
theorem dX9_letter_74 : decode cX9_letter 74 = .ok (.iload_n 1, 1) := by decide +kernel
theorem dX9_letter_75 : decode cX9_letter 75 = .ok (.iaload, 1) := by decide +kernel
theorem dX9_letter_76 : decode cX9_letter 76 = .ok (.ireturn, 1) := by decide +kernel
theorem dX9_letter_77 : decode cX9_letter 77 = .ok (.aload_n 0, 1) := by decide +kernel
theorem dX9_letter_78 : decode cX9_letter 78 = .ok (.getfield 28, 3) := by decide +kernel
theorem dX9_letter_81 : decode cX9_letter 81 = .ok (.bipush 6, 2) := by decide +kernel
theorem dX9_letter_83 : decode cX9_letter 83 = .ok (.iload_n 1, 1) := by decide +kernel
theorem dX9_letter_84 : decode cX9_letter 84 = .ok (.iadd, 1) := by decide +kernel
theorem dX9_letter_85 : decode cX9_letter 85 = .ok (.iaload, 1) := by decide +kernel
theorem dX9_letter_86 : decode cX9_letter 86 = .ok (.ireturn, 1) := by decide +kernel
theorem dX9_letter_87 : decode cX9_letter 87 = .ok (.aload_n 0, 1) := by decide +kernel
theorem dX9_letter_88 : decode cX9_letter 88 = .ok (.getfield 28, 3) := by decide +kernel
theorem dX9_letter_91 : decode cX9_letter 91 = .ok (.bipush 12, 2) := by decide +kernel
theorem dX9_letter_93 : decode cX9_letter 93 = .ok (.iload_n 1, 1) := by decide +kernel
theorem dX9_letter_94 : decode cX9_letter 94 = .ok (.iadd, 1) := by decide +kernel
theorem dX9_letter_95 : decode cX9_letter 95 = .ok (.iaload, 1) := by decide +kernel
theorem dX9_letter_96 : decode cX9_letter 96 = .ok (.ireturn, 1) := by decide +kernel
theorem dX9_letter_97 : decode cX9_letter 97 = .ok (.aload_n 0, 1) := by decide +kernel
theorem dX9_letter_98 : decode cX9_letter 98 = .ok (.getfield 28, 3) := by decide +kernel
theorem dX9_letter_101 : decode cX9_letter 101 = .ok (.bipush 6, 2) := by decide +kernel
theorem dX9_letter_103 : decode cX9_letter 103 = .ok (.iload_n 1, 1) := by decide +kernel
theorem dX9_letter_104 : decode cX9_letter 104 = .ok (.iadd, 1) := by decide +kernel
theorem dX9_letter_105 : decode cX9_letter 105 = .ok (.iaload, 1) := by decide +kernel
theorem dX9_letter_106 : decode cX9_letter 106 = .ok (.ifCond .ne 15, 3) := by decide +kernel
theorem dX9_letter_109 : decode cX9_letter 109 = .ok (.aload_n 0, 1) := by decide +kernel
theorem dX9_letter_110 : decode cX9_letter 110 = .ok (.aload_n 0, 1) := by decide +kernel
theorem dX9_letter_111 : decode cX9_letter 111 = .ok (.getfield 28, 3) := by decide +kernel
theorem dX9_letter_114 : decode cX9_letter 114 = .ok (.iload_n 1, 1) := by decide +kernel
theorem dX9_letter_115 : decode cX9_letter 115 = .ok (.invokevirtual 131, 3) := by decide +kernel
theorem dX9_letter_118 : decode cX9_letter 118 = .ok (.goto 5, 3) := by decide +kernel
theorem dX9_letter_121 : decode cX9_letter 121 = .ok (.bipush (-9), 2) := by decide +kernel
theorem dX9_letter_123 : decode cX9_letter 123 = .ok (.ireturn, 1) := by decide +kernel
theorem dX9_letter_124 : decode cX9_letter 124 = .ok (.bipush (-2), 2) := by decide +kernel
theorem dX9_letter_126 : decode cX9_letter 126 = .ok (.ireturn, 1) := by decide +kernel
theorem dX9_clerk_0 : decode cX9_clerk 0 = .ok (.aload_n 0, 1) := by decide +kernel
theorem dX9_clerk_1 : decode cX9_clerk 1 = .ok (.iconst 0, 1) := by decide +kernel
theorem dX9_clerk_2 : decode cX9_clerk 2 = .ok (.putfield 59, 3) := by decide +kernel
theorem dX9_clerk_5 : decode cX9_clerk 5 = .ok (.aload_n 0, 1) := by decide +kernel
theorem dX9_clerk_6 : decode cX9_clerk 6 = .ok (.iload_n 1, 1) := by decide +kernel
theorem dX9_clerk_7 : decode cX9_clerk 7 = .ok (.invokevirtual 168, 3) := by decide +kernel
theorem dX9_clerk_10 : decode cX9_clerk 10 = .ok (.ifCond .eq 5, 3) := by decide +kernel
theorem dX9_clerk_13 : decode cX9_clerk 13 = .ok (.iconst (-1), 1) := by decide +kernel
theorem dX9_clerk_14 : decode cX9_clerk 14 = .ok (.ireturn, 1) := by decide +kernel
theorem dX9_clerk_15 : decode cX9_clerk 15 = .ok (.iload_n 2, 1) := by decide +kernel
theorem dX9_clerk_16 : decode cX9_clerk 16 = .ok (.ifCond .ne 15, 3) := by decide +kernel
theorem dX9_clerk_19 : decode cX9_clerk 19 = .ok (.aload_n 0, 1) := by decide +kernel
theorem dX9_clerk_20 : decode cX9_clerk 20 = .ok (.getfield 28, 3) := by decide +kernel
theorem dX9_clerk_23 : decode cX9_clerk 23 = .ok (.bipush 18, 2) := by decide +kernel
theorem dX9_clerk_25 : decode cX9_clerk 25 = .ok (.iload_n 1, 1) := by decide +kernel
theorem dX9_clerk_26 : decode cX9_clerk 26 = .ok (.iadd, 1) := by decide +kernel
theorem dX9_clerk_27 : decode cX9_clerk 27 = .ok (.iaload, 1) := by decide +kernel
theorem dX9_clerk_28 : decode cX9_clerk 28 = .ok (.goto 19, 3) := by decide +kernel
theorem dX9_clerk_31 : decode cX9_clerk 31 = .ok (.iload_n 2, 1) := by decide +kernel
theorem dX9_clerk_32 : decode cX9_clerk 32 = .ok (.iconst 1, 1) := by decide +kernel
theorem dX9_clerk_33 : decode cX9_clerk 33 = .ok (.if_icmp .ne 12, 3) := by decide +kernel
theorem dX9_clerk_36 : decode cX9_clerk 36 = .ok (.aload_n 0, 1) := by decide +kernel
theorem dX9_clerk_37 : decode cX9_clerk 37 = .ok (.getfield 19, 3) := by decide +kernel
theorem dX9_clerk_40 : decode cX9_clerk 40 = .ok (.iload_n 1, 1) := by decide +kernel
theorem dX9_clerk_41 : decode cX9_clerk 41 = .ok (.iaload, 1) := by decide +kernel
theorem dX9_clerk_42 : decode cX9_clerk 42 = .ok (.goto 5, 3) := by decide +kernel
theorem dX9_clerk_45 : decode cX9_clerk 45 = .ok (.bipush (-2), 2) := by decide +kernel
theorem dX9_clerk_47 : decode cX9_clerk 47 = .ok (.ireturn, 1) := by decide +kernel
theorem dX9_hole_0 : decode cX9_hole 0 = .ok (.aload_n 0, 1) := by decide +kernel
theorem dX9_hole_1 : decode cX9_hole 1 = .ok (.iconst 0, 1) := by decide +kernel
theorem dX9_hole_2 : decode cX9_hole 2 = .ok (.putfield 59, 3) := by decide +kernel
theorem dX9_hole_5 : decode cX9_hole 5 = .ok (.iload_n 1, 1) := by decide +kernel
theorem dX9_hole_6 : decode cX9_hole 6 = .ok (.i2l, 1) := by decide +kernel
theorem dX9_hole_7 : decode cX9_hole 7 = .ok (.lconst 0, 1) := by decide +kernel
theorem dX9_hole_8 : decode cX9_hole 8 = .ok (.ldc2_w 171, 3) := by decide +kernel
theorem dX9_hole_11 : decode cX9_hole 11 = .ok (.invokestatic 66, 3) := by decide +kernel
theorem dX9_hole_14 : decode cX9_hole 14 = .ok (.ifCond .eq 15, 3) := by decide +kernel
theorem dX9_hole_17 : decode cX9_hole 17 = .ok (.aload_n 0, 1) := by decide +kernel
theorem dX9_hole_18 : decode cX9_hole 18 = .ok (.aload_n 0, 1) := by decide +kernel
theorem dX9_hole_19 : decode cX9_hole 19 = .ok (.getfield 28, 3) := by decide +kernel
theorem dX9_hole_22 : decode cX9_hole 22 = .ok (.iload_n 1, 1) := by decide +kernel
theorem dX9_hole_23 : decode cX9_hole 23 = .ok (.invokevirtual 125, 3) := by decide +kernel
theorem dX9_hole_26 : decode cX9_hole 26 = .ok (.goto 4, 3) := by decide +kernel
theorem dX9_hole_29 : decode cX9_hole 29 = .ok (.iconst (-1), 1) := by decide +kernel
theorem dX9_hole_30 : decode cX9_hole 30 = .ok (.ireturn, 1) := by decide +kernel
theorem dX9_note_0 : decode cX9_note 0 = .ok (.aload_n 0, 1) := by decide +kernel
theorem dX9_note_1 : decode cX9_note 1 = .ok (.getfield 112, 3) := by decide +kernel
theorem dX9_note_4 : decode cX9_note 4 = .ok (.bipush 14, 2) := by decide +kernel
theorem dX9_note_6 : decode cX9_note 6 = .ok (.if_icmp .ne 43, 3) := by decide +kernel
theorem dX9_note_9 : decode cX9_note 9 = .ok (.iconst 0, 1) := by decide +kernel
theorem dX9_note_10 : decode cX9_note 10 = .ok (.istore_n 1, 1) := by decide +kernel
theorem dX9_note_11 : decode cX9_note 11 = .ok (.iload_n 1, 1) := by decide +kernel
theorem dX9_note_12 : decode cX9_note 12 = .ok (.sipush 299, 3) := by decide +kernel
theorem dX9_note_15 : decode cX9_note 15 = .ok (.if_icmp .ge 24, 3) := by decide +kernel
theorem dX9_note_18 : decode cX9_note 18 = .ok (.aload_n 0, 1) := by decide +kernel
theorem dX9_note_19 : decode cX9_note 19 = .ok (.getfield 34, 3) := by decide +kernel
theorem dX9_note_22 : decode cX9_note 22 = .ok (.iload_n 1, 1) := by decide +kernel
theorem dX9_note_23 : decode cX9_note 23 = .ok (.aload_n 0, 1) := by decide +kernel
theorem dX9_note_24 : decode cX9_note 24 = .ok (.getfield 34, 3) := by decide +kernel
theorem dX9_note_27 : decode cX9_note 27 = .ok (.iload_n 1, 1) := by decide +kernel
theorem dX9_note_28 : decode cX9_note 28 = .ok (.bipush 23, 2) := by decide +kernel
theorem dX9_note_30 : decode cX9_note 30 = .ok (.iadd, 1) := by decide +kernel
theorem dX9_note_31 : decode cX9_note 31 = .ok (.iaload, 1) := by decide +kernel
theorem dX9_note_32 : decode cX9_note 32 = .ok (.iastore, 1) := by decide +kernel
theorem dX9_note_33 : decode cX9_note 33 = .ok (.iinc 1 1, 3) := by decide +kernel
theorem dX9_note_36 : decode cX9_note 36 = .ok (.goto (-25), 3) := by decide +kernel
theorem dX9_note_39 : decode cX9_note 39 = .ok (.aload_n 0, 1) := by decide +kernel
theorem dX9_note_40 : decode cX9_note 40 = .ok (.dup, 1) := by decide +kernel
theorem dX9_note_41 : decode cX9_note 41 = .ok (.getfield 112, 3) := by decide +kernel
theorem dX9_note_44 : decode cX9_note 44 = .ok (.iconst 1, 1) := by decide +kernel
theorem dX9_note_45 : decode cX9_note 45 = .ok (.isub, 1) := by decide +kernel
theorem dX9_note_46 : decode cX9_note 46 = .ok (.putfield 112, 3) := by decide +kernel
theorem dX9_note_49 : decode cX9_note 49 = .ok (.iconst 0, 1) := by decide +kernel
theorem dX9_note_50 : decode cX9_note 50 = .ok (.istore_n 1, 1) := by decide +kernel
theorem dX9_note_51 : decode cX9_note 51 = .ok (.iload_n 1, 1) := by decide +kernel
theorem dX9_note_52 : decode cX9_note 52 = .ok (.bipush 23, 2) := by decide +kernel
theorem dX9_note_54 : decode cX9_note 54 = .ok (.if_icmp .ge 29, 3) := by decide +kernel
theorem dX9_note_57 : decode cX9_note 57 = .ok (.aload_n 0, 1) := by decide +kernel
theorem dX9_note_58 : decode cX9_note 58 = .ok (.getfield 34, 3) := by decide +kernel
theorem dX9_note_61 : decode cX9_note 61 = .ok (.bipush 23, 2) := by decide +kernel
theorem dX9_note_63 : decode cX9_note 63 = .ok (.aload_n 0, 1) := by decide +kernel
theorem dX9_note_64 : decode cX9_note 64 = .ok (.getfield 112, 3) := by decide +kernel
theorem dX9_note_67 : decode cX9_note 67 = .ok (.imul, 1) := by decide +kernel
theorem dX9_note_68 : decode cX9_note 68 = .ok (.iload_n 1, 1) := by decide +kernel
theorem dX9_note_69 : decode cX9_note 69 = .ok (.iadd, 1) := by decide +kernel
theorem dX9_note_70 : decode cX9_note 70 = .ok (.aload_n 0, 1) := by decide +kernel
theorem dX9_note_71 : decode cX9_note 71 = .ok (.getfield 28, 3) := by decide +kernel
theorem dX9_note_74 : decode cX9_note 74 = .ok (.iload_n 1, 1) := by decide +kernel
theorem dX9_note_75 : decode cX9_note 75 = .ok (.iaload, 1) := by decide +kernel
theorem dX9_note_76 : decode cX9_note 76 = .ok (.iastore, 1) := by decide +kernel
theorem dX9_note_77 : decode cX9_note 77 = .ok (.iinc 1 1, 3) := by decide +kernel
theorem dX9_note_80 : decode cX9_note 80 = .ok (.goto (-29), 3) := by decide +kernel
theorem dX9_note_83 : decode cX9_note 83 = .ok (.aload_n 0, 1) := by decide +kernel
theorem dX9_note_84 : decode cX9_note 84 = .ok (.dup, 1) := by decide +kernel
theorem dX9_note_85 : decode cX9_note 85 = .ok (.getfield 112, 3) := by decide +kernel
theorem dX9_note_88 : decode cX9_note 88 = .ok (.iconst 1, 1) := by decide +kernel
theorem dX9_note_89 : decode cX9_note 89 = .ok (.iadd, 1) := by decide +kernel
theorem dX9_note_90 : decode cX9_note 90 = .ok (.putfield 112, 3) := by decide +kernel
theorem dX9_note_93 : decode cX9_note 93 = .ok (.return_, 1) := by decide +kernel
theorem dX9_day_0 : decode cX9_day 0 = .ok (.aload_n 0, 1) := by decide +kernel
theorem dX9_day_1 : decode cX9_day 1 = .ok (.iconst 0, 1) := by decide +kernel
theorem dX9_day_2 : decode cX9_day 2 = .ok (.putfield 59, 3) := by decide +kernel
theorem dX9_day_5 : decode cX9_day 5 = .ok (.aload_n 0, 1) := by decide +kernel
theorem dX9_day_6 : decode cX9_day 6 = .ok (.bipush 7, 2) := by decide +kernel
theorem dX9_day_8 : decode cX9_day 8 = .ok (.putfield 141, 3) := by decide +kernel
theorem dX9_day_11 : decode cX9_day 11 = .ok (.aload_n 0, 1) := by decide +kernel
theorem dX9_day_12 : decode cX9_day 12 = .ok (.invokevirtual 173, 3) := by decide +kernel
theorem dX9_day_15 : decode cX9_day 15 = .ok (.aload_n 0, 1) := by decide +kernel
theorem dX9_day_16 : decode cX9_day 16 = .ok (.aload_n 0, 1) := by decide +kernel
theorem dX9_day_17 : decode cX9_day 17 = .ok (.getfield 28, 3) := by decide +kernel
theorem dX9_day_20 : decode cX9_day 20 = .ok (.invokevirtual 155, 3) := by decide +kernel
theorem dX9_day_23 : decode cX9_day 23 = .ok (.ireturn, 1) := by decide +kernel
theorem dX9_canPut_0 : decode cX9_canPut 0 = .ok (.aload_n 1, 1) := by decide +kernel
theorem dX9_canPut_1 : decode cX9_canPut 1 = .ok (.bipush 6, 2) := by decide +kernel
theorem dX9_canPut_3 : decode cX9_canPut 3 = .ok (.iload_n 2, 1) := by decide +kernel
theorem dX9_canPut_4 : decode cX9_canPut 4 = .ok (.iadd, 1) := by decide +kernel
theorem dX9_canPut_5 : decode cX9_canPut 5 = .ok (.iaload, 1) := by decide +kernel
theorem dX9_canPut_6 : decode cX9_canPut 6 = .ok (.ifCond .ne 27, 3) := by decide +kernel
theorem dX9_canPut_9 : decode cX9_canPut 9 = .ok (.aload_n 1, 1) := by decide +kernel
theorem dX9_canPut_10 : decode cX9_canPut 10 = .ok (.iload_n 2, 1) := by decide +kernel
theorem dX9_canPut_11 : decode cX9_canPut 11 = .ok (.iaload, 1) := by decide +kernel
theorem dX9_canPut_12 : decode cX9_canPut 12 = .ok (.iload_n 3, 1) := by decide +kernel
theorem dX9_canPut_13 : decode cX9_canPut 13 = .ok (.if_icmp .eq 20, 3) := by decide +kernel
theorem dX9_canPut_16 : decode cX9_canPut 16 = .ok (.aload_n 0, 1) := by decide +kernel
theorem dX9_canPut_17 : decode cX9_canPut 17 = .ok (.aload_n 1, 1) := by decide +kernel
theorem dX9_canPut_18 : decode cX9_canPut 18 = .ok (.iload_n 3, 1) := by decide +kernel
theorem dX9_canPut_19 : decode cX9_canPut 19 = .ok (.invokevirtual 125, 3) := by decide +kernel
theorem dX9_canPut_22 : decode cX9_canPut 22 = .ok (.invokestatic 128, 3) := by decide +kernel
theorem dX9_canPut_25 : decode cX9_canPut 25 = .ok (.iconst 2, 1) := by decide +kernel
theorem dX9_canPut_26 : decode cX9_canPut 26 = .ok (.if_icmp .ge 7, 3) := by decide +kernel
theorem dX9_canPut_29 : decode cX9_canPut 29 = .ok (.iconst 1, 1) := by decide +kernel
theorem dX9_canPut_30 : decode cX9_canPut 30 = .ok (.goto 4, 3) := by decide +kernel
theorem dX9_canPut_33 : decode cX9_canPut 33 = .ok (.iconst 0, 1) := by decide +kernel
theorem dX9_canPut_34 : decode cX9_canPut 34 = .ok (.ireturn, 1) := by decide +kernel
theorem dX9_put_0 : decode cX9_put 0 = .ok (.aload_n 0, 1) := by decide +kernel
theorem dX9_put_1 : decode cX9_put 1 = .ok (.iconst 0, 1) := by decide +kernel
theorem dX9_put_2 : decode cX9_put 2 = .ok (.putfield 59, 3) := by decide +kernel
theorem dX9_put_5 : decode cX9_put 5 = .ok (.aload_n 0, 1) := by decide +kernel
theorem dX9_put_6 : decode cX9_put 6 = .ok (.iload_n 1, 1) := by decide +kernel
theorem dX9_put_7 : decode cX9_put 7 = .ok (.invokevirtual 164, 3) := by decide +kernel
theorem dX9_put_10 : decode cX9_put 10 = .ok (.ifCond .ne 15, 3) := by decide +kernel
theorem dX9_put_13 : decode cX9_put 13 = .ok (.iload_n 2, 1) := by decide +kernel
theorem dX9_put_14 : decode cX9_put 14 = .ok (.i2l, 1) := by decide +kernel
theorem dX9_put_15 : decode cX9_put 15 = .ok (.lconst 0, 1) := by decide +kernel
theorem dX9_put_16 : decode cX9_put 16 = .ok (.ldc2_w 171, 3) := by decide +kernel
theorem dX9_put_19 : decode cX9_put 19 = .ok (.invokestatic 66, 3) := by decide +kernel
theorem dX9_put_22 : decode cX9_put 22 = .ok (.ifCond .ne 5, 3) := by decide +kernel
theorem dX9_put_25 : decode cX9_put 25 = .ok (.iconst (-1), 1) := by decide +kernel
theorem dX9_put_26 : decode cX9_put 26 = .ok (.ireturn, 1) := by decide +kernel
theorem dX9_put_27 : decode cX9_put 27 = .ok (.aload_n 0, 1) := by decide +kernel
theorem dX9_put_28 : decode cX9_put 28 = .ok (.aload_n 0, 1) := by decide +kernel
theorem dX9_put_29 : decode cX9_put 29 = .ok (.getfield 28, 3) := by decide +kernel
theorem dX9_put_32 : decode cX9_put 32 = .ok (.iload_n 1, 1) := by decide +kernel
theorem dX9_put_33 : decode cX9_put 33 = .ok (.iload_n 2, 1) := by decide +kernel
theorem dX9_put_34 : decode cX9_put 34 = .ok (.invokevirtual 176, 3) := by decide +kernel
theorem dX9_put_37 : decode cX9_put 37 = .ok (.ifCond .ne 6, 3) := by decide +kernel
theorem dX9_put_40 : decode cX9_put 40 = .ok (.bipush (-3), 2) := by decide +kernel
theorem dX9_put_42 : decode cX9_put 42 = .ok (.ireturn, 1) := by decide +kernel
theorem dX9_put_43 : decode cX9_put 43 = .ok (.aload_n 0, 1) := by decide +kernel
theorem dX9_put_44 : decode cX9_put 44 = .ok (.invokevirtual 173, 3) := by decide +kernel
theorem dX9_put_47 : decode cX9_put 47 = .ok (.aload_n 0, 1) := by decide +kernel
theorem dX9_put_48 : decode cX9_put 48 = .ok (.getfield 28, 3) := by decide +kernel
theorem dX9_put_51 : decode cX9_put 51 = .ok (.iload_n 1, 1) := by decide +kernel
theorem dX9_put_52 : decode cX9_put 52 = .ok (.iaload, 1) := by decide +kernel
theorem dX9_put_53 : decode cX9_put 53 = .ok (.istore_n 3, 1) := by decide +kernel
theorem dX9_put_54 : decode cX9_put 54 = .ok (.aload_n 0, 1) := by decide +kernel
theorem dX9_put_55 : decode cX9_put 55 = .ok (.getfield 28, 3) := by decide +kernel
theorem dX9_put_58 : decode cX9_put 58 = .ok (.iload_n 1, 1) := by decide +kernel
theorem dX9_put_59 : decode cX9_put 59 = .ok (.iload_n 2, 1) := by decide +kernel
theorem dX9_put_60 : decode cX9_put 60 = .ok (.iastore, 1) := by decide +kernel
theorem dX9_put_61 : decode cX9_put 61 = .ok (.iload_n 3, 1) := by decide +kernel
theorem dX9_put_62 : decode cX9_put 62 = .ok (.ireturn, 1) := by decide +kernel
theorem dX9_goFeed_0 : decode cX9_goFeed 0 = .ok (.aload_n 0, 1) := by decide +kernel
theorem dX9_goFeed_1 : decode cX9_goFeed 1 = .ok (.bipush 21, 2) := by decide +kernel
theorem dX9_goFeed_3 : decode cX9_goFeed 3 = .ok (.aload_n 0, 1) := by decide +kernel
theorem dX9_goFeed_4 : decode cX9_goFeed 4 = .ok (.bipush 21, 2) := by decide +kernel
theorem dX9_goFeed_6 : decode cX9_goFeed 6 = .ok (.iaload, 1) := by decide +kernel
theorem dX9_goFeed_7 : decode cX9_goFeed 7 = .ok (.iload_n 1, 1) := by decide +kernel
theorem dX9_goFeed_8 : decode cX9_goFeed 8 = .ok (.iadd, 1) := by decide +kernel
theorem dX9_goFeed_9 : decode cX9_goFeed 9 = .ok (.bipush 99, 2) := by decide +kernel
theorem dX9_goFeed_11 : decode cX9_goFeed 11 = .ok (.if_icmp .le 8, 3) := by decide +kernel
theorem dX9_goFeed_14 : decode cX9_goFeed 14 = .ok (.bipush 99, 2) := by decide +kernel
theorem dX9_goFeed_16 : decode cX9_goFeed 16 = .ok (.goto 9, 3) := by decide +kernel
theorem dX9_goFeed_19 : decode cX9_goFeed 19 = .ok (.aload_n 0, 1) := by decide +kernel
theorem dX9_goFeed_20 : decode cX9_goFeed 20 = .ok (.bipush 21, 2) := by decide +kernel
theorem dX9_goFeed_22 : decode cX9_goFeed 22 = .ok (.iaload, 1) := by decide +kernel
theorem dX9_goFeed_23 : decode cX9_goFeed 23 = .ok (.iload_n 1, 1) := by decide +kernel
theorem dX9_goFeed_24 : decode cX9_goFeed 24 = .ok (.iadd, 1) := by decide +kernel
theorem dX9_goFeed_25 : decode cX9_goFeed 25 = .ok (.iastore, 1) := by decide +kernel
theorem dX9_goFeed_26 : decode cX9_goFeed 26 = .ok (.return_, 1) := by decide +kernel
theorem dX9_feed_0 : decode cX9_feed 0 = .ok (.aload_n 0, 1) := by decide +kernel
theorem dX9_feed_1 : decode cX9_feed 1 = .ok (.iconst 0, 1) := by decide +kernel
theorem dX9_feed_2 : decode cX9_feed 2 = .ok (.putfield 59, 3) := by decide +kernel
theorem dX9_feed_5 : decode cX9_feed 5 = .ok (.iload_n 1, 1) := by decide +kernel
theorem dX9_feed_6 : decode cX9_feed 6 = .ok (.i2l, 1) := by decide +kernel
theorem dX9_feed_7 : decode cX9_feed 7 = .ok (.lconst 1, 1) := by decide +kernel
theorem dX9_feed_8 : decode cX9_feed 8 = .ok (.ldc2_w 180, 3) := by decide +kernel
theorem dX9_feed_11 : decode cX9_feed 11 = .ok (.invokestatic 66, 3) := by decide +kernel
theorem dX9_feed_14 : decode cX9_feed 14 = .ok (.ifCond .ne 6, 3) := by decide +kernel
theorem dX9_feed_17 : decode cX9_feed 17 = .ok (.bipush (-2), 2) := by decide +kernel
theorem dX9_feed_19 : decode cX9_feed 19 = .ok (.ireturn, 1) := by decide +kernel
theorem dX9_feed_20 : decode cX9_feed 20 = .ok (.aload_n 0, 1) := by decide +kernel
theorem dX9_feed_21 : decode cX9_feed 21 = .ok (.invokevirtual 173, 3) := by decide +kernel
theorem dX9_feed_24 : decode cX9_feed 24 = .ok (.aload_n 0, 1) := by decide +kernel
theorem dX9_feed_25 : decode cX9_feed 25 = .ok (.getfield 28, 3) := by decide +kernel
theorem dX9_feed_28 : decode cX9_feed 28 = .ok (.iload_n 1, 1) := by decide +kernel
theorem dX9_feed_29 : decode cX9_feed 29 = .ok (.invokestatic 182, 3) := by decide +kernel
theorem dX9_feed_32 : decode cX9_feed 32 = .ok (.aload_n 0, 1) := by decide +kernel
theorem dX9_feed_33 : decode cX9_feed 33 = .ok (.getfield 28, 3) := by decide +kernel
theorem dX9_feed_36 : decode cX9_feed 36 = .ok (.bipush 21, 2) := by decide +kernel
theorem dX9_feed_38 : decode cX9_feed 38 = .ok (.iaload, 1) := by decide +kernel
theorem dX9_feed_39 : decode cX9_feed 39 = .ok (.ireturn, 1) := by decide +kernel
theorem dX9_send_0 : decode cX9_send 0 = .ok (.aload_n 0, 1) := by decide +kernel
theorem dX9_send_1 : decode cX9_send 1 = .ok (.iconst 0, 1) := by decide +kernel
theorem dX9_send_2 : decode cX9_send 2 = .ok (.putfield 59, 3) := by decide +kernel
theorem dX9_send_5 : decode cX9_send 5 = .ok (.aload_n 0, 1) := by decide +kernel
theorem dX9_send_6 : decode cX9_send 6 = .ok (.iload_n 1, 1) := by decide +kernel
theorem dX9_send_7 : decode cX9_send 7 = .ok (.invokevirtual 168, 3) := by decide +kernel
theorem dX9_send_10 : decode cX9_send 10 = .ok (.ifCond .ne 15, 3) := by decide +kernel
theorem dX9_send_13 : decode cX9_send 13 = .ok (.iload_n 2, 1) := by decide +kernel
theorem dX9_send_14 : decode cX9_send 14 = .ok (.i2l, 1) := by decide +kernel
theorem dX9_send_15 : decode cX9_send 15 = .ok (.lconst 0, 1) := by decide +kernel
theorem dX9_send_16 : decode cX9_send 16 = .ok (.ldc2_w 185, 3) := by decide +kernel
theorem dX9_send_19 : decode cX9_send 19 = .ok (.invokestatic 66, 3) := by decide +kernel
theorem dX9_send_22 : decode cX9_send 22 = .ok (.ifCond .ne 5, 3) := by decide +kernel
theorem dX9_send_25 : decode cX9_send 25 = .ok (.iconst (-1), 1) := by decide +kernel
theorem dX9_send_26 : decode cX9_send 26 = .ok (.ireturn, 1) := by decide +kernel
theorem dX9_send_27 : decode cX9_send 27 = .ok (.aload_n 0, 1) := by decide +kernel
theorem dX9_send_28 : decode cX9_send 28 = .ok (.getfield 28, 3) := by decide +kernel
theorem dX9_send_31 : decode cX9_send 31 = .ok (.bipush 18, 2) := by decide +kernel
theorem dX9_send_33 : decode cX9_send 33 = .ok (.iload_n 1, 1) := by decide +kernel
theorem dX9_send_34 : decode cX9_send 34 = .ok (.iadd, 1) := by decide +kernel
theorem dX9_send_35 : decode cX9_send 35 = .ok (.iaload, 1) := by decide +kernel
theorem dX9_send_36 : decode cX9_send 36 = .ok (.istore_n 3, 1) := by decide +kernel
theorem dX9_send_37 : decode cX9_send 37 = .ok (.iload_n 3, 1) := by decide +kernel
theorem dX9_send_38 : decode cX9_send 38 = .ok (.iload_n 2, 1) := by decide +kernel
theorem dX9_send_39 : decode cX9_send 39 = .ok (.if_icmp .ne 6, 3) := by decide +kernel
theorem dX9_send_42 : decode cX9_send 42 = .ok (.bipush (-3), 2) := by decide +kernel
theorem dX9_send_44 : decode cX9_send 44 = .ok (.ireturn, 1) := by decide +kernel
theorem dX9_send_45 : decode cX9_send 45 = .ok (.aload_n 0, 1) := by decide +kernel
theorem dX9_send_46 : decode cX9_send 46 = .ok (.invokevirtual 173, 3) := by decide +kernel
theorem dX9_send_49 : decode cX9_send 49 = .ok (.aload_n 0, 1) := by decide +kernel
theorem dX9_send_50 : decode cX9_send 50 = .ok (.getfield 28, 3) := by decide +kernel
theorem dX9_send_53 : decode cX9_send 53 = .ok (.bipush 18, 2) := by decide +kernel
theorem dX9_send_55 : decode cX9_send 55 = .ok (.iload_n 1, 1) := by decide +kernel
theorem dX9_send_56 : decode cX9_send 56 = .ok (.iadd, 1) := by decide +kernel
theorem dX9_send_57 : decode cX9_send 57 = .ok (.iload_n 2, 1) := by decide +kernel
theorem dX9_send_58 : decode cX9_send 58 = .ok (.iastore, 1) := by decide +kernel
theorem dX9_send_59 : decode cX9_send 59 = .ok (.iload_n 3, 1) := by decide +kernel
theorem dX9_send_60 : decode cX9_send 60 = .ok (.ireturn, 1) := by decide +kernel
theorem dX9_undo_0 : decode cX9_undo 0 = .ok (.aload_n 0, 1) := by decide +kernel
theorem dX9_undo_1 : decode cX9_undo 1 = .ok (.iconst 0, 1) := by decide +kernel
theorem dX9_undo_2 : decode cX9_undo 2 = .ok (.putfield 59, 3) := by decide +kernel
theorem dX9_undo_5 : decode cX9_undo 5 = .ok (.aload_n 0, 1) := by decide +kernel
theorem dX9_undo_6 : decode cX9_undo 6 = .ok (.getfield 112, 3) := by decide +kernel
theorem dX9_undo_9 : decode cX9_undo 9 = .ok (.ifCond .ne 6, 3) := by decide +kernel
theorem dX9_undo_12 : decode cX9_undo 12 = .ok (.bipush (-3), 2) := by decide +kernel
theorem dX9_undo_14 : decode cX9_undo 14 = .ok (.ireturn, 1) := by decide +kernel
theorem dX9_undo_15 : decode cX9_undo 15 = .ok (.aload_n 0, 1) := by decide +kernel
theorem dX9_undo_16 : decode cX9_undo 16 = .ok (.dup, 1) := by decide +kernel
theorem dX9_undo_17 : decode cX9_undo 17 = .ok (.getfield 112, 3) := by decide +kernel
theorem dX9_undo_20 : decode cX9_undo 20 = .ok (.iconst 1, 1) := by decide +kernel
theorem dX9_undo_21 : decode cX9_undo 21 = .ok (.isub, 1) := by decide +kernel
theorem dX9_undo_22 : decode cX9_undo 22 = .ok (.putfield 112, 3) := by decide +kernel
theorem dX9_undo_25 : decode cX9_undo 25 = .ok (.iconst 0, 1) := by decide +kernel
theorem dX9_undo_26 : decode cX9_undo 26 = .ok (.istore_n 1, 1) := by decide +kernel
end
section
theorem dX9_undo_27 : decode cX9_undo 27 = .ok (.iload_n 1, 1) := by decide +kernel
theorem dX9_undo_28 : decode cX9_undo 28 = .ok (.bipush 23, 2) := by decide +kernel
theorem dX9_undo_30 : decode cX9_undo 30 = .ok (.if_icmp .ge 29, 3) := by decide +kernel
theorem dX9_undo_33 : decode cX9_undo 33 = .ok (.aload_n 0, 1) := by decide +kernel
theorem dX9_undo_34 : decode cX9_undo 34 = .ok (.getfield 28, 3) := by decide +kernel
theorem dX9_undo_37 : decode cX9_undo 37 = .ok (.iload_n 1, 1) := by decide +kernel
theorem dX9_undo_38 : decode cX9_undo 38 = .ok (.aload_n 0, 1) := by decide +kernel
theorem dX9_undo_39 : decode cX9_undo 39 = .ok (.getfield 34, 3) := by decide +kernel
theorem dX9_undo_42 : decode cX9_undo 42 = .ok (.bipush 23, 2) := by decide +kernel
theorem dX9_undo_44 : decode cX9_undo 44 = .ok (.aload_n 0, 1) := by decide +kernel
theorem dX9_undo_45 : decode cX9_undo 45 = .ok (.getfield 112, 3) := by decide +kernel
theorem dX9_undo_48 : decode cX9_undo 48 = .ok (.imul, 1) := by decide +kernel
theorem dX9_undo_49 : decode cX9_undo 49 = .ok (.iload_n 1, 1) := by decide +kernel
theorem dX9_undo_50 : decode cX9_undo 50 = .ok (.iadd, 1) := by decide +kernel
theorem dX9_undo_51 : decode cX9_undo 51 = .ok (.iaload, 1) := by decide +kernel
theorem dX9_undo_52 : decode cX9_undo 52 = .ok (.iastore, 1) := by decide +kernel
theorem dX9_undo_53 : decode cX9_undo 53 = .ok (.iinc 1 1, 3) := by decide +kernel
theorem dX9_undo_56 : decode cX9_undo 56 = .ok (.goto (-29), 3) := by decide +kernel
theorem dX9_undo_59 : decode cX9_undo 59 = .ok (.aload_n 0, 1) := by decide +kernel
theorem dX9_undo_60 : decode cX9_undo 60 = .ok (.getfield 112, 3) := by decide +kernel
theorem dX9_undo_63 : decode cX9_undo 63 = .ok (.ireturn, 1) := by decide +kernel
theorem dX9_begin_0 : decode cX9_begin 0 = .ok (.aload_n 0, 1) := by decide +kernel
theorem dX9_begin_1 : decode cX9_begin 1 = .ok (.bipush 7, 2) := by decide +kernel
theorem dX9_begin_3 : decode cX9_begin 3 = .ok (.putfield 141, 3) := by decide +kernel
theorem dX9_begin_6 : decode cX9_begin 6 = .ok (.iconst 0, 1) := by decide +kernel
theorem dX9_begin_7 : decode cX9_begin 7 = .ok (.istore_n 1, 1) := by decide +kernel
theorem dX9_begin_8 : decode cX9_begin 8 = .ok (.iload_n 1, 1) := by decide +kernel
theorem dX9_begin_9 : decode cX9_begin 9 = .ok (.bipush 23, 2) := by decide +kernel
theorem dX9_begin_11 : decode cX9_begin 11 = .ok (.if_icmp .ge 21, 3) := by decide +kernel
theorem dX9_begin_14 : decode cX9_begin 14 = .ok (.aload_n 0, 1) := by decide +kernel
theorem dX9_begin_15 : decode cX9_begin 15 = .ok (.getfield 31, 3) := by decide +kernel
theorem dX9_begin_18 : decode cX9_begin 18 = .ok (.iload_n 1, 1) := by decide +kernel
theorem dX9_begin_19 : decode cX9_begin 19 = .ok (.aload_n 0, 1) := by decide +kernel
theorem dX9_begin_20 : decode cX9_begin 20 = .ok (.getfield 28, 3) := by decide +kernel
theorem dX9_begin_23 : decode cX9_begin 23 = .ok (.iload_n 1, 1) := by decide +kernel
theorem dX9_begin_24 : decode cX9_begin 24 = .ok (.iaload, 1) := by decide +kernel
theorem dX9_begin_25 : decode cX9_begin 25 = .ok (.iastore, 1) := by decide +kernel
theorem dX9_begin_26 : decode cX9_begin 26 = .ok (.iinc 1 1, 3) := by decide +kernel
theorem dX9_begin_29 : decode cX9_begin 29 = .ok (.goto (-21), 3) := by decide +kernel
theorem dX9_begin_32 : decode cX9_begin 32 = .ok (.return_, 1) := by decide +kernel
theorem dX9_ahead_0 : decode cX9_ahead 0 = .ok (.aload_n 0, 1) := by decide +kernel
theorem dX9_ahead_1 : decode cX9_ahead 1 = .ok (.iconst 0, 1) := by decide +kernel
theorem dX9_ahead_2 : decode cX9_ahead 2 = .ok (.putfield 59, 3) := by decide +kernel
theorem dX9_ahead_5 : decode cX9_ahead 5 = .ok (.iload_n 1, 1) := by decide +kernel
theorem dX9_ahead_6 : decode cX9_ahead 6 = .ok (.i2l, 1) := by decide +kernel
theorem dX9_ahead_7 : decode cX9_ahead 7 = .ok (.lconst 0, 1) := by decide +kernel
theorem dX9_ahead_8 : decode cX9_ahead 8 = .ok (.ldc2_w 187, 3) := by decide +kernel
theorem dX9_ahead_11 : decode cX9_ahead 11 = .ok (.invokestatic 66, 3) := by decide +kernel
theorem dX9_ahead_14 : decode cX9_ahead 14 = .ok (.ifCond .eq 15, 3) := by decide +kernel
theorem dX9_ahead_17 : decode cX9_ahead 17 = .ok (.iload_n 2, 1) := by decide +kernel
theorem dX9_ahead_18 : decode cX9_ahead 18 = .ok (.i2l, 1) := by decide +kernel
theorem dX9_ahead_19 : decode cX9_ahead 19 = .ok (.lconst 0, 1) := by decide +kernel
theorem dX9_ahead_20 : decode cX9_ahead 20 = .ok (.ldc2_w 189, 3) := by decide +kernel
theorem dX9_ahead_23 : decode cX9_ahead 23 = .ok (.invokestatic 66, 3) := by decide +kernel
theorem dX9_ahead_26 : decode cX9_ahead 26 = .ok (.ifCond .ne 6, 3) := by decide +kernel
theorem dX9_ahead_29 : decode cX9_ahead 29 = .ok (.bipush (-2), 2) := by decide +kernel
theorem dX9_ahead_31 : decode cX9_ahead 31 = .ok (.ireturn, 1) := by decide +kernel
theorem dX9_ahead_32 : decode cX9_ahead 32 = .ok (.aload_n 0, 1) := by decide +kernel
theorem dX9_ahead_33 : decode cX9_ahead 33 = .ok (.invokevirtual 191, 3) := by decide +kernel
theorem dX9_ahead_36 : decode cX9_ahead 36 = .ok (.aload_n 0, 1) := by decide +kernel
theorem dX9_ahead_37 : decode cX9_ahead 37 = .ok (.iload_n 1, 1) := by decide +kernel
theorem dX9_ahead_38 : decode cX9_ahead 38 = .ok (.invokevirtual 194, 3) := by decide +kernel
theorem dX9_ahead_41 : decode cX9_ahead 41 = .ok (.aload_n 0, 1) := by decide +kernel
theorem dX9_ahead_42 : decode cX9_ahead 42 = .ok (.aload_n 0, 1) := by decide +kernel
theorem dX9_ahead_43 : decode cX9_ahead 43 = .ok (.getfield 31, 3) := by decide +kernel
theorem dX9_ahead_46 : decode cX9_ahead 46 = .ok (.iload_n 2, 1) := by decide +kernel
theorem dX9_ahead_47 : decode cX9_ahead 47 = .ok (.invokevirtual 122, 3) := by decide +kernel
theorem dX9_ahead_50 : decode cX9_ahead 50 = .ok (.ireturn, 1) := by decide +kernel
theorem dX9_hatchesThen_0 : decode cX9_hatchesThen 0 = .ok (.iconst 0, 1) := by decide +kernel
theorem dX9_hatchesThen_1 : decode cX9_hatchesThen 1 = .ok (.istore_n 2, 1) := by decide +kernel
theorem dX9_hatchesThen_2 : decode cX9_hatchesThen 2 = .ok (.iload_n 2, 1) := by decide +kernel
theorem dX9_hatchesThen_3 : decode cX9_hatchesThen 3 = .ok (.bipush 20, 2) := by decide +kernel
theorem dX9_hatchesThen_5 : decode cX9_hatchesThen 5 = .ok (.if_icmp .gt 35, 3) := by decide +kernel
theorem dX9_hatchesThen_8 : decode cX9_hatchesThen 8 = .ok (.aload_n 0, 1) := by decide +kernel
theorem dX9_hatchesThen_9 : decode cX9_hatchesThen 9 = .ok (.aload_n 0, 1) := by decide +kernel
theorem dX9_hatchesThen_10 : decode cX9_hatchesThen 10 = .ok (.getfield 31, 3) := by decide +kernel
theorem dX9_hatchesThen_13 : decode cX9_hatchesThen 13 = .ok (.invokevirtual 198, 3) := by decide +kernel
theorem dX9_hatchesThen_16 : decode cX9_hatchesThen 16 = .ok (.iload_n 1, 1) := by decide +kernel
theorem dX9_hatchesThen_17 : decode cX9_hatchesThen 17 = .ok (.invokestatic 144, 3) := by decide +kernel
theorem dX9_hatchesThen_20 : decode cX9_hatchesThen 20 = .ok (.ifCond .eq 5, 3) := by decide +kernel
theorem dX9_hatchesThen_23 : decode cX9_hatchesThen 23 = .ok (.iload_n 2, 1) := by decide +kernel
theorem dX9_hatchesThen_24 : decode cX9_hatchesThen 24 = .ok (.ireturn, 1) := by decide +kernel
theorem dX9_hatchesThen_25 : decode cX9_hatchesThen 25 = .ok (.aload_n 0, 1) := by decide +kernel
theorem dX9_hatchesThen_26 : decode cX9_hatchesThen 26 = .ok (.aload_n 0, 1) := by decide +kernel
theorem dX9_hatchesThen_27 : decode cX9_hatchesThen 27 = .ok (.getfield 31, 3) := by decide +kernel
theorem dX9_hatchesThen_30 : decode cX9_hatchesThen 30 = .ok (.invokevirtual 155, 3) := by decide +kernel
theorem dX9_hatchesThen_33 : decode cX9_hatchesThen 33 = .ok (.pop, 1) := by decide +kernel
theorem dX9_hatchesThen_34 : decode cX9_hatchesThen 34 = .ok (.iinc 2 1, 3) := by decide +kernel
theorem dX9_hatchesThen_37 : decode cX9_hatchesThen 37 = .ok (.goto (-35), 3) := by decide +kernel
theorem dX9_hatchesThen_40 : decode cX9_hatchesThen 40 = .ok (.bipush (-9), 2) := by decide +kernel
theorem dX9_hatchesThen_42 : decode cX9_hatchesThen 42 = .ok (.ireturn, 1) := by decide +kernel
theorem dX9_hatches_0 : decode cX9_hatches 0 = .ok (.aload_n 0, 1) := by decide +kernel
theorem dX9_hatches_1 : decode cX9_hatches 1 = .ok (.iconst 0, 1) := by decide +kernel
theorem dX9_hatches_2 : decode cX9_hatches 2 = .ok (.putfield 59, 3) := by decide +kernel
theorem dX9_hatches_5 : decode cX9_hatches 5 = .ok (.aload_n 0, 1) := by decide +kernel
theorem dX9_hatches_6 : decode cX9_hatches 6 = .ok (.iload_n 1, 1) := by decide +kernel
theorem dX9_hatches_7 : decode cX9_hatches 7 = .ok (.invokevirtual 164, 3) := by decide +kernel
theorem dX9_hatches_10 : decode cX9_hatches 10 = .ok (.ifCond .eq 5, 3) := by decide +kernel
theorem dX9_hatches_13 : decode cX9_hatches 13 = .ok (.iconst (-1), 1) := by decide +kernel
theorem dX9_hatches_14 : decode cX9_hatches 14 = .ok (.ireturn, 1) := by decide +kernel
theorem dX9_hatches_15 : decode cX9_hatches 15 = .ok (.aload_n 0, 1) := by decide +kernel
theorem dX9_hatches_16 : decode cX9_hatches 16 = .ok (.invokevirtual 191, 3) := by decide +kernel
theorem dX9_hatches_19 : decode cX9_hatches 19 = .ok (.aload_n 0, 1) := by decide +kernel
theorem dX9_hatches_20 : decode cX9_hatches 20 = .ok (.iload_n 1, 1) := by decide +kernel
theorem dX9_hatches_21 : decode cX9_hatches 21 = .ok (.invokevirtual 201, 3) := by decide +kernel
theorem dX9_hatches_24 : decode cX9_hatches 24 = .ok (.ireturn, 1) := by decide +kernel
theorem dX9_rows_0 : decode cX9_rows 0 = .ok (.aload_n 0, 1) := by decide +kernel
theorem dX9_rows_1 : decode cX9_rows 1 = .ok (.iconst 0, 1) := by decide +kernel
theorem dX9_rows_2 : decode cX9_rows 2 = .ok (.putfield 59, 3) := by decide +kernel
theorem dX9_rows_5 : decode cX9_rows 5 = .ok (.aload_n 0, 1) := by decide +kernel
theorem dX9_rows_6 : decode cX9_rows 6 = .ok (.bipush (-9), 2) := by decide +kernel
theorem dX9_rows_8 : decode cX9_rows 8 = .ok (.putfield 204, 3) := by decide +kernel
theorem dX9_rows_11 : decode cX9_rows 11 = .ok (.aload_n 0, 1) := by decide +kernel
theorem dX9_rows_12 : decode cX9_rows 12 = .ok (.iconst 0, 1) := by decide +kernel
theorem dX9_rows_13 : decode cX9_rows 13 = .ok (.putfield 207, 3) := by decide +kernel
theorem dX9_rows_16 : decode cX9_rows 16 = .ok (.iconst 0, 1) := by decide +kernel
theorem dX9_rows_17 : decode cX9_rows 17 = .ok (.istore_n 2, 1) := by decide +kernel
theorem dX9_rows_18 : decode cX9_rows 18 = .ok (.iload_n 2, 1) := by decide +kernel
theorem dX9_rows_19 : decode cX9_rows 19 = .ok (.iconst 3, 1) := by decide +kernel
theorem dX9_rows_20 : decode cX9_rows 20 = .ok (.aload_n 0, 1) := by decide +kernel
theorem dX9_rows_21 : decode cX9_rows 21 = .ok (.getfield 70, 3) := by decide +kernel
theorem dX9_rows_24 : decode cX9_rows 24 = .ok (.invokestatic 210, 3) := by decide +kernel
theorem dX9_rows_27 : decode cX9_rows 27 = .ok (.if_icmp .ge 122, 3) := by decide +kernel
theorem dX9_rows_30 : decode cX9_rows 30 = .ok (.aload_n 0, 1) := by decide +kernel
theorem dX9_rows_31 : decode cX9_rows 31 = .ok (.invokevirtual 191, 3) := by decide +kernel
theorem dX9_rows_34 : decode cX9_rows 34 = .ok (.iconst 0, 1) := by decide +kernel
theorem dX9_rows_35 : decode cX9_rows 35 = .ok (.istore_n 3, 1) := by decide +kernel
theorem dX9_rows_36 : decode cX9_rows 36 = .ok (.iconst 0, 1) := by decide +kernel
theorem dX9_rows_37 : decode cX9_rows 37 = .ok (.istore 4, 2) := by decide +kernel
theorem dX9_rows_39 : decode cX9_rows 39 = .ok (.iload 4, 2) := by decide +kernel
theorem dX9_rows_41 : decode cX9_rows 41 = .ok (.aload_n 0, 1) := by decide +kernel
theorem dX9_rows_42 : decode cX9_rows 42 = .ok (.getfield 70, 3) := by decide +kernel
theorem dX9_rows_45 : decode cX9_rows 45 = .ok (.if_icmp .ge 50, 3) := by decide +kernel
theorem dX9_rows_48 : decode cX9_rows 48 = .ok (.iload_n 2, 1) := by decide +kernel
theorem dX9_rows_49 : decode cX9_rows 49 = .ok (.iconst 3, 1) := by decide +kernel
theorem dX9_rows_50 : decode cX9_rows 50 = .ok (.aload_n 0, 1) := by decide +kernel
theorem dX9_rows_51 : decode cX9_rows 51 = .ok (.getfield 70, 3) := by decide +kernel
theorem dX9_rows_54 : decode cX9_rows 54 = .ok (.iconst 1, 1) := by decide +kernel
theorem dX9_rows_55 : decode cX9_rows 55 = .ok (.isub, 1) := by decide +kernel
theorem dX9_rows_56 : decode cX9_rows 56 = .ok (.iload 4, 2) := by decide +kernel
theorem dX9_rows_58 : decode cX9_rows 58 = .ok (.isub, 1) := by decide +kernel
theorem dX9_rows_59 : decode cX9_rows 59 = .ok (.invokestatic 210, 3) := by decide +kernel
theorem dX9_rows_62 : decode cX9_rows 62 = .ok (.idiv, 1) := by decide +kernel
theorem dX9_rows_63 : decode cX9_rows 63 = .ok (.iconst 3, 1) := by decide +kernel
theorem dX9_rows_64 : decode cX9_rows 64 = .ok (.irem, 1) := by decide +kernel
theorem dX9_rows_65 : decode cX9_rows 65 = .ok (.istore 5, 2) := by decide +kernel
theorem dX9_rows_67 : decode cX9_rows 67 = .ok (.aload_n 0, 1) := by decide +kernel
theorem dX9_rows_68 : decode cX9_rows 68 = .ok (.getfield 31, 3) := by decide +kernel
theorem dX9_rows_71 : decode cX9_rows 71 = .ok (.bipush 18, 2) := by decide +kernel
theorem dX9_rows_73 : decode cX9_rows 73 = .ok (.iload 4, 2) := by decide +kernel
theorem dX9_rows_75 : decode cX9_rows 75 = .ok (.iadd, 1) := by decide +kernel
theorem dX9_rows_76 : decode cX9_rows 76 = .ok (.iload 5, 2) := by decide +kernel
theorem dX9_rows_78 : decode cX9_rows 78 = .ok (.iastore, 1) := by decide +kernel
theorem dX9_rows_79 : decode cX9_rows 79 = .ok (.bipush 10, 2) := by decide +kernel
theorem dX9_rows_81 : decode cX9_rows 81 = .ok (.iload_n 3, 1) := by decide +kernel
theorem dX9_rows_82 : decode cX9_rows 82 = .ok (.imul, 1) := by decide +kernel
theorem dX9_rows_83 : decode cX9_rows 83 = .ok (.iload 5, 2) := by decide +kernel
theorem dX9_rows_85 : decode cX9_rows 85 = .ok (.iadd, 1) := by decide +kernel
theorem dX9_rows_86 : decode cX9_rows 86 = .ok (.iconst 1, 1) := by decide +kernel
theorem dX9_rows_87 : decode cX9_rows 87 = .ok (.iadd, 1) := by decide +kernel
theorem dX9_rows_88 : decode cX9_rows 88 = .ok (.istore_n 3, 1) := by decide +kernel
theorem dX9_rows_89 : decode cX9_rows 89 = .ok (.iinc 4 1, 3) := by decide +kernel
theorem dX9_rows_92 : decode cX9_rows 92 = .ok (.goto (-53), 3) := by decide +kernel
theorem dX9_rows_95 : decode cX9_rows 95 = .ok (.aload_n 0, 1) := by decide +kernel
theorem dX9_rows_96 : decode cX9_rows 96 = .ok (.bipush 9, 2) := by decide +kernel
theorem dX9_rows_98 : decode cX9_rows 98 = .ok (.invokevirtual 194, 3) := by decide +kernel
theorem dX9_rows_101 : decode cX9_rows 101 = .ok (.aload_n 0, 1) := by decide +kernel
theorem dX9_rows_102 : decode cX9_rows 102 = .ok (.aload_n 0, 1) := by decide +kernel
theorem dX9_rows_103 : decode cX9_rows 103 = .ok (.getfield 31, 3) := by decide +kernel
theorem dX9_rows_106 : decode cX9_rows 106 = .ok (.invokevirtual 198, 3) := by decide +kernel
theorem dX9_rows_109 : decode cX9_rows 109 = .ok (.invokestatic 128, 3) := by decide +kernel
theorem dX9_rows_112 : decode cX9_rows 112 = .ok (.istore 4, 2) := by decide +kernel
theorem dX9_rows_114 : decode cX9_rows 114 = .ok (.aload_n 0, 1) := by decide +kernel
theorem dX9_rows_115 : decode cX9_rows 115 = .ok (.getfield 204, 3) := by decide +kernel
theorem dX9_rows_118 : decode cX9_rows 118 = .ok (.bipush (-9), 2) := by decide +kernel
theorem dX9_rows_120 : decode cX9_rows 120 = .ok (.if_icmp .eq 12, 3) := by decide +kernel
theorem dX9_rows_123 : decode cX9_rows 123 = .ok (.iload 4, 2) := by decide +kernel
theorem dX9_rows_125 : decode cX9_rows 125 = .ok (.aload_n 0, 1) := by decide +kernel
theorem dX9_rows_126 : decode cX9_rows 126 = .ok (.getfield 204, 3) := by decide +kernel
theorem dX9_rows_129 : decode cX9_rows 129 = .ok (.if_icmp .ge 14, 3) := by decide +kernel
theorem dX9_rows_132 : decode cX9_rows 132 = .ok (.aload_n 0, 1) := by decide +kernel
theorem dX9_rows_133 : decode cX9_rows 133 = .ok (.iload 4, 2) := by decide +kernel
theorem dX9_rows_135 : decode cX9_rows 135 = .ok (.putfield 204, 3) := by decide +kernel
theorem dX9_rows_138 : decode cX9_rows 138 = .ok (.aload_n 0, 1) := by decide +kernel
theorem dX9_rows_139 : decode cX9_rows 139 = .ok (.iload_n 3, 1) := by decide +kernel
theorem dX9_rows_140 : decode cX9_rows 140 = .ok (.putfield 207, 3) := by decide +kernel
theorem dX9_rows_143 : decode cX9_rows 143 = .ok (.iinc 2 1, 3) := by decide +kernel
theorem dX9_rows_146 : decode cX9_rows 146 = .ok (.goto (-128), 3) := by decide +kernel
theorem dX9_rows_149 : decode cX9_rows 149 = .ok (.iload_n 1, 1) := by decide +kernel
theorem dX9_rows_150 : decode cX9_rows 150 = .ok (.ifCond .eq 10, 3) := by decide +kernel
theorem dX9_rows_153 : decode cX9_rows 153 = .ok (.aload_n 0, 1) := by decide +kernel
theorem dX9_rows_154 : decode cX9_rows 154 = .ok (.getfield 207, 3) := by decide +kernel
theorem dX9_rows_157 : decode cX9_rows 157 = .ok (.goto 7, 3) := by decide +kernel
theorem dX9_rows_160 : decode cX9_rows 160 = .ok (.aload_n 0, 1) := by decide +kernel
theorem dX9_rows_161 : decode cX9_rows 161 = .ok (.getfield 204, 3) := by decide +kernel
theorem dX9_rows_164 : decode cX9_rows 164 = .ok (.ireturn, 1) := by decide +kernel
theorem dX9_saved_0 : decode cX9_saved 0 = .ok (.aload_n 0, 1) := by decide +kernel
theorem dX9_saved_1 : decode cX9_saved 1 = .ok (.iconst 0, 1) := by decide +kernel
theorem dX9_saved_2 : decode cX9_saved 2 = .ok (.putfield 59, 3) := by decide +kernel
theorem dX9_saved_5 : decode cX9_saved 5 = .ok (.aload_n 0, 1) := by decide +kernel
theorem dX9_saved_6 : decode cX9_saved 6 = .ok (.iload_n 1, 1) := by decide +kernel
theorem dX9_saved_7 : decode cX9_saved 7 = .ok (.invokevirtual 164, 3) := by decide +kernel
theorem dX9_saved_10 : decode cX9_saved 10 = .ok (.ifCond .eq 5, 3) := by decide +kernel
theorem dX9_saved_13 : decode cX9_saved 13 = .ok (.iconst (-1), 1) := by decide +kernel
theorem dX9_saved_14 : decode cX9_saved 14 = .ok (.ireturn, 1) := by decide +kernel
theorem dX9_saved_15 : decode cX9_saved 15 = .ok (.aload_n 0, 1) := by decide +kernel
theorem dX9_saved_16 : decode cX9_saved 16 = .ok (.getfield 28, 3) := by decide +kernel
theorem dX9_saved_19 : decode cX9_saved 19 = .ok (.bipush 6, 2) := by decide +kernel
theorem dX9_saved_21 : decode cX9_saved 21 = .ok (.iload_n 1, 1) := by decide +kernel
theorem dX9_saved_22 : decode cX9_saved 22 = .ok (.iadd, 1) := by decide +kernel
theorem dX9_saved_23 : decode cX9_saved 23 = .ok (.iaload, 1) := by decide +kernel
theorem dX9_saved_24 : decode cX9_saved 24 = .ok (.ifCond .eq 6, 3) := by decide +kernel
theorem dX9_saved_27 : decode cX9_saved 27 = .ok (.bipush (-3), 2) := by decide +kernel
theorem dX9_saved_29 : decode cX9_saved 29 = .ok (.ireturn, 1) := by decide +kernel
theorem dX9_saved_30 : decode cX9_saved 30 = .ok (.bipush (-9), 2) := by decide +kernel
theorem dX9_saved_32 : decode cX9_saved 32 = .ok (.istore_n 2, 1) := by decide +kernel
theorem dX9_saved_33 : decode cX9_saved 33 = .ok (.iconst 0, 1) := by decide +kernel
theorem dX9_saved_34 : decode cX9_saved 34 = .ok (.istore_n 3, 1) := by decide +kernel
theorem dX9_saved_35 : decode cX9_saved 35 = .ok (.iconst 0, 1) := by decide +kernel
theorem dX9_saved_36 : decode cX9_saved 36 = .ok (.istore 4, 2) := by decide +kernel
theorem dX9_saved_38 : decode cX9_saved 38 = .ok (.iload 4, 2) := by decide +kernel
theorem dX9_saved_40 : decode cX9_saved 40 = .ok (.bipush 12, 2) := by decide +kernel
theorem dX9_saved_42 : decode cX9_saved 42 = .ok (.if_icmp .ge 95, 3) := by decide +kernel
theorem dX9_saved_45 : decode cX9_saved 45 = .ok (.aload_n 0, 1) := by decide +kernel
theorem dX9_saved_46 : decode cX9_saved 46 = .ok (.getfield 28, 3) := by decide +kernel
theorem dX9_saved_49 : decode cX9_saved 49 = .ok (.iload_n 1, 1) := by decide +kernel
theorem dX9_saved_50 : decode cX9_saved 50 = .ok (.iaload, 1) := by decide +kernel
theorem dX9_saved_51 : decode cX9_saved 51 = .ok (.iload 4, 2) := by decide +kernel
theorem dX9_saved_53 : decode cX9_saved 53 = .ok (.if_icmp .eq 17, 3) := by decide +kernel
theorem dX9_saved_56 : decode cX9_saved 56 = .ok (.aload_n 0, 1) := by decide +kernel
theorem dX9_saved_57 : decode cX9_saved 57 = .ok (.aload_n 0, 1) := by decide +kernel
theorem dX9_saved_58 : decode cX9_saved 58 = .ok (.getfield 28, 3) := by decide +kernel
theorem dX9_saved_61 : decode cX9_saved 61 = .ok (.iload_n 1, 1) := by decide +kernel
theorem dX9_saved_62 : decode cX9_saved 62 = .ok (.iload 4, 2) := by decide +kernel
theorem dX9_saved_64 : decode cX9_saved 64 = .ok (.invokevirtual 176, 3) := by decide +kernel
theorem dX9_saved_67 : decode cX9_saved 67 = .ok (.ifCond .eq 64, 3) := by decide +kernel
theorem dX9_saved_70 : decode cX9_saved 70 = .ok (.aload_n 0, 1) := by decide +kernel
theorem dX9_saved_71 : decode cX9_saved 71 = .ok (.invokevirtual 191, 3) := by decide +kernel
theorem dX9_saved_74 : decode cX9_saved 74 = .ok (.aload_n 0, 1) := by decide +kernel
theorem dX9_saved_75 : decode cX9_saved 75 = .ok (.getfield 31, 3) := by decide +kernel
theorem dX9_saved_78 : decode cX9_saved 78 = .ok (.iload_n 1, 1) := by decide +kernel
theorem dX9_saved_79 : decode cX9_saved 79 = .ok (.iload 4, 2) := by decide +kernel
theorem dX9_saved_81 : decode cX9_saved 81 = .ok (.iastore, 1) := by decide +kernel
theorem dX9_saved_82 : decode cX9_saved 82 = .ok (.aload_n 0, 1) := by decide +kernel
theorem dX9_saved_83 : decode cX9_saved 83 = .ok (.iload_n 1, 1) := by decide +kernel
theorem dX9_saved_84 : decode cX9_saved 84 = .ok (.invokevirtual 201, 3) := by decide +kernel
theorem dX9_saved_87 : decode cX9_saved 87 = .ok (.istore 5, 2) := by decide +kernel
theorem dX9_saved_89 : decode cX9_saved 89 = .ok (.iload 5, 2) := by decide +kernel
theorem dX9_saved_91 : decode cX9_saved 91 = .ok (.bipush (-9), 2) := by decide +kernel
theorem dX9_saved_93 : decode cX9_saved 93 = .ok (.if_icmp .ne 8, 3) := by decide +kernel
theorem dX9_saved_96 : decode cX9_saved 96 = .ok (.bipush 99, 2) := by decide +kernel
theorem dX9_saved_98 : decode cX9_saved 98 = .ok (.goto 5, 3) := by decide +kernel
theorem dX9_saved_101 : decode cX9_saved 101 = .ok (.iload 5, 2) := by decide +kernel
theorem dX9_saved_103 : decode cX9_saved 103 = .ok (.istore 5, 2) := by decide +kernel
theorem dX9_saved_105 : decode cX9_saved 105 = .ok (.iload 5, 2) := by decide +kernel
theorem dX9_saved_107 : decode cX9_saved 107 = .ok (.iload_n 3, 1) := by decide +kernel
theorem dX9_saved_108 : decode cX9_saved 108 = .ok (.if_icmp .le 8, 3) := by decide +kernel
theorem dX9_saved_111 : decode cX9_saved 111 = .ok (.iload 4, 2) := by decide +kernel
theorem dX9_saved_113 : decode cX9_saved 113 = .ok (.goto 4, 3) := by decide +kernel
theorem dX9_saved_116 : decode cX9_saved 116 = .ok (.iload_n 2, 1) := by decide +kernel
theorem dX9_saved_117 : decode cX9_saved 117 = .ok (.istore_n 2, 1) := by decide +kernel
theorem dX9_saved_118 : decode cX9_saved 118 = .ok (.iload 5, 2) := by decide +kernel
theorem dX9_saved_120 : decode cX9_saved 120 = .ok (.iload_n 3, 1) := by decide +kernel
theorem dX9_saved_121 : decode cX9_saved 121 = .ok (.if_icmp .le 8, 3) := by decide +kernel
theorem dX9_saved_124 : decode cX9_saved 124 = .ok (.iload 5, 2) := by decide +kernel
theorem dX9_saved_126 : decode cX9_saved 126 = .ok (.goto 4, 3) := by decide +kernel
theorem dX9_saved_129 : decode cX9_saved 129 = .ok (.iload_n 3, 1) := by decide +kernel
theorem dX9_saved_130 : decode cX9_saved 130 = .ok (.istore_n 3, 1) := by decide +kernel
theorem dX9_saved_131 : decode cX9_saved 131 = .ok (.iinc 4 1, 3) := by decide +kernel
theorem dX9_saved_134 : decode cX9_saved 134 = .ok (.goto (-96), 3) := by decide +kernel
theorem dX9_saved_137 : decode cX9_saved 137 = .ok (.iload_n 2, 1) := by decide +kernel
theorem dX9_saved_138 : decode cX9_saved 138 = .ok (.ireturn, 1) := by decide +kernel
theorem dX9_isQuiet_0 : decode cX9_isQuiet 0 = .ok (.aload_n 0, 1) := by decide +kernel
theorem dX9_isQuiet_1 : decode cX9_isQuiet 1 = .ok (.invokevirtual 191, 3) := by decide +kernel
theorem dX9_isQuiet_4 : decode cX9_isQuiet 4 = .ok (.iconst 0, 1) := by decide +kernel
theorem dX9_isQuiet_5 : decode cX9_isQuiet 5 = .ok (.istore_n 2, 1) := by decide +kernel
theorem dX9_isQuiet_6 : decode cX9_isQuiet 6 = .ok (.iload_n 2, 1) := by decide +kernel
theorem dX9_isQuiet_7 : decode cX9_isQuiet 7 = .ok (.aload_n 0, 1) := by decide +kernel
theorem dX9_isQuiet_8 : decode cX9_isQuiet 8 = .ok (.getfield 63, 3) := by decide +kernel
theorem dX9_isQuiet_11 : decode cX9_isQuiet 11 = .ok (.if_icmp .ge 39, 3) := by decide +kernel
theorem dX9_isQuiet_14 : decode cX9_isQuiet 14 = .ok (.aload_n 0, 1) := by decide +kernel
theorem dX9_isQuiet_15 : decode cX9_isQuiet 15 = .ok (.getfield 31, 3) := by decide +kernel
theorem dX9_isQuiet_18 : decode cX9_isQuiet 18 = .ok (.bipush 6, 2) := by decide +kernel
theorem dX9_isQuiet_20 : decode cX9_isQuiet 20 = .ok (.iload_n 2, 1) := by decide +kernel
theorem dX9_isQuiet_21 : decode cX9_isQuiet 21 = .ok (.iadd, 1) := by decide +kernel
theorem dX9_isQuiet_22 : decode cX9_isQuiet 22 = .ok (.iload_n 1, 1) := by decide +kernel
theorem dX9_isQuiet_23 : decode cX9_isQuiet 23 = .ok (.iload_n 2, 1) := by decide +kernel
theorem dX9_isQuiet_24 : decode cX9_isQuiet 24 = .ok (.invokestatic 144, 3) := by decide +kernel
theorem dX9_isQuiet_27 : decode cX9_isQuiet 27 = .ok (.ifCond .eq 7, 3) := by decide +kernel
theorem dX9_isQuiet_30 : decode cX9_isQuiet 30 = .ok (.iconst 1, 1) := by decide +kernel
theorem dX9_isQuiet_31 : decode cX9_isQuiet 31 = .ok (.goto 12, 3) := by decide +kernel
theorem dX9_isQuiet_34 : decode cX9_isQuiet 34 = .ok (.aload_n 0, 1) := by decide +kernel
theorem dX9_isQuiet_35 : decode cX9_isQuiet 35 = .ok (.getfield 28, 3) := by decide +kernel
theorem dX9_isQuiet_38 : decode cX9_isQuiet 38 = .ok (.bipush 6, 2) := by decide +kernel
theorem dX9_isQuiet_40 : decode cX9_isQuiet 40 = .ok (.iload_n 2, 1) := by decide +kernel
theorem dX9_isQuiet_41 : decode cX9_isQuiet 41 = .ok (.iadd, 1) := by decide +kernel
theorem dX9_isQuiet_42 : decode cX9_isQuiet 42 = .ok (.iaload, 1) := by decide +kernel
theorem dX9_isQuiet_43 : decode cX9_isQuiet 43 = .ok (.iastore, 1) := by decide +kernel
theorem dX9_isQuiet_44 : decode cX9_isQuiet 44 = .ok (.iinc 2 1, 3) := by decide +kernel
theorem dX9_isQuiet_47 : decode cX9_isQuiet 47 = .ok (.goto (-41), 3) := by decide +kernel
theorem dX9_isQuiet_50 : decode cX9_isQuiet 50 = .ok (.iconst 0, 1) := by decide +kernel
theorem dX9_isQuiet_51 : decode cX9_isQuiet 51 = .ok (.istore_n 2, 1) := by decide +kernel
theorem dX9_isQuiet_52 : decode cX9_isQuiet 52 = .ok (.iconst 0, 1) := by decide +kernel
theorem dX9_isQuiet_53 : decode cX9_isQuiet 53 = .ok (.istore_n 3, 1) := by decide +kernel
theorem dX9_isQuiet_54 : decode cX9_isQuiet 54 = .ok (.iload_n 3, 1) := by decide +kernel
theorem dX9_isQuiet_55 : decode cX9_isQuiet 55 = .ok (.bipush 9, 2) := by decide +kernel
theorem dX9_isQuiet_57 : decode cX9_isQuiet 57 = .ok (.if_icmp .ge 20, 3) := by decide +kernel
theorem dX9_isQuiet_60 : decode cX9_isQuiet 60 = .ok (.iload_n 2, 1) := by decide +kernel
theorem dX9_isQuiet_61 : decode cX9_isQuiet 61 = .ok (.aload_n 0, 1) := by decide +kernel
theorem dX9_isQuiet_62 : decode cX9_isQuiet 62 = .ok (.aload_n 0, 1) := by decide +kernel
theorem dX9_isQuiet_63 : decode cX9_isQuiet 63 = .ok (.getfield 31, 3) := by decide +kernel
theorem dX9_isQuiet_66 : decode cX9_isQuiet 66 = .ok (.invokevirtual 155, 3) := by decide +kernel
theorem dX9_isQuiet_69 : decode cX9_isQuiet 69 = .ok (.iadd, 1) := by decide +kernel
theorem dX9_isQuiet_70 : decode cX9_isQuiet 70 = .ok (.istore_n 2, 1) := by decide +kernel
theorem dX9_isQuiet_71 : decode cX9_isQuiet 71 = .ok (.iinc 3 1, 3) := by decide +kernel
theorem dX9_isQuiet_74 : decode cX9_isQuiet 74 = .ok (.goto (-20), 3) := by decide +kernel
theorem dX9_isQuiet_77 : decode cX9_isQuiet 77 = .ok (.iload_n 2, 1) := by decide +kernel
theorem dX9_isQuiet_78 : decode cX9_isQuiet 78 = .ok (.ifCond .ne 7, 3) := by decide +kernel
theorem dX9_isQuiet_81 : decode cX9_isQuiet 81 = .ok (.iconst 1, 1) := by decide +kernel
theorem dX9_isQuiet_82 : decode cX9_isQuiet 82 = .ok (.goto 4, 3) := by decide +kernel
theorem dX9_isQuiet_85 : decode cX9_isQuiet 85 = .ok (.iconst 0, 1) := by decide +kernel
theorem dX9_isQuiet_86 : decode cX9_isQuiet 86 = .ok (.ireturn, 1) := by decide +kernel
theorem dX9_quiet_0 : decode cX9_quiet 0 = .ok (.aload_n 0, 1) := by decide +kernel
theorem dX9_quiet_1 : decode cX9_quiet 1 = .ok (.iconst 0, 1) := by decide +kernel
theorem dX9_quiet_2 : decode cX9_quiet 2 = .ok (.putfield 59, 3) := by decide +kernel
theorem dX9_quiet_5 : decode cX9_quiet 5 = .ok (.aload_n 0, 1) := by decide +kernel
theorem dX9_quiet_6 : decode cX9_quiet 6 = .ok (.aload_n 0, 1) := by decide +kernel
theorem dX9_quiet_7 : decode cX9_quiet 7 = .ok (.getfield 28, 3) := by decide +kernel
theorem dX9_quiet_10 : decode cX9_quiet 10 = .ok (.iconst 0, 1) := by decide +kernel
theorem dX9_quiet_11 : decode cX9_quiet 11 = .ok (.invokevirtual 122, 3) := by decide +kernel
theorem dX9_quiet_14 : decode cX9_quiet 14 = .ok (.istore_n 1, 1) := by decide +kernel
theorem dX9_quiet_15 : decode cX9_quiet 15 = .ok (.iload_n 1, 1) := by decide +kernel
theorem dX9_quiet_16 : decode cX9_quiet 16 = .ok (.istore_n 2, 1) := by decide +kernel
theorem dX9_quiet_17 : decode cX9_quiet 17 = .ok (.iconst 0, 1) := by decide +kernel
theorem dX9_quiet_18 : decode cX9_quiet 18 = .ok (.istore_n 3, 1) := by decide +kernel
theorem dX9_quiet_19 : decode cX9_quiet 19 = .ok (.iload_n 3, 1) := by decide +kernel
theorem dX9_quiet_20 : decode cX9_quiet 20 = .ok (.iconst 1, 1) := by decide +kernel
theorem dX9_quiet_21 : decode cX9_quiet 21 = .ok (.aload_n 0, 1) := by decide +kernel
theorem dX9_quiet_22 : decode cX9_quiet 22 = .ok (.getfield 63, 3) := by decide +kernel
theorem dX9_quiet_25 : decode cX9_quiet 25 = .ok (.ishl, 1) := by decide +kernel
theorem dX9_quiet_26 : decode cX9_quiet 26 = .ok (.if_icmp .ge 70, 3) := by decide +kernel
theorem dX9_quiet_29 : decode cX9_quiet 29 = .ok (.iload_n 3, 1) := by decide +kernel
theorem dX9_quiet_30 : decode cX9_quiet 30 = .ok (.iload_n 1, 1) := by decide +kernel
theorem dX9_quiet_31 : decode cX9_quiet 31 = .ok (.iconst (-1), 1) := by decide +kernel
theorem dX9_quiet_32 : decode cX9_quiet 32 = .ok (.ixor, 1) := by decide +kernel
theorem dX9_quiet_33 : decode cX9_quiet 33 = .ok (.iand, 1) := by decide +kernel
theorem dX9_quiet_34 : decode cX9_quiet 34 = .ok (.ifCond .ne 34, 3) := by decide +kernel
theorem dX9_quiet_37 : decode cX9_quiet 37 = .ok (.iload_n 3, 1) := by decide +kernel
theorem dX9_quiet_38 : decode cX9_quiet 38 = .ok (.invokestatic 128, 3) := by decide +kernel
theorem dX9_quiet_41 : decode cX9_quiet 41 = .ok (.iload_n 2, 1) := by decide +kernel
theorem dX9_quiet_42 : decode cX9_quiet 42 = .ok (.invokestatic 128, 3) := by decide +kernel
theorem dX9_quiet_45 : decode cX9_quiet 45 = .ok (.if_icmp .lt 19, 3) := by decide +kernel
theorem dX9_quiet_48 : decode cX9_quiet 48 = .ok (.iload_n 3, 1) := by decide +kernel
theorem dX9_quiet_49 : decode cX9_quiet 49 = .ok (.invokestatic 128, 3) := by decide +kernel
theorem dX9_quiet_52 : decode cX9_quiet 52 = .ok (.iload_n 2, 1) := by decide +kernel
theorem dX9_quiet_53 : decode cX9_quiet 53 = .ok (.invokestatic 128, 3) := by decide +kernel
theorem dX9_quiet_56 : decode cX9_quiet 56 = .ok (.if_icmp .ne 12, 3) := by decide +kernel
theorem dX9_quiet_59 : decode cX9_quiet 59 = .ok (.iload_n 3, 1) := by decide +kernel
theorem dX9_quiet_60 : decode cX9_quiet 60 = .ok (.iload_n 2, 1) := by decide +kernel
theorem dX9_quiet_61 : decode cX9_quiet 61 = .ok (.if_icmp .ge 7, 3) := by decide +kernel
theorem dX9_quiet_64 : decode cX9_quiet 64 = .ok (.iconst 1, 1) := by decide +kernel
theorem dX9_quiet_65 : decode cX9_quiet 65 = .ok (.goto 4, 3) := by decide +kernel
theorem dX9_quiet_68 : decode cX9_quiet 68 = .ok (.iconst 0, 1) := by decide +kernel
theorem dX9_quiet_69 : decode cX9_quiet 69 = .ok (.istore 4, 2) := by decide +kernel
theorem dX9_quiet_71 : decode cX9_quiet 71 = .ok (.iload 4, 2) := by decide +kernel
theorem dX9_quiet_73 : decode cX9_quiet 73 = .ok (.ifCond .eq 15, 3) := by decide +kernel
theorem dX9_quiet_76 : decode cX9_quiet 76 = .ok (.aload_n 0, 1) := by decide +kernel
theorem dX9_quiet_77 : decode cX9_quiet 77 = .ok (.iload_n 3, 1) := by decide +kernel
theorem dX9_quiet_78 : decode cX9_quiet 78 = .ok (.invokevirtual 214, 3) := by decide +kernel
theorem dX9_quiet_81 : decode cX9_quiet 81 = .ok (.ifCond .eq 7, 3) := by decide +kernel
theorem dX9_quiet_84 : decode cX9_quiet 84 = .ok (.iload_n 3, 1) := by decide +kernel
theorem dX9_quiet_85 : decode cX9_quiet 85 = .ok (.goto 4, 3) := by decide +kernel
theorem dX9_quiet_88 : decode cX9_quiet 88 = .ok (.iload_n 2, 1) := by decide +kernel
theorem dX9_quiet_89 : decode cX9_quiet 89 = .ok (.istore_n 2, 1) := by decide +kernel
theorem dX9_quiet_90 : decode cX9_quiet 90 = .ok (.iinc 3 1, 3) := by decide +kernel
theorem dX9_quiet_93 : decode cX9_quiet 93 = .ok (.goto (-74), 3) := by decide +kernel
theorem dX9_quiet_96 : decode cX9_quiet 96 = .ok (.iload_n 2, 1) := by decide +kernel
theorem dX9_quiet_97 : decode cX9_quiet 97 = .ok (.ireturn, 1) := by decide +kernel
theorem dX9_longPower_0 : decode cX9_longPower 0 = .ok (.lconst 1, 1) := by decide +kernel
theorem dX9_longPower_1 : decode cX9_longPower 1 = .ok (.lstore_n 3, 1) := by decide +kernel
theorem dX9_longPower_2 : decode cX9_longPower 2 = .ok (.iconst 0, 1) := by decide +kernel
theorem dX9_longPower_3 : decode cX9_longPower 3 = .ok (.istore 5, 2) := by decide +kernel
theorem dX9_longPower_5 : decode cX9_longPower 5 = .ok (.iload 5, 2) := by decide +kernel
theorem dX9_longPower_7 : decode cX9_longPower 7 = .ok (.iload_n 2, 1) := by decide +kernel
theorem dX9_longPower_8 : decode cX9_longPower 8 = .ok (.if_icmp .ge 13, 3) := by decide +kernel
theorem dX9_longPower_11 : decode cX9_longPower 11 = .ok (.lload_n 3, 1) := by decide +kernel
theorem dX9_longPower_12 : decode cX9_longPower 12 = .ok (.lload_n 0, 1) := by decide +kernel
theorem dX9_longPower_13 : decode cX9_longPower 13 = .ok (.lmul, 1) := by decide +kernel
theorem dX9_longPower_14 : decode cX9_longPower 14 = .ok (.lstore_n 3, 1) := by decide +kernel
theorem dX9_longPower_15 : decode cX9_longPower 15 = .ok (.iinc 5 1, 3) := by decide +kernel
theorem dX9_longPower_18 : decode cX9_longPower 18 = .ok (.goto (-13), 3) := by decide +kernel
theorem dX9_longPower_21 : decode cX9_longPower 21 = .ok (.lload_n 3, 1) := by decide +kernel
theorem dX9_longPower_22 : decode cX9_longPower 22 = .ok (.lreturn, 1) := by decide +kernel
theorem dX9_does_0 : decode cX9_does 0 = .ok (.iload_n 1, 1) := by decide +kernel
theorem dX9_does_1 : decode cX9_does 1 = .ok (.sipush 1000, 3) := by decide +kernel
theorem dX9_does_4 : decode cX9_does 4 = .ok (.idiv, 1) := by decide +kernel
theorem dX9_does_5 : decode cX9_does 5 = .ok (.istore_n 2, 1) := by decide +kernel
theorem dX9_does_6 : decode cX9_does 6 = .ok (.iload_n 1, 1) := by decide +kernel
theorem dX9_does_7 : decode cX9_does 7 = .ok (.bipush 100, 2) := by decide +kernel
theorem dX9_does_9 : decode cX9_does 9 = .ok (.idiv, 1) := by decide +kernel
theorem dX9_does_10 : decode cX9_does 10 = .ok (.bipush 10, 2) := by decide +kernel
theorem dX9_does_12 : decode cX9_does 12 = .ok (.irem, 1) := by decide +kernel
theorem dX9_does_13 : decode cX9_does 13 = .ok (.istore_n 3, 1) := by decide +kernel
theorem dX9_does_14 : decode cX9_does 14 = .ok (.iload_n 1, 1) := by decide +kernel
theorem dX9_does_15 : decode cX9_does 15 = .ok (.bipush 100, 2) := by decide +kernel
theorem dX9_does_17 : decode cX9_does 17 = .ok (.irem, 1) := by decide +kernel
theorem dX9_does_18 : decode cX9_does 18 = .ok (.istore 4, 2) := by decide +kernel
theorem dX9_does_20 : decode cX9_does 20 = .ok (.iload_n 1, 1) := by decide +kernel
theorem dX9_does_21 : decode cX9_does 21 = .ok (.ifCond .ne 14, 3) := by decide +kernel
theorem dX9_does_24 : decode cX9_does 24 = .ok (.aload_n 0, 1) := by decide +kernel
theorem dX9_does_25 : decode cX9_does 25 = .ok (.aload_n 0, 1) := by decide +kernel
theorem dX9_does_26 : decode cX9_does 26 = .ok (.getfield 31, 3) := by decide +kernel
theorem dX9_does_29 : decode cX9_does 29 = .ok (.invokevirtual 155, 3) := by decide +kernel
theorem dX9_does_32 : decode cX9_does 32 = .ok (.pop, 1) := by decide +kernel
theorem dX9_does_33 : decode cX9_does 33 = .ok (.iconst 1, 1) := by decide +kernel
theorem dX9_does_34 : decode cX9_does 34 = .ok (.ireturn, 1) := by decide +kernel
theorem dX9_does_35 : decode cX9_does 35 = .ok (.iload_n 2, 1) := by decide +kernel
theorem dX9_does_36 : decode cX9_does 36 = .ok (.iconst 1, 1) := by decide +kernel
theorem dX9_does_37 : decode cX9_does 37 = .ok (.if_icmp .ne 42, 3) := by decide +kernel
theorem dX9_does_40 : decode cX9_does 40 = .ok (.aload_n 0, 1) := by decide +kernel
theorem dX9_does_41 : decode cX9_does 41 = .ok (.iload_n 3, 1) := by decide +kernel
theorem dX9_does_42 : decode cX9_does 42 = .ok (.invokevirtual 164, 3) := by decide +kernel
theorem dX9_does_45 : decode cX9_does 45 = .ok (.ifCond .ne 34, 3) := by decide +kernel
theorem dX9_does_48 : decode cX9_does 48 = .ok (.iload 4, 2) := by decide +kernel
theorem dX9_does_50 : decode cX9_does 50 = .ok (.bipush 12, 2) := by decide +kernel
theorem dX9_does_52 : decode cX9_does 52 = .ok (.if_icmp .ge 27, 3) := by decide +kernel
theorem dX9_does_55 : decode cX9_does 55 = .ok (.aload_n 0, 1) := by decide +kernel
theorem dX9_does_56 : decode cX9_does 56 = .ok (.aload_n 0, 1) := by decide +kernel
theorem dX9_does_57 : decode cX9_does 57 = .ok (.getfield 31, 3) := by decide +kernel
theorem dX9_does_60 : decode cX9_does 60 = .ok (.iload_n 3, 1) := by decide +kernel
theorem dX9_does_61 : decode cX9_does 61 = .ok (.iload 4, 2) := by decide +kernel
theorem dX9_does_63 : decode cX9_does 63 = .ok (.invokevirtual 176, 3) := by decide +kernel
theorem dX9_does_66 : decode cX9_does 66 = .ok (.ifCond .eq 13, 3) := by decide +kernel
theorem dX9_does_69 : decode cX9_does 69 = .ok (.aload_n 0, 1) := by decide +kernel
theorem dX9_does_70 : decode cX9_does 70 = .ok (.getfield 31, 3) := by decide +kernel
theorem dX9_does_73 : decode cX9_does 73 = .ok (.iload_n 3, 1) := by decide +kernel
theorem dX9_does_74 : decode cX9_does 74 = .ok (.iload 4, 2) := by decide +kernel
theorem dX9_does_76 : decode cX9_does 76 = .ok (.iastore, 1) := by decide +kernel
theorem dX9_does_77 : decode cX9_does 77 = .ok (.iconst 1, 1) := by decide +kernel
theorem dX9_does_78 : decode cX9_does 78 = .ok (.ireturn, 1) := by decide +kernel
theorem dX9_does_79 : decode cX9_does 79 = .ok (.iload_n 2, 1) := by decide +kernel
theorem dX9_does_80 : decode cX9_does 80 = .ok (.iconst 2, 1) := by decide +kernel
theorem dX9_does_81 : decode cX9_does 81 = .ok (.if_icmp .ne 31, 3) := by decide +kernel
theorem dX9_does_84 : decode cX9_does 84 = .ok (.iload_n 3, 1) := by decide +kernel
theorem dX9_does_85 : decode cX9_does 85 = .ok (.ifCond .ne 27, 3) := by decide +kernel
theorem dX9_does_88 : decode cX9_does 88 = .ok (.iload 4, 2) := by decide +kernel
theorem dX9_does_90 : decode cX9_does 90 = .ok (.i2l, 1) := by decide +kernel
theorem dX9_does_91 : decode cX9_does 91 = .ok (.lconst 1, 1) := by decide +kernel
theorem dX9_does_92 : decode cX9_does 92 = .ok (.ldc2_w 180, 3) := by decide +kernel
theorem dX9_does_95 : decode cX9_does 95 = .ok (.invokestatic 66, 3) := by decide +kernel
theorem dX9_does_98 : decode cX9_does 98 = .ok (.ifCond .eq 14, 3) := by decide +kernel
theorem dX9_does_101 : decode cX9_does 101 = .ok (.aload_n 0, 1) := by decide +kernel
theorem dX9_does_102 : decode cX9_does 102 = .ok (.getfield 31, 3) := by decide +kernel
theorem dX9_does_105 : decode cX9_does 105 = .ok (.iload 4, 2) := by decide +kernel
theorem dX9_does_107 : decode cX9_does 107 = .ok (.invokestatic 182, 3) := by decide +kernel
theorem dX9_does_110 : decode cX9_does 110 = .ok (.iconst 1, 1) := by decide +kernel
theorem dX9_does_111 : decode cX9_does 111 = .ok (.ireturn, 1) := by decide +kernel
theorem dX9_does_112 : decode cX9_does 112 = .ok (.iload_n 2, 1) := by decide +kernel
theorem dX9_does_113 : decode cX9_does 113 = .ok (.iconst 3, 1) := by decide +kernel
theorem dX9_does_114 : decode cX9_does 114 = .ok (.if_icmp .ne 44, 3) := by decide +kernel
theorem dX9_does_117 : decode cX9_does 117 = .ok (.aload_n 0, 1) := by decide +kernel
theorem dX9_does_118 : decode cX9_does 118 = .ok (.iload_n 3, 1) := by decide +kernel
theorem dX9_does_119 : decode cX9_does 119 = .ok (.invokevirtual 168, 3) := by decide +kernel
theorem dX9_does_122 : decode cX9_does 122 = .ok (.ifCond .ne 36, 3) := by decide +kernel
theorem dX9_does_125 : decode cX9_does 125 = .ok (.iload 4, 2) := by decide +kernel
theorem dX9_does_127 : decode cX9_does 127 = .ok (.iconst 3, 1) := by decide +kernel
theorem dX9_does_128 : decode cX9_does 128 = .ok (.if_icmp .ge 30, 3) := by decide +kernel
theorem dX9_does_131 : decode cX9_does 131 = .ok (.aload_n 0, 1) := by decide +kernel
theorem dX9_does_132 : decode cX9_does 132 = .ok (.getfield 31, 3) := by decide +kernel
theorem dX9_does_135 : decode cX9_does 135 = .ok (.bipush 18, 2) := by decide +kernel
theorem dX9_does_137 : decode cX9_does 137 = .ok (.iload_n 3, 1) := by decide +kernel
theorem dX9_does_138 : decode cX9_does 138 = .ok (.iadd, 1) := by decide +kernel
theorem dX9_does_139 : decode cX9_does 139 = .ok (.iaload, 1) := by decide +kernel
theorem dX9_does_140 : decode cX9_does 140 = .ok (.iload 4, 2) := by decide +kernel
theorem dX9_does_142 : decode cX9_does 142 = .ok (.if_icmp .eq 16, 3) := by decide +kernel
theorem dX9_does_145 : decode cX9_does 145 = .ok (.aload_n 0, 1) := by decide +kernel
theorem dX9_does_146 : decode cX9_does 146 = .ok (.getfield 31, 3) := by decide +kernel
theorem dX9_does_149 : decode cX9_does 149 = .ok (.bipush 18, 2) := by decide +kernel
theorem dX9_does_151 : decode cX9_does 151 = .ok (.iload_n 3, 1) := by decide +kernel
theorem dX9_does_152 : decode cX9_does 152 = .ok (.iadd, 1) := by decide +kernel
theorem dX9_does_153 : decode cX9_does 153 = .ok (.iload 4, 2) := by decide +kernel
theorem dX9_does_155 : decode cX9_does 155 = .ok (.iastore, 1) := by decide +kernel
theorem dX9_does_156 : decode cX9_does 156 = .ok (.iconst 1, 1) := by decide +kernel
theorem dX9_does_157 : decode cX9_does 157 = .ok (.ireturn, 1) := by decide +kernel
theorem dX9_does_158 : decode cX9_does 158 = .ok (.iload_n 2, 1) := by decide +kernel
theorem dX9_does_159 : decode cX9_does 159 = .ok (.iconst 4, 1) := by decide +kernel
theorem dX9_does_160 : decode cX9_does 160 = .ok (.if_icmp .ne 35, 3) := by decide +kernel
theorem dX9_does_163 : decode cX9_does 163 = .ok (.aload_n 0, 1) := by decide +kernel
theorem dX9_does_164 : decode cX9_does 164 = .ok (.iload_n 3, 1) := by decide +kernel
theorem dX9_does_165 : decode cX9_does 165 = .ok (.invokevirtual 164, 3) := by decide +kernel
theorem dX9_does_168 : decode cX9_does 168 = .ok (.ifCond .ne 27, 3) := by decide +kernel
theorem dX9_does_171 : decode cX9_does 171 = .ok (.iload 4, 2) := by decide +kernel
theorem dX9_does_173 : decode cX9_does 173 = .ok (.iconst 4, 1) := by decide +kernel
theorem dX9_does_174 : decode cX9_does 174 = .ok (.if_icmp .ge 21, 3) := by decide +kernel
theorem dX9_does_177 : decode cX9_does 177 = .ok (.aload_n 0, 1) := by decide +kernel
theorem dX9_does_178 : decode cX9_does 178 = .ok (.getfield 31, 3) := by decide +kernel
theorem dX9_does_181 : decode cX9_does 181 = .ok (.bipush 6, 2) := by decide +kernel
theorem dX9_does_183 : decode cX9_does 183 = .ok (.iload_n 3, 1) := by decide +kernel
theorem dX9_does_184 : decode cX9_does 184 = .ok (.iadd, 1) := by decide +kernel
theorem dX9_does_185 : decode cX9_does 185 = .ok (.iaload, 1) := by decide +kernel
theorem dX9_does_186 : decode cX9_does 186 = .ok (.iload 4, 2) := by decide +kernel
theorem dX9_does_188 : decode cX9_does 188 = .ok (.if_icmp .ne 7, 3) := by decide +kernel
theorem dX9_does_191 : decode cX9_does 191 = .ok (.iconst 1, 1) := by decide +kernel
theorem dX9_does_192 : decode cX9_does 192 = .ok (.goto 4, 3) := by decide +kernel
theorem dX9_does_195 : decode cX9_does 195 = .ok (.iconst 0, 1) := by decide +kernel
theorem dX9_does_196 : decode cX9_does 196 = .ok (.ireturn, 1) := by decide +kernel
theorem dX9_judge_0 : decode cX9_judge 0 = .ok (.aload_n 0, 1) := by decide +kernel
theorem dX9_judge_1 : decode cX9_judge 1 = .ok (.iconst 0, 1) := by decide +kernel
theorem dX9_judge_2 : decode cX9_judge 2 = .ok (.putfield 59, 3) := by decide +kernel
theorem dX9_judge_5 : decode cX9_judge 5 = .ok (.iload_n 1, 1) := by decide +kernel
theorem dX9_judge_6 : decode cX9_judge 6 = .ok (.i2l, 1) := by decide +kernel
theorem dX9_judge_7 : decode cX9_judge 7 = .ok (.lconst 1, 1) := by decide +kernel
theorem dX9_judge_8 : decode cX9_judge 8 = .ok (.ldc2_w 217, 3) := by decide +kernel
theorem dX9_judge_11 : decode cX9_judge 11 = .ok (.invokestatic 66, 3) := by decide +kernel
theorem dX9_judge_14 : decode cX9_judge 14 = .ok (.ifCond .eq 20, 3) := by decide +kernel
theorem dX9_judge_17 : decode cX9_judge 17 = .ok (.lload_n 2, 1) := by decide +kernel
theorem dX9_judge_18 : decode cX9_judge 18 = .ok (.lconst 0, 1) := by decide +kernel
theorem dX9_judge_19 : decode cX9_judge 19 = .ok (.ldc2_w 219, 3) := by decide +kernel
theorem dX9_judge_22 : decode cX9_judge 22 = .ok (.iload_n 1, 1) := by decide +kernel
theorem dX9_judge_23 : decode cX9_judge 23 = .ok (.invokestatic 221, 3) := by decide +kernel
theorem dX9_judge_26 : decode cX9_judge 26 = .ok (.lconst 1, 1) := by decide +kernel
theorem dX9_judge_27 : decode cX9_judge 27 = .ok (.lsub, 1) := by decide +kernel
theorem dX9_judge_28 : decode cX9_judge 28 = .ok (.invokestatic 66, 3) := by decide +kernel
theorem dX9_judge_31 : decode cX9_judge 31 = .ok (.ifCond .ne 6, 3) := by decide +kernel
theorem dX9_judge_34 : decode cX9_judge 34 = .ok (.bipush (-2), 2) := by decide +kernel
theorem dX9_judge_36 : decode cX9_judge 36 = .ok (.ireturn, 1) := by decide +kernel
theorem dX9_judge_37 : decode cX9_judge 37 = .ok (.aload_n 0, 1) := by decide +kernel
theorem dX9_judge_38 : decode cX9_judge 38 = .ok (.invokevirtual 191, 3) := by decide +kernel
theorem dX9_judge_41 : decode cX9_judge 41 = .ok (.iconst 0, 1) := by decide +kernel
theorem dX9_judge_42 : decode cX9_judge 42 = .ok (.istore 4, 2) := by decide +kernel
theorem dX9_judge_44 : decode cX9_judge 44 = .ok (.iload 4, 2) := by decide +kernel
theorem dX9_judge_46 : decode cX9_judge 46 = .ok (.iload_n 1, 1) := by decide +kernel
theorem dX9_judge_47 : decode cX9_judge 47 = .ok (.if_icmp .ge 38, 3) := by decide +kernel
theorem dX9_judge_50 : decode cX9_judge 50 = .ok (.aload_n 0, 1) := by decide +kernel
theorem dX9_judge_51 : decode cX9_judge 51 = .ok (.lload_n 2, 1) := by decide +kernel
theorem dX9_judge_52 : decode cX9_judge 52 = .ok (.ldc2_w 219, 3) := by decide +kernel
theorem dX9_judge_55 : decode cX9_judge 55 = .ok (.iload_n 1, 1) := by decide +kernel
theorem dX9_judge_56 : decode cX9_judge 56 = .ok (.iconst 1, 1) := by decide +kernel
theorem dX9_judge_57 : decode cX9_judge 57 = .ok (.isub, 1) := by decide +kernel
theorem dX9_judge_58 : decode cX9_judge 58 = .ok (.iload 4, 2) := by decide +kernel
theorem dX9_judge_60 : decode cX9_judge 60 = .ok (.isub, 1) := by decide +kernel
theorem dX9_judge_61 : decode cX9_judge 61 = .ok (.invokestatic 221, 3) := by decide +kernel
theorem dX9_judge_64 : decode cX9_judge 64 = .ok (.ldiv, 1) := by decide +kernel
theorem dX9_judge_65 : decode cX9_judge 65 = .ok (.ldc2_w 219, 3) := by decide +kernel
theorem dX9_judge_68 : decode cX9_judge 68 = .ok (.lrem, 1) := by decide +kernel
theorem dX9_judge_69 : decode cX9_judge 69 = .ok (.l2i, 1) := by decide +kernel
theorem dX9_judge_70 : decode cX9_judge 70 = .ok (.invokevirtual 225, 3) := by decide +kernel
theorem dX9_judge_73 : decode cX9_judge 73 = .ok (.ifCond .ne 6, 3) := by decide +kernel
theorem dX9_judge_76 : decode cX9_judge 76 = .ok (.iload 4, 2) := by decide +kernel
theorem dX9_judge_78 : decode cX9_judge 78 = .ok (.ireturn, 1) := by decide +kernel
theorem dX9_judge_79 : decode cX9_judge 79 = .ok (.iinc 4 1, 3) := by decide +kernel
theorem dX9_judge_82 : decode cX9_judge 82 = .ok (.goto (-38), 3) := by decide +kernel
theorem dX9_judge_85 : decode cX9_judge 85 = .ok (.bipush (-9), 2) := by decide +kernel
theorem dX9_judge_87 : decode cX9_judge 87 = .ok (.ireturn, 1) := by decide +kernel
theorem dX9_ways_0 : decode cX9_ways 0 = .ok (.iconst 1, 1) := by decide +kernel
theorem dX9_ways_1 : decode cX9_ways 1 = .ok (.istore_n 1, 1) := by decide +kernel
theorem dX9_ways_2 : decode cX9_ways 2 = .ok (.iconst 2, 1) := by decide +kernel
theorem dX9_ways_3 : decode cX9_ways 3 = .ok (.istore_n 2, 1) := by decide +kernel
theorem dX9_ways_4 : decode cX9_ways 4 = .ok (.iload_n 2, 1) := by decide +kernel
theorem dX9_ways_5 : decode cX9_ways 5 = .ok (.iload_n 0, 1) := by decide +kernel
theorem dX9_ways_6 : decode cX9_ways 6 = .ok (.if_icmp .gt 13, 3) := by decide +kernel
theorem dX9_ways_9 : decode cX9_ways 9 = .ok (.iload_n 1, 1) := by decide +kernel
theorem dX9_ways_10 : decode cX9_ways 10 = .ok (.iload_n 2, 1) := by decide +kernel
theorem dX9_ways_11 : decode cX9_ways 11 = .ok (.imul, 1) := by decide +kernel
theorem dX9_ways_12 : decode cX9_ways 12 = .ok (.istore_n 1, 1) := by decide +kernel
theorem dX9_ways_13 : decode cX9_ways 13 = .ok (.iinc 2 1, 3) := by decide +kernel
theorem dX9_ways_16 : decode cX9_ways 16 = .ok (.goto (-12), 3) := by decide +kernel
theorem dX9_ways_19 : decode cX9_ways 19 = .ok (.iload_n 1, 1) := by decide +kernel
theorem dX9_ways_20 : decode cX9_ways 20 = .ok (.ireturn, 1) := by decide +kernel
theorem dX9_divisor_0 : decode cX9_divisor 0 = .ok (.iload_n 0, 1) := by decide +kernel
theorem dX9_divisor_1 : decode cX9_divisor 1 = .ok (.ifCond .ge 8, 3) := by decide +kernel
theorem dX9_divisor_4 : decode cX9_divisor 4 = .ok (.iload_n 0, 1) := by decide +kernel
theorem dX9_divisor_5 : decode cX9_divisor 5 = .ok (.ineg, 1) := by decide +kernel
theorem dX9_divisor_6 : decode cX9_divisor 6 = .ok (.goto 4, 3) := by decide +kernel
theorem dX9_divisor_9 : decode cX9_divisor 9 = .ok (.iload_n 0, 1) := by decide +kernel
theorem dX9_divisor_10 : decode cX9_divisor 10 = .ok (.istore_n 2, 1) := by decide +kernel
theorem dX9_divisor_11 : decode cX9_divisor 11 = .ok (.iload_n 1, 1) := by decide +kernel
theorem dX9_divisor_12 : decode cX9_divisor 12 = .ok (.istore_n 3, 1) := by decide +kernel
theorem dX9_divisor_13 : decode cX9_divisor 13 = .ok (.iload_n 3, 1) := by decide +kernel
theorem dX9_divisor_14 : decode cX9_divisor 14 = .ok (.ifCond .eq 16, 3) := by decide +kernel
theorem dX9_divisor_17 : decode cX9_divisor 17 = .ok (.iload_n 2, 1) := by decide +kernel
theorem dX9_divisor_18 : decode cX9_divisor 18 = .ok (.iload_n 3, 1) := by decide +kernel
theorem dX9_divisor_19 : decode cX9_divisor 19 = .ok (.irem, 1) := by decide +kernel
theorem dX9_divisor_20 : decode cX9_divisor 20 = .ok (.istore 4, 2) := by decide +kernel
theorem dX9_divisor_22 : decode cX9_divisor 22 = .ok (.iload_n 3, 1) := by decide +kernel
theorem dX9_divisor_23 : decode cX9_divisor 23 = .ok (.istore_n 2, 1) := by decide +kernel
theorem dX9_divisor_24 : decode cX9_divisor 24 = .ok (.iload 4, 2) := by decide +kernel
theorem dX9_divisor_26 : decode cX9_divisor 26 = .ok (.istore_n 3, 1) := by decide +kernel
theorem dX9_divisor_27 : decode cX9_divisor 27 = .ok (.goto (-14), 3) := by decide +kernel
theorem dX9_divisor_30 : decode cX9_divisor 30 = .ok (.iload_n 2, 1) := by decide +kernel
theorem dX9_divisor_31 : decode cX9_divisor 31 = .ok (.ireturn, 1) := by decide +kernel
theorem dX9_fraction_0 : decode cX9_fraction 0 = .ok (.iload_n 0, 1) := by decide +kernel
theorem dX9_fraction_1 : decode cX9_fraction 1 = .ok (.iload_n 1, 1) := by decide +kernel
theorem dX9_fraction_2 : decode cX9_fraction 2 = .ok (.invokestatic 228, 3) := by decide +kernel
theorem dX9_fraction_5 : decode cX9_fraction 5 = .ok (.istore_n 3, 1) := by decide +kernel
theorem dX9_fraction_6 : decode cX9_fraction 6 = .ok (.iload_n 2, 1) := by decide +kernel
theorem dX9_fraction_7 : decode cX9_fraction 7 = .ok (.ifCond .eq 9, 3) := by decide +kernel
theorem dX9_fraction_10 : decode cX9_fraction 10 = .ok (.iload_n 0, 1) := by decide +kernel
theorem dX9_fraction_11 : decode cX9_fraction 11 = .ok (.iload_n 3, 1) := by decide +kernel
theorem dX9_fraction_12 : decode cX9_fraction 12 = .ok (.idiv, 1) := by decide +kernel
theorem dX9_fraction_13 : decode cX9_fraction 13 = .ok (.goto 6, 3) := by decide +kernel
theorem dX9_fraction_16 : decode cX9_fraction 16 = .ok (.iload_n 1, 1) := by decide +kernel
theorem dX9_fraction_17 : decode cX9_fraction 17 = .ok (.iload_n 3, 1) := by decide +kernel
theorem dX9_fraction_18 : decode cX9_fraction 18 = .ok (.idiv, 1) := by decide +kernel
theorem dX9_fraction_19 : decode cX9_fraction 19 = .ok (.ireturn, 1) := by decide +kernel
theorem dX9_share_0 : decode cX9_share 0 = .ok (.aload_n 0, 1) := by decide +kernel
theorem dX9_share_1 : decode cX9_share 1 = .ok (.iconst 0, 1) := by decide +kernel
theorem dX9_share_2 : decode cX9_share 2 = .ok (.putfield 59, 3) := by decide +kernel
theorem dX9_share_5 : decode cX9_share 5 = .ok (.aload_n 0, 1) := by decide +kernel
theorem dX9_share_6 : decode cX9_share 6 = .ok (.iload_n 1, 1) := by decide +kernel
theorem dX9_share_7 : decode cX9_share 7 = .ok (.invokevirtual 168, 3) := by decide +kernel
theorem dX9_share_10 : decode cX9_share 10 = .ok (.ifCond .eq 5, 3) := by decide +kernel
theorem dX9_share_13 : decode cX9_share 13 = .ok (.iconst (-1), 1) := by decide +kernel
theorem dX9_share_14 : decode cX9_share 14 = .ok (.ireturn, 1) := by decide +kernel
theorem dX9_share_15 : decode cX9_share 15 = .ok (.iconst 0, 1) := by decide +kernel
theorem dX9_share_16 : decode cX9_share 16 = .ok (.istore_n 3, 1) := by decide +kernel
theorem dX9_share_17 : decode cX9_share 17 = .ok (.iload_n 3, 1) := by decide +kernel
theorem dX9_share_18 : decode cX9_share 18 = .ok (.iconst 1, 1) := by decide +kernel
theorem dX9_share_19 : decode cX9_share 19 = .ok (.aload_n 0, 1) := by decide +kernel
theorem dX9_share_20 : decode cX9_share 20 = .ok (.getfield 70, 3) := by decide +kernel
theorem dX9_share_23 : decode cX9_share 23 = .ok (.ishl, 1) := by decide +kernel
theorem dX9_share_24 : decode cX9_share 24 = .ok (.if_icmp .ge 41, 3) := by decide +kernel
theorem dX9_share_27 : decode cX9_share 27 = .ok (.aload_n 0, 1) := by decide +kernel
theorem dX9_share_28 : decode cX9_share 28 = .ok (.invokevirtual 191, 3) := by decide +kernel
theorem dX9_share_31 : decode cX9_share 31 = .ok (.aload_n 0, 1) := by decide +kernel
theorem dX9_share_32 : decode cX9_share 32 = .ok (.iload_n 3, 1) := by decide +kernel
theorem dX9_share_33 : decode cX9_share 33 = .ok (.putfield 141, 3) := by decide +kernel
theorem dX9_share_36 : decode cX9_share 36 = .ok (.aload_n 0, 1) := by decide +kernel
theorem dX9_share_37 : decode cX9_share 37 = .ok (.bipush 9, 2) := by decide +kernel
theorem dX9_share_39 : decode cX9_share 39 = .ok (.invokevirtual 194, 3) := by decide +kernel
theorem dX9_share_42 : decode cX9_share 42 = .ok (.aload_n 0, 1) := by decide +kernel
theorem dX9_share_43 : decode cX9_share 43 = .ok (.getfield 56, 3) := by decide +kernel
theorem dX9_share_46 : decode cX9_share 46 = .ok (.iload_n 3, 1) := by decide +kernel
theorem dX9_share_47 : decode cX9_share 47 = .ok (.aload_n 0, 1) := by decide +kernel
theorem dX9_share_48 : decode cX9_share 48 = .ok (.aload_n 0, 1) := by decide +kernel
theorem dX9_share_49 : decode cX9_share 49 = .ok (.getfield 31, 3) := by decide +kernel
theorem dX9_share_52 : decode cX9_share 52 = .ok (.invokevirtual 198, 3) := by decide +kernel
theorem dX9_share_55 : decode cX9_share 55 = .ok (.invokestatic 128, 3) := by decide +kernel
theorem dX9_share_58 : decode cX9_share 58 = .ok (.iastore, 1) := by decide +kernel
theorem dX9_share_59 : decode cX9_share 59 = .ok (.iinc 3 1, 3) := by decide +kernel
theorem dX9_share_62 : decode cX9_share 62 = .ok (.goto (-45), 3) := by decide +kernel
theorem dX9_share_65 : decode cX9_share 65 = .ok (.iconst 0, 1) := by decide +kernel
theorem dX9_share_66 : decode cX9_share 66 = .ok (.istore_n 3, 1) := by decide +kernel
theorem dX9_share_67 : decode cX9_share 67 = .ok (.iconst 0, 1) := by decide +kernel
theorem dX9_share_68 : decode cX9_share 68 = .ok (.istore 4, 2) := by decide +kernel
theorem dX9_share_70 : decode cX9_share 70 = .ok (.iload 4, 2) := by decide +kernel
theorem dX9_share_72 : decode cX9_share 72 = .ok (.iconst 1, 1) := by decide +kernel
theorem dX9_share_73 : decode cX9_share 73 = .ok (.aload_n 0, 1) := by decide +kernel
theorem dX9_share_74 : decode cX9_share 74 = .ok (.getfield 70, 3) := by decide +kernel
theorem dX9_share_77 : decode cX9_share 77 = .ok (.ishl, 1) := by decide +kernel
theorem dX9_share_78 : decode cX9_share 78 = .ok (.if_icmp .ge 66, 3) := by decide +kernel
theorem dX9_share_81 : decode cX9_share 81 = .ok (.iload 4, 2) := by decide +kernel
theorem dX9_share_83 : decode cX9_share 83 = .ok (.iload_n 1, 1) := by decide +kernel
theorem dX9_share_84 : decode cX9_share 84 = .ok (.invokestatic 144, 3) := by decide +kernel
theorem dX9_share_87 : decode cX9_share 87 = .ok (.ifCond .ne 51, 3) := by decide +kernel
theorem dX9_share_90 : decode cX9_share 90 = .ok (.iload 4, 2) := by decide +kernel
theorem dX9_share_92 : decode cX9_share 92 = .ok (.invokestatic 128, 3) := by decide +kernel
theorem dX9_share_95 : decode cX9_share 95 = .ok (.istore 5, 2) := by decide +kernel
theorem dX9_share_97 : decode cX9_share 97 = .ok (.iload_n 3, 1) := by decide +kernel
theorem dX9_share_98 : decode cX9_share 98 = .ok (.iload 5, 2) := by decide +kernel
theorem dX9_share_100 : decode cX9_share 100 = .ok (.invokestatic 231, 3) := by decide +kernel
theorem dX9_share_103 : decode cX9_share 103 = .ok (.aload_n 0, 1) := by decide +kernel
theorem dX9_share_104 : decode cX9_share 104 = .ok (.getfield 70, 3) := by decide +kernel
theorem dX9_share_107 : decode cX9_share 107 = .ok (.iconst 1, 1) := by decide +kernel
theorem dX9_share_108 : decode cX9_share 108 = .ok (.isub, 1) := by decide +kernel
theorem dX9_share_109 : decode cX9_share 109 = .ok (.iload 5, 2) := by decide +kernel
theorem dX9_share_111 : decode cX9_share 111 = .ok (.isub, 1) := by decide +kernel
theorem dX9_share_112 : decode cX9_share 112 = .ok (.invokestatic 231, 3) := by decide +kernel
theorem dX9_share_115 : decode cX9_share 115 = .ok (.imul, 1) := by decide +kernel
theorem dX9_share_116 : decode cX9_share 116 = .ok (.aload_n 0, 1) := by decide +kernel
theorem dX9_share_117 : decode cX9_share 117 = .ok (.getfield 56, 3) := by decide +kernel
theorem dX9_share_120 : decode cX9_share 120 = .ok (.iload 4, 2) := by decide +kernel
theorem dX9_share_122 : decode cX9_share 122 = .ok (.iaload, 1) := by decide +kernel
theorem dX9_share_123 : decode cX9_share 123 = .ok (.aload_n 0, 1) := by decide +kernel
theorem dX9_share_124 : decode cX9_share 124 = .ok (.getfield 56, 3) := by decide +kernel
theorem dX9_share_127 : decode cX9_share 127 = .ok (.iload 4, 2) := by decide +kernel
theorem dX9_share_129 : decode cX9_share 129 = .ok (.iconst 1, 1) := by decide +kernel
theorem dX9_share_130 : decode cX9_share 130 = .ok (.iload_n 1, 1) := by decide +kernel
theorem dX9_share_131 : decode cX9_share 131 = .ok (.ishl, 1) := by decide +kernel
theorem dX9_share_132 : decode cX9_share 132 = .ok (.ior, 1) := by decide +kernel
theorem dX9_share_133 : decode cX9_share 133 = .ok (.iaload, 1) := by decide +kernel
theorem dX9_share_134 : decode cX9_share 134 = .ok (.isub, 1) := by decide +kernel
theorem dX9_share_135 : decode cX9_share 135 = .ok (.imul, 1) := by decide +kernel
theorem dX9_share_136 : decode cX9_share 136 = .ok (.iadd, 1) := by decide +kernel
theorem dX9_share_137 : decode cX9_share 137 = .ok (.istore_n 3, 1) := by decide +kernel
theorem dX9_share_138 : decode cX9_share 138 = .ok (.iinc 4 1, 3) := by decide +kernel
theorem dX9_share_141 : decode cX9_share 141 = .ok (.goto (-71), 3) := by decide +kernel
theorem dX9_share_144 : decode cX9_share 144 = .ok (.iload_n 3, 1) := by decide +kernel
theorem dX9_share_145 : decode cX9_share 145 = .ok (.aload_n 0, 1) := by decide +kernel
theorem dX9_share_146 : decode cX9_share 146 = .ok (.getfield 70, 3) := by decide +kernel
theorem dX9_share_149 : decode cX9_share 149 = .ok (.invokestatic 231, 3) := by decide +kernel
theorem dX9_share_152 : decode cX9_share 152 = .ok (.iload_n 2, 1) := by decide +kernel
theorem dX9_share_153 : decode cX9_share 153 = .ok (.invokestatic 234, 3) := by decide +kernel
theorem dX9_share_156 : decode cX9_share 156 = .ok (.ireturn, 1) := by decide +kernel
theorem dX9_tell_0 : decode cX9_tell 0 = .ok (.aload_n 0, 1) := by decide +kernel
theorem dX9_tell_1 : decode cX9_tell 1 = .ok (.iconst 0, 1) := by decide +kernel
theorem dX9_tell_2 : decode cX9_tell 2 = .ok (.putfield 59, 3) := by decide +kernel
theorem dX9_tell_5 : decode cX9_tell 5 = .ok (.iload_n 1, 1) := by decide +kernel
theorem dX9_tell_6 : decode cX9_tell 6 = .ok (.i2l, 1) := by decide +kernel
theorem dX9_tell_7 : decode cX9_tell 7 = .ok (.lconst 0, 1) := by decide +kernel
theorem dX9_tell_8 : decode cX9_tell 8 = .ok (.ldc2_w 180, 3) := by decide +kernel
theorem dX9_tell_11 : decode cX9_tell 11 = .ok (.invokestatic 66, 3) := by decide +kernel
theorem dX9_tell_14 : decode cX9_tell 14 = .ok (.ifCond .eq 13, 3) := by decide +kernel
theorem dX9_tell_17 : decode cX9_tell 17 = .ok (.iload_n 2, 1) := by decide +kernel
theorem dX9_tell_18 : decode cX9_tell 18 = .ok (.i2l, 1) := by decide +kernel
theorem dX9_tell_19 : decode cX9_tell 19 = .ok (.lconst 0, 1) := by decide +kernel
theorem dX9_tell_20 : decode cX9_tell 20 = .ok (.lconst 1, 1) := by decide +kernel
theorem dX9_tell_21 : decode cX9_tell 21 = .ok (.invokestatic 66, 3) := by decide +kernel
theorem dX9_tell_24 : decode cX9_tell 24 = .ok (.ifCond .ne 6, 3) := by decide +kernel
theorem dX9_tell_27 : decode cX9_tell 27 = .ok (.bipush (-2), 2) := by decide +kernel
theorem dX9_tell_29 : decode cX9_tell 29 = .ok (.ireturn, 1) := by decide +kernel
theorem dX9_tell_30 : decode cX9_tell 30 = .ok (.aload_n 0, 1) := by decide +kernel
theorem dX9_tell_31 : decode cX9_tell 31 = .ok (.getfield 161, 3) := by decide +kernel
theorem dX9_tell_34 : decode cX9_tell 34 = .ok (.bipush 6, 2) := by decide +kernel
theorem dX9_tell_36 : decode cX9_tell 36 = .ok (.if_icmp .ne 6, 3) := by decide +kernel
theorem dX9_tell_39 : decode cX9_tell 39 = .ok (.bipush (-4), 2) := by decide +kernel
theorem dX9_tell_41 : decode cX9_tell 41 = .ok (.ireturn, 1) := by decide +kernel
theorem dX9_tell_42 : decode cX9_tell 42 = .ok (.aload_n 0, 1) := by decide +kernel
theorem dX9_tell_43 : decode cX9_tell 43 = .ok (.getfield 44, 3) := by decide +kernel
theorem dX9_tell_46 : decode cX9_tell 46 = .ok (.aload_n 0, 1) := by decide +kernel
theorem dX9_tell_47 : decode cX9_tell 47 = .ok (.getfield 161, 3) := by decide +kernel
theorem dX9_tell_50 : decode cX9_tell 50 = .ok (.iload_n 1, 1) := by decide +kernel
theorem dX9_tell_51 : decode cX9_tell 51 = .ok (.iastore, 1) := by decide +kernel
theorem dX9_tell_52 : decode cX9_tell 52 = .ok (.aload_n 0, 1) := by decide +kernel
theorem dX9_tell_53 : decode cX9_tell 53 = .ok (.getfield 47, 3) := by decide +kernel
theorem dX9_tell_56 : decode cX9_tell 56 = .ok (.aload_n 0, 1) := by decide +kernel
theorem dX9_tell_57 : decode cX9_tell 57 = .ok (.getfield 161, 3) := by decide +kernel
theorem dX9_tell_60 : decode cX9_tell 60 = .ok (.iload_n 2, 1) := by decide +kernel
theorem dX9_tell_61 : decode cX9_tell 61 = .ok (.iastore, 1) := by decide +kernel
theorem dX9_tell_62 : decode cX9_tell 62 = .ok (.aload_n 0, 1) := by decide +kernel
theorem dX9_tell_63 : decode cX9_tell 63 = .ok (.dup, 1) := by decide +kernel
theorem dX9_tell_64 : decode cX9_tell 64 = .ok (.getfield 161, 3) := by decide +kernel
theorem dX9_tell_67 : decode cX9_tell 67 = .ok (.iconst 1, 1) := by decide +kernel
theorem dX9_tell_68 : decode cX9_tell 68 = .ok (.iadd, 1) := by decide +kernel
theorem dX9_tell_69 : decode cX9_tell 69 = .ok (.putfield 161, 3) := by decide +kernel
theorem dX9_tell_72 : decode cX9_tell 72 = .ok (.aload_n 0, 1) := by decide +kernel
theorem dX9_tell_73 : decode cX9_tell 73 = .ok (.getfield 161, 3) := by decide +kernel
theorem dX9_tell_76 : decode cX9_tell 76 = .ok (.ireturn, 1) := by decide +kernel
theorem dX9_untell_0 : decode cX9_untell 0 = .ok (.aload_n 0, 1) := by decide +kernel
theorem dX9_untell_1 : decode cX9_untell 1 = .ok (.iconst 0, 1) := by decide +kernel
theorem dX9_untell_2 : decode cX9_untell 2 = .ok (.putfield 59, 3) := by decide +kernel
theorem dX9_untell_5 : decode cX9_untell 5 = .ok (.aload_n 0, 1) := by decide +kernel
theorem dX9_untell_6 : decode cX9_untell 6 = .ok (.getfield 161, 3) := by decide +kernel
theorem dX9_untell_9 : decode cX9_untell 9 = .ok (.istore_n 1, 1) := by decide +kernel
theorem dX9_untell_10 : decode cX9_untell 10 = .ok (.aload_n 0, 1) := by decide +kernel
theorem dX9_untell_11 : decode cX9_untell 11 = .ok (.iconst 0, 1) := by decide +kernel
theorem dX9_untell_12 : decode cX9_untell 12 = .ok (.putfield 161, 3) := by decide +kernel
theorem dX9_untell_15 : decode cX9_untell 15 = .ok (.iload_n 1, 1) := by decide +kernel
theorem dX9_untell_16 : decode cX9_untell 16 = .ok (.ireturn, 1) := by decide +kernel
theorem dX9_may_0 : decode cX9_may 0 = .ok (.aload_n 0, 1) := by decide +kernel
theorem dX9_may_1 : decode cX9_may 1 = .ok (.iconst 0, 1) := by decide +kernel
theorem dX9_may_2 : decode cX9_may 2 = .ok (.putfield 59, 3) := by decide +kernel
theorem dX9_may_5 : decode cX9_may 5 = .ok (.iload_n 1, 1) := by decide +kernel
theorem dX9_may_6 : decode cX9_may 6 = .ok (.i2l, 1) := by decide +kernel
theorem dX9_may_7 : decode cX9_may 7 = .ok (.lconst 0, 1) := by decide +kernel
theorem dX9_may_8 : decode cX9_may 8 = .ok (.lconst 1, 1) := by decide +kernel
theorem dX9_may_9 : decode cX9_may 9 = .ok (.invokestatic 66, 3) := by decide +kernel
theorem dX9_may_12 : decode cX9_may 12 = .ok (.ifCond .ne 6, 3) := by decide +kernel
theorem dX9_may_15 : decode cX9_may 15 = .ok (.bipush (-2), 2) := by decide +kernel
theorem dX9_may_17 : decode cX9_may 17 = .ok (.ireturn, 1) := by decide +kernel
theorem dX9_may_18 : decode cX9_may 18 = .ok (.aload_n 0, 1) := by decide +kernel
theorem dX9_may_19 : decode cX9_may 19 = .ok (.iconst 0, 1) := by decide +kernel
theorem dX9_may_20 : decode cX9_may 20 = .ok (.putfield 238, 3) := by decide +kernel
theorem dX9_may_23 : decode cX9_may 23 = .ok (.aload_n 0, 1) := by decide +kernel
theorem dX9_may_24 : decode cX9_may 24 = .ok (.bipush (-9), 2) := by decide +kernel
theorem dX9_may_26 : decode cX9_may 26 = .ok (.putfield 241, 3) := by decide +kernel
theorem dX9_may_29 : decode cX9_may 29 = .ok (.iconst 0, 1) := by decide +kernel
theorem dX9_may_30 : decode cX9_may 30 = .ok (.istore_n 2, 1) := by decide +kernel
theorem dX9_may_31 : decode cX9_may 31 = .ok (.iload_n 2, 1) := by decide +kernel
theorem dX9_may_32 : decode cX9_may 32 = .ok (.iconst 4, 1) := by decide +kernel
theorem dX9_may_33 : decode cX9_may 33 = .ok (.if_icmp .ge 155, 3) := by decide +kernel
theorem dX9_may_36 : decode cX9_may 36 = .ok (.iconst 1, 1) := by decide +kernel
theorem dX9_may_37 : decode cX9_may 37 = .ok (.istore_n 3, 1) := by decide +kernel
theorem dX9_may_38 : decode cX9_may 38 = .ok (.iload_n 3, 1) := by decide +kernel
theorem dX9_may_39 : decode cX9_may 39 = .ok (.bipush 9, 2) := by decide +kernel
theorem dX9_may_41 : decode cX9_may 41 = .ok (.if_icmp .gt 141, 3) := by decide +kernel
theorem dX9_may_44 : decode cX9_may 44 = .ok (.iload_n 2, 1) := by decide +kernel
theorem dX9_may_45 : decode cX9_may 45 = .ok (.iconst 2, 1) := by decide +kernel
theorem dX9_may_46 : decode cX9_may 46 = .ok (.if_icmp .ne 10, 3) := by decide +kernel
theorem dX9_may_49 : decode cX9_may 49 = .ok (.iload_n 3, 1) := by decide +kernel
theorem dX9_may_50 : decode cX9_may 50 = .ok (.invokestatic 115, 3) := by decide +kernel
theorem dX9_may_53 : decode cX9_may 53 = .ok (.goto 4, 3) := by decide +kernel
theorem dX9_may_56 : decode cX9_may 56 = .ok (.iload_n 3, 1) := by decide +kernel
theorem dX9_may_57 : decode cX9_may 57 = .ok (.istore 4, 2) := by decide +kernel
theorem dX9_may_59 : decode cX9_may 59 = .ok (.iconst 1, 1) := by decide +kernel
theorem dX9_may_60 : decode cX9_may 60 = .ok (.istore 5, 2) := by decide +kernel
theorem dX9_may_62 : decode cX9_may 62 = .ok (.iconst 0, 1) := by decide +kernel
theorem dX9_may_63 : decode cX9_may 63 = .ok (.istore 6, 2) := by decide +kernel
theorem dX9_may_65 : decode cX9_may 65 = .ok (.iload 6, 2) := by decide +kernel
theorem dX9_may_67 : decode cX9_may 67 = .ok (.aload_n 0, 1) := by decide +kernel
theorem dX9_may_68 : decode cX9_may 68 = .ok (.getfield 161, 3) := by decide +kernel
theorem dX9_may_71 : decode cX9_may 71 = .ok (.if_icmp .ge 57, 3) := by decide +kernel
theorem dX9_may_74 : decode cX9_may 74 = .ok (.iload 5, 2) := by decide +kernel
theorem dX9_may_76 : decode cX9_may 76 = .ok (.ifCond .eq 43, 3) := by decide +kernel
theorem dX9_may_79 : decode cX9_may 79 = .ok (.aload_n 0, 1) := by decide +kernel
theorem dX9_may_80 : decode cX9_may 80 = .ok (.getfield 44, 3) := by decide +kernel
theorem dX9_may_83 : decode cX9_may 83 = .ok (.iload 6, 2) := by decide +kernel
theorem dX9_may_85 : decode cX9_may 85 = .ok (.iaload, 1) := by decide +kernel
theorem dX9_may_86 : decode cX9_may 86 = .ok (.iload 4, 2) := by decide +kernel
theorem dX9_may_88 : decode cX9_may 88 = .ok (.if_icmp .lt 7, 3) := by decide +kernel
theorem dX9_may_91 : decode cX9_may 91 = .ok (.iconst 1, 1) := by decide +kernel
theorem dX9_may_92 : decode cX9_may 92 = .ok (.goto 4, 3) := by decide +kernel
theorem dX9_may_95 : decode cX9_may 95 = .ok (.iconst 0, 1) := by decide +kernel
theorem dX9_may_96 : decode cX9_may 96 = .ok (.aload_n 0, 1) := by decide +kernel
theorem dX9_may_97 : decode cX9_may 97 = .ok (.getfield 47, 3) := by decide +kernel
theorem dX9_may_100 : decode cX9_may 100 = .ok (.iload 6, 2) := by decide +kernel
theorem dX9_may_102 : decode cX9_may 102 = .ok (.iaload, 1) := by decide +kernel
theorem dX9_may_103 : decode cX9_may 103 = .ok (.iconst 1, 1) := by decide +kernel
theorem dX9_may_104 : decode cX9_may 104 = .ok (.if_icmp .ne 7, 3) := by decide +kernel
theorem dX9_may_107 : decode cX9_may 107 = .ok (.iconst 1, 1) := by decide +kernel
theorem dX9_may_108 : decode cX9_may 108 = .ok (.goto 4, 3) := by decide +kernel
theorem dX9_may_111 : decode cX9_may 111 = .ok (.iconst 0, 1) := by decide +kernel
theorem dX9_may_112 : decode cX9_may 112 = .ok (.if_icmp .ne 7, 3) := by decide +kernel
theorem dX9_may_115 : decode cX9_may 115 = .ok (.iconst 1, 1) := by decide +kernel
theorem dX9_may_116 : decode cX9_may 116 = .ok (.goto 4, 3) := by decide +kernel
theorem dX9_may_119 : decode cX9_may 119 = .ok (.iconst 0, 1) := by decide +kernel
theorem dX9_may_120 : decode cX9_may 120 = .ok (.istore 5, 2) := by decide +kernel
theorem dX9_may_122 : decode cX9_may 122 = .ok (.iinc 6 1, 3) := by decide +kernel
theorem dX9_may_125 : decode cX9_may 125 = .ok (.goto (-60), 3) := by decide +kernel
theorem dX9_may_128 : decode cX9_may 128 = .ok (.aload_n 0, 1) := by decide +kernel
theorem dX9_may_129 : decode cX9_may 129 = .ok (.iload 5, 2) := by decide +kernel
theorem dX9_may_131 : decode cX9_may 131 = .ok (.ifCond .eq 19, 3) := by decide +kernel
theorem dX9_may_134 : decode cX9_may 134 = .ok (.aload_n 0, 1) := by decide +kernel
theorem dX9_may_135 : decode cX9_may 135 = .ok (.getfield 238, 3) := by decide +kernel
theorem dX9_may_138 : decode cX9_may 138 = .ok (.ifCond .ne 12, 3) := by decide +kernel
theorem dX9_may_141 : decode cX9_may 141 = .ok (.bipush 10, 2) := by decide +kernel
theorem dX9_may_143 : decode cX9_may 143 = .ok (.iload_n 2, 1) := by decide +kernel
theorem dX9_may_144 : decode cX9_may 144 = .ok (.imul, 1) := by decide +kernel
theorem dX9_may_145 : decode cX9_may 145 = .ok (.iload_n 3, 1) := by decide +kernel
theorem dX9_may_146 : decode cX9_may 146 = .ok (.iadd, 1) := by decide +kernel
theorem dX9_may_147 : decode cX9_may 147 = .ok (.goto 7, 3) := by decide +kernel
theorem dX9_may_150 : decode cX9_may 150 = .ok (.aload_n 0, 1) := by decide +kernel
theorem dX9_may_151 : decode cX9_may 151 = .ok (.getfield 241, 3) := by decide +kernel
theorem dX9_may_154 : decode cX9_may 154 = .ok (.putfield 241, 3) := by decide +kernel
theorem dX9_may_157 : decode cX9_may 157 = .ok (.aload_n 0, 1) := by decide +kernel
theorem dX9_may_158 : decode cX9_may 158 = .ok (.dup, 1) := by decide +kernel
theorem dX9_may_159 : decode cX9_may 159 = .ok (.getfield 238, 3) := by decide +kernel
theorem dX9_may_162 : decode cX9_may 162 = .ok (.iload 5, 2) := by decide +kernel
theorem dX9_may_164 : decode cX9_may 164 = .ok (.ifCond .eq 7, 3) := by decide +kernel
theorem dX9_may_167 : decode cX9_may 167 = .ok (.iconst 1, 1) := by decide +kernel
theorem dX9_may_168 : decode cX9_may 168 = .ok (.goto 4, 3) := by decide +kernel
theorem dX9_may_171 : decode cX9_may 171 = .ok (.iconst 0, 1) := by decide +kernel
theorem dX9_may_172 : decode cX9_may 172 = .ok (.iadd, 1) := by decide +kernel
theorem dX9_may_173 : decode cX9_may 173 = .ok (.putfield 238, 3) := by decide +kernel
theorem dX9_may_176 : decode cX9_may 176 = .ok (.iinc 3 1, 3) := by decide +kernel
theorem dX9_may_179 : decode cX9_may 179 = .ok (.goto (-141), 3) := by decide +kernel
theorem dX9_may_182 : decode cX9_may 182 = .ok (.iinc 2 1, 3) := by decide +kernel
theorem dX9_may_185 : decode cX9_may 185 = .ok (.goto (-154), 3) := by decide +kernel
theorem dX9_may_188 : decode cX9_may 188 = .ok (.iload_n 1, 1) := by decide +kernel
theorem dX9_may_189 : decode cX9_may 189 = .ok (.ifCond .ne 10, 3) := by decide +kernel
theorem dX9_may_192 : decode cX9_may 192 = .ok (.aload_n 0, 1) := by decide +kernel
theorem dX9_may_193 : decode cX9_may 193 = .ok (.getfield 238, 3) := by decide +kernel
theorem dX9_may_196 : decode cX9_may 196 = .ok (.goto 7, 3) := by decide +kernel
theorem dX9_may_199 : decode cX9_may 199 = .ok (.aload_n 0, 1) := by decide +kernel
theorem dX9_may_200 : decode cX9_may 200 = .ok (.getfield 241, 3) := by decide +kernel
theorem dX9_may_203 : decode cX9_may 203 = .ok (.ireturn, 1) := by decide +kernel
theorem dX9_layGains_0 : decode cX9_layGains 0 = .ok (.aload_n 0, 1) := by decide +kernel
theorem dX9_layGains_1 : decode cX9_layGains 1 = .ok (.invokevirtual 191, 3) := by decide +kernel
theorem dX9_layGains_4 : decode cX9_layGains 4 = .ok (.aload_n 0, 1) := by decide +kernel
theorem dX9_layGains_5 : decode cX9_layGains 5 = .ok (.getfield 31, 3) := by decide +kernel
theorem dX9_layGains_8 : decode cX9_layGains 8 = .ok (.bipush 18, 2) := by decide +kernel
theorem dX9_layGains_10 : decode cX9_layGains 10 = .ok (.iload_n 1, 1) := by decide +kernel
theorem dX9_layGains_11 : decode cX9_layGains 11 = .ok (.iadd, 1) := by decide +kernel
theorem dX9_layGains_12 : decode cX9_layGains 12 = .ok (.iload_n 3, 1) := by decide +kernel
theorem dX9_layGains_13 : decode cX9_layGains 13 = .ok (.iconst 3, 1) := by decide +kernel
theorem dX9_layGains_14 : decode cX9_layGains 14 = .ok (.idiv, 1) := by decide +kernel
theorem dX9_layGains_15 : decode cX9_layGains 15 = .ok (.iastore, 1) := by decide +kernel
theorem dX9_layGains_16 : decode cX9_layGains 16 = .ok (.aload_n 0, 1) := by decide +kernel
theorem dX9_layGains_17 : decode cX9_layGains 17 = .ok (.getfield 31, 3) := by decide +kernel
theorem dX9_layGains_20 : decode cX9_layGains 20 = .ok (.bipush 18, 2) := by decide +kernel
theorem dX9_layGains_22 : decode cX9_layGains 22 = .ok (.iload_n 2, 1) := by decide +kernel
theorem dX9_layGains_23 : decode cX9_layGains 23 = .ok (.iadd, 1) := by decide +kernel
theorem dX9_layGains_24 : decode cX9_layGains 24 = .ok (.iload_n 3, 1) := by decide +kernel
theorem dX9_layGains_25 : decode cX9_layGains 25 = .ok (.iconst 3, 1) := by decide +kernel
theorem dX9_layGains_26 : decode cX9_layGains 26 = .ok (.irem, 1) := by decide +kernel
theorem dX9_layGains_27 : decode cX9_layGains 27 = .ok (.iastore, 1) := by decide +kernel
theorem dX9_layGains_28 : decode cX9_layGains 28 = .ok (.iconst 0, 1) := by decide +kernel
theorem dX9_layGains_29 : decode cX9_layGains 29 = .ok (.istore 4, 2) := by decide +kernel
theorem dX9_layGains_31 : decode cX9_layGains 31 = .ok (.iload 4, 2) := by decide +kernel
theorem dX9_layGains_33 : decode cX9_layGains 33 = .ok (.iconst 3, 1) := by decide +kernel
theorem dX9_layGains_34 : decode cX9_layGains 34 = .ok (.if_icmp .ge 17, 3) := by decide +kernel
theorem dX9_layGains_37 : decode cX9_layGains 37 = .ok (.aload_n 0, 1) := by decide +kernel
theorem dX9_layGains_38 : decode cX9_layGains 38 = .ok (.getfield 50, 3) := by decide +kernel
theorem dX9_layGains_41 : decode cX9_layGains 41 = .ok (.iload 4, 2) := by decide +kernel
theorem dX9_layGains_43 : decode cX9_layGains 43 = .ok (.iconst 0, 1) := by decide +kernel
theorem dX9_layGains_44 : decode cX9_layGains 44 = .ok (.iastore, 1) := by decide +kernel
theorem dX9_layGains_45 : decode cX9_layGains 45 = .ok (.iinc 4 1, 3) := by decide +kernel
theorem dX9_layGains_48 : decode cX9_layGains 48 = .ok (.goto (-17), 3) := by decide +kernel
theorem dX9_layGains_51 : decode cX9_layGains 51 = .ok (.aload_n 0, 1) := by decide +kernel
theorem dX9_layGains_52 : decode cX9_layGains 52 = .ok (.iconst 3, 1) := by decide +kernel
theorem dX9_layGains_53 : decode cX9_layGains 53 = .ok (.invokevirtual 194, 3) := by decide +kernel
theorem dX9_layGains_56 : decode cX9_layGains 56 = .ok (.aload_n 0, 1) := by decide +kernel
theorem dX9_layGains_57 : decode cX9_layGains 57 = .ok (.getfield 53, 3) := by decide +kernel
theorem dX9_layGains_60 : decode cX9_layGains 60 = .ok (.iconst 2, 1) := by decide +kernel
theorem dX9_layGains_61 : decode cX9_layGains 61 = .ok (.iload_n 3, 1) := by decide +kernel
theorem dX9_layGains_62 : decode cX9_layGains 62 = .ok (.imul, 1) := by decide +kernel
theorem dX9_layGains_63 : decode cX9_layGains 63 = .ok (.aload_n 0, 1) := by decide +kernel
theorem dX9_layGains_64 : decode cX9_layGains 64 = .ok (.getfield 50, 3) := by decide +kernel
theorem dX9_layGains_67 : decode cX9_layGains 67 = .ok (.iload_n 1, 1) := by decide +kernel
theorem dX9_layGains_68 : decode cX9_layGains 68 = .ok (.iaload, 1) := by decide +kernel
theorem dX9_layGains_69 : decode cX9_layGains 69 = .ok (.aload_n 0, 1) := by decide +kernel
theorem dX9_layGains_70 : decode cX9_layGains 70 = .ok (.getfield 28, 3) := by decide +kernel
theorem dX9_layGains_73 : decode cX9_layGains 73 = .ok (.bipush 18, 2) := by decide +kernel
theorem dX9_layGains_75 : decode cX9_layGains 75 = .ok (.iload_n 1, 1) := by decide +kernel
theorem dX9_layGains_76 : decode cX9_layGains 76 = .ok (.iadd, 1) := by decide +kernel
theorem dX9_layGains_77 : decode cX9_layGains 77 = .ok (.iaload, 1) := by decide +kernel
theorem dX9_layGains_78 : decode cX9_layGains 78 = .ok (.iload_n 3, 1) := by decide +kernel
theorem dX9_layGains_79 : decode cX9_layGains 79 = .ok (.iconst 3, 1) := by decide +kernel
theorem dX9_layGains_80 : decode cX9_layGains 80 = .ok (.idiv, 1) := by decide +kernel
theorem dX9_layGains_81 : decode cX9_layGains 81 = .ok (.if_icmp .ne 7, 3) := by decide +kernel
theorem dX9_layGains_84 : decode cX9_layGains 84 = .ok (.iconst 0, 1) := by decide +kernel
theorem dX9_layGains_85 : decode cX9_layGains 85 = .ok (.goto 4, 3) := by decide +kernel
theorem dX9_layGains_88 : decode cX9_layGains 88 = .ok (.iconst 1, 1) := by decide +kernel
theorem dX9_layGains_89 : decode cX9_layGains 89 = .ok (.isub, 1) := by decide +kernel
theorem dX9_layGains_90 : decode cX9_layGains 90 = .ok (.iastore, 1) := by decide +kernel
theorem dX9_layGains_91 : decode cX9_layGains 91 = .ok (.aload_n 0, 1) := by decide +kernel
theorem dX9_layGains_92 : decode cX9_layGains 92 = .ok (.getfield 53, 3) := by decide +kernel
theorem dX9_layGains_95 : decode cX9_layGains 95 = .ok (.iconst 2, 1) := by decide +kernel
theorem dX9_layGains_96 : decode cX9_layGains 96 = .ok (.iload_n 3, 1) := by decide +kernel
theorem dX9_layGains_97 : decode cX9_layGains 97 = .ok (.imul, 1) := by decide +kernel
theorem dX9_layGains_98 : decode cX9_layGains 98 = .ok (.iconst 1, 1) := by decide +kernel
theorem dX9_layGains_99 : decode cX9_layGains 99 = .ok (.iadd, 1) := by decide +kernel
theorem dX9_layGains_100 : decode cX9_layGains 100 = .ok (.aload_n 0, 1) := by decide +kernel
theorem dX9_layGains_101 : decode cX9_layGains 101 = .ok (.getfield 50, 3) := by decide +kernel
theorem dX9_layGains_104 : decode cX9_layGains 104 = .ok (.iload_n 2, 1) := by decide +kernel
theorem dX9_layGains_105 : decode cX9_layGains 105 = .ok (.iaload, 1) := by decide +kernel
theorem dX9_layGains_106 : decode cX9_layGains 106 = .ok (.aload_n 0, 1) := by decide +kernel
theorem dX9_layGains_107 : decode cX9_layGains 107 = .ok (.getfield 28, 3) := by decide +kernel
theorem dX9_layGains_110 : decode cX9_layGains 110 = .ok (.bipush 18, 2) := by decide +kernel
theorem dX9_layGains_112 : decode cX9_layGains 112 = .ok (.iload_n 2, 1) := by decide +kernel
theorem dX9_layGains_113 : decode cX9_layGains 113 = .ok (.iadd, 1) := by decide +kernel
theorem dX9_layGains_114 : decode cX9_layGains 114 = .ok (.iaload, 1) := by decide +kernel
theorem dX9_layGains_115 : decode cX9_layGains 115 = .ok (.iload_n 3, 1) := by decide +kernel
theorem dX9_layGains_116 : decode cX9_layGains 116 = .ok (.iconst 3, 1) := by decide +kernel
theorem dX9_layGains_117 : decode cX9_layGains 117 = .ok (.irem, 1) := by decide +kernel
theorem dX9_layGains_118 : decode cX9_layGains 118 = .ok (.if_icmp .ne 7, 3) := by decide +kernel
theorem dX9_layGains_121 : decode cX9_layGains 121 = .ok (.iconst 0, 1) := by decide +kernel
theorem dX9_layGains_122 : decode cX9_layGains 122 = .ok (.goto 4, 3) := by decide +kernel
theorem dX9_layGains_125 : decode cX9_layGains 125 = .ok (.iconst 1, 1) := by decide +kernel
theorem dX9_layGains_126 : decode cX9_layGains 126 = .ok (.isub, 1) := by decide +kernel
theorem dX9_layGains_127 : decode cX9_layGains 127 = .ok (.iastore, 1) := by decide +kernel
theorem dX9_layGains_128 : decode cX9_layGains 128 = .ok (.return_, 1) := by decide +kernel
theorem dX9_rests_0 : decode cX9_rests 0 = .ok (.aload_n 0, 1) := by decide +kernel
theorem dX9_rests_1 : decode cX9_rests 1 = .ok (.iconst 0, 1) := by decide +kernel
theorem dX9_rests_2 : decode cX9_rests 2 = .ok (.putfield 59, 3) := by decide +kernel
theorem dX9_rests_5 : decode cX9_rests 5 = .ok (.aload_n 0, 1) := by decide +kernel
theorem dX9_rests_6 : decode cX9_rests 6 = .ok (.iload_n 1, 1) := by decide +kernel
theorem dX9_rests_7 : decode cX9_rests 7 = .ok (.invokevirtual 168, 3) := by decide +kernel
theorem dX9_rests_10 : decode cX9_rests 10 = .ok (.ifCond .ne 11, 3) := by decide +kernel
theorem dX9_rests_13 : decode cX9_rests 13 = .ok (.aload_n 0, 1) := by decide +kernel
theorem dX9_rests_14 : decode cX9_rests 14 = .ok (.iload_n 2, 1) := by decide +kernel
theorem dX9_rests_15 : decode cX9_rests 15 = .ok (.invokevirtual 168, 3) := by decide +kernel
theorem dX9_rests_18 : decode cX9_rests 18 = .ok (.ifCond .eq 5, 3) := by decide +kernel
theorem dX9_rests_21 : decode cX9_rests 21 = .ok (.iconst (-1), 1) := by decide +kernel
theorem dX9_rests_22 : decode cX9_rests 22 = .ok (.ireturn, 1) := by decide +kernel
theorem dX9_rests_23 : decode cX9_rests 23 = .ok (.iload_n 1, 1) := by decide +kernel
theorem dX9_rests_24 : decode cX9_rests 24 = .ok (.iload_n 2, 1) := by decide +kernel
theorem dX9_rests_25 : decode cX9_rests 25 = .ok (.if_icmp .eq 13, 3) := by decide +kernel
theorem dX9_rests_28 : decode cX9_rests 28 = .ok (.iload_n 3, 1) := by decide +kernel
theorem dX9_rests_29 : decode cX9_rests 29 = .ok (.i2l, 1) := by decide +kernel
theorem dX9_rests_30 : decode cX9_rests 30 = .ok (.lconst 0, 1) := by decide +kernel
theorem dX9_rests_31 : decode cX9_rests 31 = .ok (.lconst 1, 1) := by decide +kernel
theorem dX9_rests_32 : decode cX9_rests 32 = .ok (.invokestatic 66, 3) := by decide +kernel
theorem dX9_rests_35 : decode cX9_rests 35 = .ok (.ifCond .ne 6, 3) := by decide +kernel
theorem dX9_rests_38 : decode cX9_rests 38 = .ok (.bipush (-2), 2) := by decide +kernel
theorem dX9_rests_40 : decode cX9_rests 40 = .ok (.ireturn, 1) := by decide +kernel
theorem dX9_rests_41 : decode cX9_rests 41 = .ok (.iconst 0, 1) := by decide +kernel
theorem dX9_rests_42 : decode cX9_rests 42 = .ok (.istore 4, 2) := by decide +kernel
theorem dX9_rests_44 : decode cX9_rests 44 = .ok (.iload 4, 2) := by decide +kernel
theorem dX9_rests_46 : decode cX9_rests 46 = .ok (.bipush 9, 2) := by decide +kernel
theorem dX9_rests_48 : decode cX9_rests 48 = .ok (.if_icmp .ge 17, 3) := by decide +kernel
theorem dX9_rests_51 : decode cX9_rests 51 = .ok (.aload_n 0, 1) := by decide +kernel
theorem dX9_rests_52 : decode cX9_rests 52 = .ok (.iload_n 1, 1) := by decide +kernel
theorem dX9_rests_53 : decode cX9_rests 53 = .ok (.iload_n 2, 1) := by decide +kernel
theorem dX9_rests_54 : decode cX9_rests 54 = .ok (.iload 4, 2) := by decide +kernel
theorem dX9_rests_56 : decode cX9_rests 56 = .ok (.invokevirtual 244, 3) := by decide +kernel
theorem dX9_rests_59 : decode cX9_rests 59 = .ok (.iinc 4 1, 3) := by decide +kernel
theorem dX9_rests_62 : decode cX9_rests 62 = .ok (.goto (-18), 3) := by decide +kernel
theorem dX9_rests_65 : decode cX9_rests 65 = .ok (.aload_n 0, 1) := by decide +kernel
theorem dX9_rests_66 : decode cX9_rests 66 = .ok (.iconst 0, 1) := by decide +kernel
theorem dX9_rests_67 : decode cX9_rests 67 = .ok (.putfield 248, 3) := by decide +kernel
theorem dX9_rests_70 : decode cX9_rests 70 = .ok (.aload_n 0, 1) := by decide +kernel
theorem dX9_rests_71 : decode cX9_rests 71 = .ok (.bipush (-9), 2) := by decide +kernel
theorem dX9_rests_73 : decode cX9_rests 73 = .ok (.putfield 251, 3) := by decide +kernel
theorem dX9_rests_76 : decode cX9_rests 76 = .ok (.iconst 0, 1) := by decide +kernel
theorem dX9_rests_77 : decode cX9_rests 77 = .ok (.istore 4, 2) := by decide +kernel
theorem dX9_rests_79 : decode cX9_rests 79 = .ok (.iload 4, 2) := by decide +kernel
theorem dX9_rests_81 : decode cX9_rests 81 = .ok (.bipush 9, 2) := by decide +kernel
theorem dX9_rests_83 : decode cX9_rests 83 = .ok (.if_icmp .ge 154, 3) := by decide +kernel
theorem dX9_rests_86 : decode cX9_rests 86 = .ok (.iconst 1, 1) := by decide +kernel
theorem dX9_rests_87 : decode cX9_rests 87 = .ok (.istore 5, 2) := by decide +kernel
theorem dX9_rests_89 : decode cX9_rests 89 = .ok (.iconst 0, 1) := by decide +kernel
theorem dX9_rests_90 : decode cX9_rests 90 = .ok (.istore 6, 2) := by decide +kernel
theorem dX9_rests_92 : decode cX9_rests 92 = .ok (.iload 6, 2) := by decide +kernel
theorem dX9_rests_94 : decode cX9_rests 94 = .ok (.iconst 3, 1) := by decide +kernel
theorem dX9_rests_95 : decode cX9_rests 95 = .ok (.if_icmp .ge 82, 3) := by decide +kernel
theorem dX9_rests_98 : decode cX9_rests 98 = .ok (.iload 5, 2) := by decide +kernel
theorem dX9_rests_100 : decode cX9_rests 100 = .ok (.ifCond .eq 68, 3) := by decide +kernel
theorem dX9_rests_103 : decode cX9_rests 103 = .ok (.aload_n 0, 1) := by decide +kernel
theorem dX9_rests_104 : decode cX9_rests 104 = .ok (.getfield 53, 3) := by decide +kernel
theorem dX9_rests_107 : decode cX9_rests 107 = .ok (.iconst 2, 1) := by decide +kernel
theorem dX9_rests_108 : decode cX9_rests 108 = .ok (.iconst 3, 1) := by decide +kernel
theorem dX9_rests_109 : decode cX9_rests 109 = .ok (.iload 6, 2) := by decide +kernel
theorem dX9_rests_111 : decode cX9_rests 111 = .ok (.imul, 1) := by decide +kernel
theorem dX9_rests_112 : decode cX9_rests 112 = .ok (.iload 4, 2) := by decide +kernel
theorem dX9_rests_114 : decode cX9_rests 114 = .ok (.iconst 3, 1) := by decide +kernel
theorem dX9_rests_115 : decode cX9_rests 115 = .ok (.irem, 1) := by decide +kernel
theorem dX9_rests_116 : decode cX9_rests 116 = .ok (.iadd, 1) := by decide +kernel
theorem dX9_rests_117 : decode cX9_rests 117 = .ok (.imul, 1) := by decide +kernel
theorem dX9_rests_118 : decode cX9_rests 118 = .ok (.iaload, 1) := by decide +kernel
theorem dX9_rests_119 : decode cX9_rests 119 = .ok (.aload_n 0, 1) := by decide +kernel
theorem dX9_rests_120 : decode cX9_rests 120 = .ok (.getfield 53, 3) := by decide +kernel
theorem dX9_rests_123 : decode cX9_rests 123 = .ok (.iconst 2, 1) := by decide +kernel
theorem dX9_rests_124 : decode cX9_rests 124 = .ok (.iload 4, 2) := by decide +kernel
theorem dX9_rests_126 : decode cX9_rests 126 = .ok (.imul, 1) := by decide +kernel
theorem dX9_rests_127 : decode cX9_rests 127 = .ok (.iaload, 1) := by decide +kernel
theorem dX9_rests_128 : decode cX9_rests 128 = .ok (.if_icmp .gt 40, 3) := by decide +kernel
theorem dX9_rests_131 : decode cX9_rests 131 = .ok (.aload_n 0, 1) := by decide +kernel
theorem dX9_rests_132 : decode cX9_rests 132 = .ok (.getfield 53, 3) := by decide +kernel
theorem dX9_rests_135 : decode cX9_rests 135 = .ok (.iconst 2, 1) := by decide +kernel
theorem dX9_rests_136 : decode cX9_rests 136 = .ok (.iload 4, 2) := by decide +kernel
theorem dX9_rests_138 : decode cX9_rests 138 = .ok (.iload 4, 2) := by decide +kernel
theorem dX9_rests_140 : decode cX9_rests 140 = .ok (.iconst 3, 1) := by decide +kernel
theorem dX9_rests_141 : decode cX9_rests 141 = .ok (.irem, 1) := by decide +kernel
theorem dX9_rests_142 : decode cX9_rests 142 = .ok (.isub, 1) := by decide +kernel
theorem dX9_rests_143 : decode cX9_rests 143 = .ok (.iload 6, 2) := by decide +kernel
theorem dX9_rests_145 : decode cX9_rests 145 = .ok (.iadd, 1) := by decide +kernel
theorem dX9_rests_146 : decode cX9_rests 146 = .ok (.imul, 1) := by decide +kernel
theorem dX9_rests_147 : decode cX9_rests 147 = .ok (.iconst 1, 1) := by decide +kernel
theorem dX9_rests_148 : decode cX9_rests 148 = .ok (.iadd, 1) := by decide +kernel
theorem dX9_rests_149 : decode cX9_rests 149 = .ok (.iaload, 1) := by decide +kernel
theorem dX9_rests_150 : decode cX9_rests 150 = .ok (.aload_n 0, 1) := by decide +kernel
theorem dX9_rests_151 : decode cX9_rests 151 = .ok (.getfield 53, 3) := by decide +kernel
theorem dX9_rests_154 : decode cX9_rests 154 = .ok (.iconst 2, 1) := by decide +kernel
theorem dX9_rests_155 : decode cX9_rests 155 = .ok (.iload 4, 2) := by decide +kernel
theorem dX9_rests_157 : decode cX9_rests 157 = .ok (.imul, 1) := by decide +kernel
theorem dX9_rests_158 : decode cX9_rests 158 = .ok (.iconst 1, 1) := by decide +kernel
theorem dX9_rests_159 : decode cX9_rests 159 = .ok (.iadd, 1) := by decide +kernel
theorem dX9_rests_160 : decode cX9_rests 160 = .ok (.iaload, 1) := by decide +kernel
theorem dX9_rests_161 : decode cX9_rests 161 = .ok (.if_icmp .gt 7, 3) := by decide +kernel
theorem dX9_rests_164 : decode cX9_rests 164 = .ok (.iconst 1, 1) := by decide +kernel
theorem dX9_rests_165 : decode cX9_rests 165 = .ok (.goto 4, 3) := by decide +kernel
theorem dX9_rests_168 : decode cX9_rests 168 = .ok (.iconst 0, 1) := by decide +kernel
theorem dX9_rests_169 : decode cX9_rests 169 = .ok (.istore 5, 2) := by decide +kernel
theorem dX9_rests_171 : decode cX9_rests 171 = .ok (.iinc 6 1, 3) := by decide +kernel
theorem dX9_rests_174 : decode cX9_rests 174 = .ok (.goto (-82), 3) := by decide +kernel
theorem dX9_rests_177 : decode cX9_rests 177 = .ok (.aload_n 0, 1) := by decide +kernel
theorem dX9_rests_178 : decode cX9_rests 178 = .ok (.iload 5, 2) := by decide +kernel
theorem dX9_rests_180 : decode cX9_rests 180 = .ok (.ifCond .eq 25, 3) := by decide +kernel
theorem dX9_rests_183 : decode cX9_rests 183 = .ok (.aload_n 0, 1) := by decide +kernel
theorem dX9_rests_184 : decode cX9_rests 184 = .ok (.getfield 248, 3) := by decide +kernel
theorem dX9_rests_187 : decode cX9_rests 187 = .ok (.ifCond .ne 18, 3) := by decide +kernel
theorem dX9_rests_190 : decode cX9_rests 190 = .ok (.bipush 10, 2) := by decide +kernel
theorem dX9_rests_192 : decode cX9_rests 192 = .ok (.iload 4, 2) := by decide +kernel
theorem dX9_rests_194 : decode cX9_rests 194 = .ok (.iconst 3, 1) := by decide +kernel
theorem dX9_rests_195 : decode cX9_rests 195 = .ok (.idiv, 1) := by decide +kernel
theorem dX9_rests_196 : decode cX9_rests 196 = .ok (.imul, 1) := by decide +kernel
theorem dX9_rests_197 : decode cX9_rests 197 = .ok (.iload 4, 2) := by decide +kernel
theorem dX9_rests_199 : decode cX9_rests 199 = .ok (.iconst 3, 1) := by decide +kernel
theorem dX9_rests_200 : decode cX9_rests 200 = .ok (.irem, 1) := by decide +kernel
theorem dX9_rests_201 : decode cX9_rests 201 = .ok (.iadd, 1) := by decide +kernel
theorem dX9_rests_202 : decode cX9_rests 202 = .ok (.goto 7, 3) := by decide +kernel
theorem dX9_rests_205 : decode cX9_rests 205 = .ok (.aload_n 0, 1) := by decide +kernel
theorem dX9_rests_206 : decode cX9_rests 206 = .ok (.getfield 251, 3) := by decide +kernel
theorem dX9_rests_209 : decode cX9_rests 209 = .ok (.putfield 251, 3) := by decide +kernel
theorem dX9_rests_212 : decode cX9_rests 212 = .ok (.aload_n 0, 1) := by decide +kernel
theorem dX9_rests_213 : decode cX9_rests 213 = .ok (.dup, 1) := by decide +kernel
theorem dX9_rests_214 : decode cX9_rests 214 = .ok (.getfield 248, 3) := by decide +kernel
theorem dX9_rests_217 : decode cX9_rests 217 = .ok (.iload 5, 2) := by decide +kernel
theorem dX9_rests_219 : decode cX9_rests 219 = .ok (.ifCond .eq 7, 3) := by decide +kernel
theorem dX9_rests_222 : decode cX9_rests 222 = .ok (.iconst 1, 1) := by decide +kernel
theorem dX9_rests_223 : decode cX9_rests 223 = .ok (.goto 4, 3) := by decide +kernel
theorem dX9_rests_226 : decode cX9_rests 226 = .ok (.iconst 0, 1) := by decide +kernel
theorem dX9_rests_227 : decode cX9_rests 227 = .ok (.iadd, 1) := by decide +kernel
theorem dX9_rests_228 : decode cX9_rests 228 = .ok (.putfield 248, 3) := by decide +kernel
theorem dX9_rests_231 : decode cX9_rests 231 = .ok (.iinc 4 1, 3) := by decide +kernel
theorem dX9_rests_234 : decode cX9_rests 234 = .ok (.goto (-155), 3) := by decide +kernel
theorem dX9_rests_237 : decode cX9_rests 237 = .ok (.iload_n 3, 1) := by decide +kernel
theorem dX9_rests_238 : decode cX9_rests 238 = .ok (.ifCond .ne 10, 3) := by decide +kernel
theorem dX9_rests_241 : decode cX9_rests 241 = .ok (.aload_n 0, 1) := by decide +kernel
theorem dX9_rests_242 : decode cX9_rests 242 = .ok (.getfield 248, 3) := by decide +kernel
theorem dX9_rests_245 : decode cX9_rests 245 = .ok (.goto 7, 3) := by decide +kernel
theorem dX9_rests_248 : decode cX9_rests 248 = .ok (.aload_n 0, 1) := by decide +kernel
theorem dX9_rests_249 : decode cX9_rests 249 = .ok (.getfield 251, 3) := by decide +kernel
theorem dX9_rests_252 : decode cX9_rests 252 = .ok (.ireturn, 1) := by decide +kernel
theorem dX9_hawks_0 : decode cX9_hawks 0 = .ok (.aload_n 0, 1) := by decide +kernel
theorem dX9_hawks_1 : decode cX9_hawks 1 = .ok (.iconst 0, 1) := by decide +kernel
theorem dX9_hawks_2 : decode cX9_hawks 2 = .ok (.putfield 59, 3) := by decide +kernel
theorem dX9_hawks_5 : decode cX9_hawks 5 = .ok (.iload_n 1, 1) := by decide +kernel
theorem dX9_hawks_6 : decode cX9_hawks 6 = .ok (.i2l, 1) := by decide +kernel
theorem dX9_hawks_7 : decode cX9_hawks 7 = .ok (.lconst 0, 1) := by decide +kernel
theorem dX9_hawks_8 : decode cX9_hawks 8 = .ok (.ldc2_w 254, 3) := by decide +kernel
theorem dX9_hawks_11 : decode cX9_hawks 11 = .ok (.invokestatic 66, 3) := by decide +kernel
theorem dX9_hawks_14 : decode cX9_hawks 14 = .ok (.ifCond .eq 15, 3) := by decide +kernel
theorem dX9_hawks_17 : decode cX9_hawks 17 = .ok (.iload_n 2, 1) := by decide +kernel
theorem dX9_hawks_18 : decode cX9_hawks 18 = .ok (.i2l, 1) := by decide +kernel
theorem dX9_hawks_19 : decode cX9_hawks 19 = .ok (.lconst 0, 1) := by decide +kernel
theorem dX9_hawks_20 : decode cX9_hawks 20 = .ok (.ldc2_w 256, 3) := by decide +kernel
theorem dX9_hawks_23 : decode cX9_hawks 23 = .ok (.invokestatic 66, 3) := by decide +kernel
theorem dX9_hawks_26 : decode cX9_hawks 26 = .ok (.ifCond .ne 6, 3) := by decide +kernel
end
section
theorem dX9_hawks_29 : decode cX9_hawks 29 = .ok (.bipush (-2), 2) := by decide +kernel
theorem dX9_hawks_31 : decode cX9_hawks 31 = .ok (.ireturn, 1) := by decide +kernel
theorem dX9_hawks_32 : decode cX9_hawks 32 = .ok (.aload_n 0, 1) := by decide +kernel
theorem dX9_hawks_33 : decode cX9_hawks 33 = .ok (.aload_n 0, 1) := by decide +kernel
theorem dX9_hawks_34 : decode cX9_hawks 34 = .ok (.getfield 28, 3) := by decide +kernel
theorem dX9_hawks_37 : decode cX9_hawks 37 = .ok (.iconst 2, 1) := by decide +kernel
theorem dX9_hawks_38 : decode cX9_hawks 38 = .ok (.invokevirtual 122, 3) := by decide +kernel
theorem dX9_hawks_41 : decode cX9_hawks 41 = .ok (.invokestatic 128, 3) := by decide +kernel
theorem dX9_hawks_44 : decode cX9_hawks 44 = .ok (.istore 4, 2) := by decide +kernel
theorem dX9_hawks_46 : decode cX9_hawks 46 = .ok (.iconst 0, 1) := by decide +kernel
theorem dX9_hawks_47 : decode cX9_hawks 47 = .ok (.istore 5, 2) := by decide +kernel
theorem dX9_hawks_49 : decode cX9_hawks 49 = .ok (.iconst 0, 1) := by decide +kernel
theorem dX9_hawks_50 : decode cX9_hawks 50 = .ok (.istore 6, 2) := by decide +kernel
theorem dX9_hawks_52 : decode cX9_hawks 52 = .ok (.iload 6, 2) := by decide +kernel
theorem dX9_hawks_54 : decode cX9_hawks 54 = .ok (.iconst 1, 1) := by decide +kernel
theorem dX9_hawks_55 : decode cX9_hawks 55 = .ok (.iload 4, 2) := by decide +kernel
theorem dX9_hawks_57 : decode cX9_hawks 57 = .ok (.ishl, 1) := by decide +kernel
theorem dX9_hawks_58 : decode cX9_hawks 58 = .ok (.if_icmp .ge 53, 3) := by decide +kernel
theorem dX9_hawks_61 : decode cX9_hawks 61 = .ok (.iload 6, 2) := by decide +kernel
theorem dX9_hawks_63 : decode cX9_hawks 63 = .ok (.invokestatic 128, 3) := by decide +kernel
theorem dX9_hawks_66 : decode cX9_hawks 66 = .ok (.istore 7, 2) := by decide +kernel
theorem dX9_hawks_68 : decode cX9_hawks 68 = .ok (.iload 5, 2) := by decide +kernel
theorem dX9_hawks_70 : decode cX9_hawks 70 = .ok (.iload 4, 2) := by decide +kernel
theorem dX9_hawks_72 : decode cX9_hawks 72 = .ok (.iload 7, 2) := by decide +kernel
theorem dX9_hawks_74 : decode cX9_hawks 74 = .ok (.isub, 1) := by decide +kernel
theorem dX9_hawks_75 : decode cX9_hawks 75 = .ok (.iload_n 1, 1) := by decide +kernel
theorem dX9_hawks_76 : decode cX9_hawks 76 = .ok (.if_icmp .lt 25, 3) := by decide +kernel
theorem dX9_hawks_79 : decode cX9_hawks 79 = .ok (.iload_n 2, 1) := by decide +kernel
theorem dX9_hawks_80 : decode cX9_hawks 80 = .ok (.iload 7, 2) := by decide +kernel
theorem dX9_hawks_82 : decode cX9_hawks 82 = .ok (.invokestatic 210, 3) := by decide +kernel
theorem dX9_hawks_85 : decode cX9_hawks 85 = .ok (.bipush 10, 2) := by decide +kernel
theorem dX9_hawks_87 : decode cX9_hawks 87 = .ok (.iload_n 2, 1) := by decide +kernel
theorem dX9_hawks_88 : decode cX9_hawks 88 = .ok (.isub, 1) := by decide +kernel
theorem dX9_hawks_89 : decode cX9_hawks 89 = .ok (.iload 4, 2) := by decide +kernel
theorem dX9_hawks_91 : decode cX9_hawks 91 = .ok (.iload 7, 2) := by decide +kernel
theorem dX9_hawks_93 : decode cX9_hawks 93 = .ok (.isub, 1) := by decide +kernel
theorem dX9_hawks_94 : decode cX9_hawks 94 = .ok (.invokestatic 210, 3) := by decide +kernel
theorem dX9_hawks_97 : decode cX9_hawks 97 = .ok (.imul, 1) := by decide +kernel
theorem dX9_hawks_98 : decode cX9_hawks 98 = .ok (.goto 4, 3) := by decide +kernel
theorem dX9_hawks_101 : decode cX9_hawks 101 = .ok (.iconst 0, 1) := by decide +kernel
theorem dX9_hawks_102 : decode cX9_hawks 102 = .ok (.iadd, 1) := by decide +kernel
theorem dX9_hawks_103 : decode cX9_hawks 103 = .ok (.istore 5, 2) := by decide +kernel
theorem dX9_hawks_105 : decode cX9_hawks 105 = .ok (.iinc 6 1, 3) := by decide +kernel
theorem dX9_hawks_108 : decode cX9_hawks 108 = .ok (.goto (-56), 3) := by decide +kernel
theorem dX9_hawks_111 : decode cX9_hawks 111 = .ok (.iload 5, 2) := by decide +kernel
theorem dX9_hawks_113 : decode cX9_hawks 113 = .ok (.bipush 10, 2) := by decide +kernel
theorem dX9_hawks_115 : decode cX9_hawks 115 = .ok (.iload 4, 2) := by decide +kernel
theorem dX9_hawks_117 : decode cX9_hawks 117 = .ok (.invokestatic 210, 3) := by decide +kernel
theorem dX9_hawks_120 : decode cX9_hawks 120 = .ok (.iload_n 3, 1) := by decide +kernel
theorem dX9_hawks_121 : decode cX9_hawks 121 = .ok (.invokestatic 234, 3) := by decide +kernel
theorem dX9_hawks_124 : decode cX9_hawks 124 = .ok (.ireturn, 1) := by decide +kernel
theorem dX9_seed_0 : decode cX9_seed 0 = .ok (.aload_n 0, 1) := by decide +kernel
theorem dX9_seed_1 : decode cX9_seed 1 = .ok (.iconst 0, 1) := by decide +kernel
theorem dX9_seed_2 : decode cX9_seed 2 = .ok (.putfield 59, 3) := by decide +kernel
theorem dX9_seed_5 : decode cX9_seed 5 = .ok (.aload_n 0, 1) := by decide +kernel
theorem dX9_seed_6 : decode cX9_seed 6 = .ok (.getfield 258, 3) := by decide +kernel
theorem dX9_seed_9 : decode cX9_seed 9 = .ok (.lstore_n 3, 1) := by decide +kernel
theorem dX9_seed_10 : decode cX9_seed 10 = .ok (.aload_n 0, 1) := by decide +kernel
theorem dX9_seed_11 : decode cX9_seed 11 = .ok (.lload_n 1, 1) := by decide +kernel
theorem dX9_seed_12 : decode cX9_seed 12 = .ok (.putfield 258, 3) := by decide +kernel
theorem dX9_seed_15 : decode cX9_seed 15 = .ok (.lload_n 3, 1) := by decide +kernel
theorem dX9_seed_16 : decode cX9_seed 16 = .ok (.lreturn, 1) := by decide +kernel
theorem dX9_years_0 : decode cX9_years 0 = .ok (.aload_n 0, 1) := by decide +kernel
theorem dX9_years_1 : decode cX9_years 1 = .ok (.iconst 0, 1) := by decide +kernel
theorem dX9_years_2 : decode cX9_years 2 = .ok (.putfield 59, 3) := by decide +kernel
theorem dX9_years_5 : decode cX9_years 5 = .ok (.iload_n 1, 1) := by decide +kernel
theorem dX9_years_6 : decode cX9_years 6 = .ok (.i2l, 1) := by decide +kernel
theorem dX9_years_7 : decode cX9_years 7 = .ok (.lconst 1, 1) := by decide +kernel
theorem dX9_years_8 : decode cX9_years 8 = .ok (.ldc2_w 262, 3) := by decide +kernel
theorem dX9_years_11 : decode cX9_years 11 = .ok (.invokestatic 66, 3) := by decide +kernel
theorem dX9_years_14 : decode cX9_years 14 = .ok (.ifCond .ne 6, 3) := by decide +kernel
theorem dX9_years_17 : decode cX9_years 17 = .ok (.bipush (-2), 2) := by decide +kernel
theorem dX9_years_19 : decode cX9_years 19 = .ok (.ireturn, 1) := by decide +kernel
theorem dX9_years_20 : decode cX9_years 20 = .ok (.aload_n 0, 1) := by decide +kernel
theorem dX9_years_21 : decode cX9_years 21 = .ok (.invokevirtual 191, 3) := by decide +kernel
theorem dX9_years_24 : decode cX9_years 24 = .ok (.iconst 0, 1) := by decide +kernel
theorem dX9_years_25 : decode cX9_years 25 = .ok (.istore_n 2, 1) := by decide +kernel
theorem dX9_years_26 : decode cX9_years 26 = .ok (.iconst 0, 1) := by decide +kernel
theorem dX9_years_27 : decode cX9_years 27 = .ok (.istore_n 3, 1) := by decide +kernel
theorem dX9_years_28 : decode cX9_years 28 = .ok (.iload_n 3, 1) := by decide +kernel
theorem dX9_years_29 : decode cX9_years 29 = .ok (.iload_n 1, 1) := by decide +kernel
theorem dX9_years_30 : decode cX9_years 30 = .ok (.if_icmp .ge 105, 3) := by decide +kernel
theorem dX9_years_33 : decode cX9_years 33 = .ok (.aload_n 0, 1) := by decide +kernel
theorem dX9_years_34 : decode cX9_years 34 = .ok (.aload_n 0, 1) := by decide +kernel
theorem dX9_years_35 : decode cX9_years 35 = .ok (.getfield 258, 3) := by decide +kernel
theorem dX9_years_38 : decode cX9_years 38 = .ok (.ldc2_w 264, 3) := by decide +kernel
theorem dX9_years_41 : decode cX9_years 41 = .ok (.lmul, 1) := by decide +kernel
theorem dX9_years_42 : decode cX9_years 42 = .ok (.ldc2_w 266, 3) := by decide +kernel
theorem dX9_years_45 : decode cX9_years 45 = .ok (.ladd, 1) := by decide +kernel
theorem dX9_years_46 : decode cX9_years 46 = .ok (.putfield 258, 3) := by decide +kernel
theorem dX9_years_49 : decode cX9_years 49 = .ok (.aload_n 0, 1) := by decide +kernel
theorem dX9_years_50 : decode cX9_years 50 = .ok (.getfield 258, 3) := by decide +kernel
theorem dX9_years_53 : decode cX9_years 53 = .ok (.bipush 33, 2) := by decide +kernel
theorem dX9_years_55 : decode cX9_years 55 = .ok (.lushr, 1) := by decide +kernel
theorem dX9_years_56 : decode cX9_years 56 = .ok (.ldc2_w 268, 3) := by decide +kernel
theorem dX9_years_59 : decode cX9_years 59 = .ok (.lrem, 1) := by decide +kernel
theorem dX9_years_60 : decode cX9_years 60 = .ok (.l2i, 1) := by decide +kernel
theorem dX9_years_61 : decode cX9_years 61 = .ok (.istore 4, 2) := by decide +kernel
theorem dX9_years_63 : decode cX9_years 63 = .ok (.aload_n 0, 1) := by decide +kernel
theorem dX9_years_64 : decode cX9_years 64 = .ok (.iload 4, 2) := by decide +kernel
theorem dX9_years_66 : decode cX9_years 66 = .ok (.bipush 12, 2) := by decide +kernel
theorem dX9_years_68 : decode cX9_years 68 = .ok (.if_icmp .ge 12, 3) := by decide +kernel
theorem dX9_years_71 : decode cX9_years 71 = .ok (.sipush 1000, 3) := by decide +kernel
theorem dX9_years_74 : decode cX9_years 74 = .ok (.iload 4, 2) := by decide +kernel
theorem dX9_years_76 : decode cX9_years 76 = .ok (.iadd, 1) := by decide +kernel
theorem dX9_years_77 : decode cX9_years 77 = .ok (.goto 33, 3) := by decide +kernel
theorem dX9_years_80 : decode cX9_years 80 = .ok (.iload 4, 2) := by decide +kernel
theorem dX9_years_82 : decode cX9_years 82 = .ok (.bipush 15, 2) := by decide +kernel
theorem dX9_years_84 : decode cX9_years 84 = .ok (.if_icmp .ge 12, 3) := by decide +kernel
theorem dX9_years_87 : decode cX9_years 87 = .ok (.sipush 2988, 3) := by decide +kernel
theorem dX9_years_90 : decode cX9_years 90 = .ok (.iload 4, 2) := by decide +kernel
theorem dX9_years_92 : decode cX9_years 92 = .ok (.iadd, 1) := by decide +kernel
theorem dX9_years_93 : decode cX9_years 93 = .ok (.goto 17, 3) := by decide +kernel
theorem dX9_years_96 : decode cX9_years 96 = .ok (.iload 4, 2) := by decide +kernel
theorem dX9_years_98 : decode cX9_years 98 = .ok (.bipush 16, 2) := by decide +kernel
theorem dX9_years_100 : decode cX9_years 100 = .ok (.if_icmp .ge 9, 3) := by decide +kernel
theorem dX9_years_103 : decode cX9_years 103 = .ok (.sipush 2001, 3) := by decide +kernel
theorem dX9_years_106 : decode cX9_years 106 = .ok (.goto 4, 3) := by decide +kernel
theorem dX9_years_109 : decode cX9_years 109 = .ok (.iconst 0, 1) := by decide +kernel
theorem dX9_years_110 : decode cX9_years 110 = .ok (.invokevirtual 225, 3) := by decide +kernel
theorem dX9_years_113 : decode cX9_years 113 = .ok (.pop, 1) := by decide +kernel
theorem dX9_years_114 : decode cX9_years 114 = .ok (.iload_n 2, 1) := by decide +kernel
theorem dX9_years_115 : decode cX9_years 115 = .ok (.aload_n 0, 1) := by decide +kernel
theorem dX9_years_116 : decode cX9_years 116 = .ok (.aload_n 0, 1) := by decide +kernel
theorem dX9_years_117 : decode cX9_years 117 = .ok (.getfield 31, 3) := by decide +kernel
theorem dX9_years_120 : decode cX9_years 120 = .ok (.iconst 2, 1) := by decide +kernel
theorem dX9_years_121 : decode cX9_years 121 = .ok (.invokevirtual 122, 3) := by decide +kernel
theorem dX9_years_124 : decode cX9_years 124 = .ok (.invokestatic 128, 3) := by decide +kernel
theorem dX9_years_127 : decode cX9_years 127 = .ok (.iadd, 1) := by decide +kernel
theorem dX9_years_128 : decode cX9_years 128 = .ok (.istore_n 2, 1) := by decide +kernel
theorem dX9_years_129 : decode cX9_years 129 = .ok (.iinc 3 1, 3) := by decide +kernel
theorem dX9_years_132 : decode cX9_years 132 = .ok (.goto (-104), 3) := by decide +kernel
theorem dX9_years_135 : decode cX9_years 135 = .ok (.iload_n 2, 1) := by decide +kernel
theorem dX9_years_136 : decode cX9_years 136 = .ok (.ireturn, 1) := by decide +kernel
theorem dX9_keep_0 : decode cX9_keep 0 = .ok (.aload_n 0, 1) := by decide +kernel
theorem dX9_keep_1 : decode cX9_keep 1 = .ok (.iconst 0, 1) := by decide +kernel
theorem dX9_keep_2 : decode cX9_keep 2 = .ok (.putfield 59, 3) := by decide +kernel
theorem dX9_keep_5 : decode cX9_keep 5 = .ok (.iload_n 1, 1) := by decide +kernel
theorem dX9_keep_6 : decode cX9_keep 6 = .ok (.i2l, 1) := by decide +kernel
theorem dX9_keep_7 : decode cX9_keep 7 = .ok (.lconst 0, 1) := by decide +kernel
theorem dX9_keep_8 : decode cX9_keep 8 = .ok (.lconst 1, 1) := by decide +kernel
theorem dX9_keep_9 : decode cX9_keep 9 = .ok (.invokestatic 66, 3) := by decide +kernel
theorem dX9_keep_12 : decode cX9_keep 12 = .ok (.ifCond .ne 5, 3) := by decide +kernel
theorem dX9_keep_15 : decode cX9_keep 15 = .ok (.iconst (-1), 1) := by decide +kernel
theorem dX9_keep_16 : decode cX9_keep 16 = .ok (.ireturn, 1) := by decide +kernel
theorem dX9_keep_17 : decode cX9_keep 17 = .ok (.aload_n 0, 1) := by decide +kernel
theorem dX9_keep_18 : decode cX9_keep 18 = .ok (.getfield 40, 3) := by decide +kernel
theorem dX9_keep_21 : decode cX9_keep 21 = .ok (.iload_n 1, 1) := by decide +kernel
theorem dX9_keep_22 : decode cX9_keep 22 = .ok (.iconst 1, 1) := by decide +kernel
theorem dX9_keep_23 : decode cX9_keep 23 = .ok (.bastore, 1) := by decide +kernel
theorem dX9_keep_24 : decode cX9_keep 24 = .ok (.iconst 0, 1) := by decide +kernel
theorem dX9_keep_25 : decode cX9_keep 25 = .ok (.istore_n 2, 1) := by decide +kernel
theorem dX9_keep_26 : decode cX9_keep 26 = .ok (.iload_n 2, 1) := by decide +kernel
theorem dX9_keep_27 : decode cX9_keep 27 = .ok (.bipush 23, 2) := by decide +kernel
theorem dX9_keep_29 : decode cX9_keep 29 = .ok (.if_icmp .ge 26, 3) := by decide +kernel
theorem dX9_keep_32 : decode cX9_keep 32 = .ok (.aload_n 0, 1) := by decide +kernel
theorem dX9_keep_33 : decode cX9_keep 33 = .ok (.getfield 37, 3) := by decide +kernel
theorem dX9_keep_36 : decode cX9_keep 36 = .ok (.bipush 23, 2) := by decide +kernel
theorem dX9_keep_38 : decode cX9_keep 38 = .ok (.iload_n 1, 1) := by decide +kernel
theorem dX9_keep_39 : decode cX9_keep 39 = .ok (.imul, 1) := by decide +kernel
theorem dX9_keep_40 : decode cX9_keep 40 = .ok (.iload_n 2, 1) := by decide +kernel
theorem dX9_keep_41 : decode cX9_keep 41 = .ok (.iadd, 1) := by decide +kernel
theorem dX9_keep_42 : decode cX9_keep 42 = .ok (.aload_n 0, 1) := by decide +kernel
theorem dX9_keep_43 : decode cX9_keep 43 = .ok (.getfield 28, 3) := by decide +kernel
theorem dX9_keep_46 : decode cX9_keep 46 = .ok (.iload_n 2, 1) := by decide +kernel
theorem dX9_keep_47 : decode cX9_keep 47 = .ok (.iaload, 1) := by decide +kernel
theorem dX9_keep_48 : decode cX9_keep 48 = .ok (.iastore, 1) := by decide +kernel
theorem dX9_keep_49 : decode cX9_keep 49 = .ok (.iinc 2 1, 3) := by decide +kernel
theorem dX9_keep_52 : decode cX9_keep 52 = .ok (.goto (-26), 3) := by decide +kernel
theorem dX9_keep_55 : decode cX9_keep 55 = .ok (.aload_n 0, 1) := by decide +kernel
theorem dX9_keep_56 : decode cX9_keep 56 = .ok (.getfield 28, 3) := by decide +kernel
theorem dX9_keep_59 : decode cX9_keep 59 = .ok (.bipush 22, 2) := by decide +kernel
theorem dX9_keep_61 : decode cX9_keep 61 = .ok (.iaload, 1) := by decide +kernel
theorem dX9_keep_62 : decode cX9_keep 62 = .ok (.ireturn, 1) := by decide +kernel
theorem dX9_again_0 : decode cX9_again 0 = .ok (.aload_n 0, 1) := by decide +kernel
theorem dX9_again_1 : decode cX9_again 1 = .ok (.iconst 0, 1) := by decide +kernel
theorem dX9_again_2 : decode cX9_again 2 = .ok (.putfield 59, 3) := by decide +kernel
theorem dX9_again_5 : decode cX9_again 5 = .ok (.iload_n 1, 1) := by decide +kernel
theorem dX9_again_6 : decode cX9_again 6 = .ok (.i2l, 1) := by decide +kernel
theorem dX9_again_7 : decode cX9_again 7 = .ok (.lconst 0, 1) := by decide +kernel
theorem dX9_again_8 : decode cX9_again 8 = .ok (.lconst 1, 1) := by decide +kernel
theorem dX9_again_9 : decode cX9_again 9 = .ok (.invokestatic 66, 3) := by decide +kernel
theorem dX9_again_12 : decode cX9_again 12 = .ok (.ifCond .ne 5, 3) := by decide +kernel
theorem dX9_again_15 : decode cX9_again 15 = .ok (.iconst (-1), 1) := by decide +kernel
theorem dX9_again_16 : decode cX9_again 16 = .ok (.ireturn, 1) := by decide +kernel
theorem dX9_again_17 : decode cX9_again 17 = .ok (.aload_n 0, 1) := by decide +kernel
theorem dX9_again_18 : decode cX9_again 18 = .ok (.getfield 40, 3) := by decide +kernel
theorem dX9_again_21 : decode cX9_again 21 = .ok (.iload_n 1, 1) := by decide +kernel
theorem dX9_again_22 : decode cX9_again 22 = .ok (.baload, 1) := by decide +kernel
theorem dX9_again_23 : decode cX9_again 23 = .ok (.ifCond .ne 6, 3) := by decide +kernel
theorem dX9_again_26 : decode cX9_again 26 = .ok (.bipush (-3), 2) := by decide +kernel
theorem dX9_again_28 : decode cX9_again 28 = .ok (.ireturn, 1) := by decide +kernel
theorem dX9_again_29 : decode cX9_again 29 = .ok (.iconst 0, 1) := by decide +kernel
theorem dX9_again_30 : decode cX9_again 30 = .ok (.istore_n 2, 1) := by decide +kernel
theorem dX9_again_31 : decode cX9_again 31 = .ok (.iload_n 2, 1) := by decide +kernel
theorem dX9_again_32 : decode cX9_again 32 = .ok (.bipush 23, 2) := by decide +kernel
theorem dX9_again_34 : decode cX9_again 34 = .ok (.if_icmp .ge 26, 3) := by decide +kernel
theorem dX9_again_37 : decode cX9_again 37 = .ok (.aload_n 0, 1) := by decide +kernel
theorem dX9_again_38 : decode cX9_again 38 = .ok (.getfield 28, 3) := by decide +kernel
theorem dX9_again_41 : decode cX9_again 41 = .ok (.iload_n 2, 1) := by decide +kernel
theorem dX9_again_42 : decode cX9_again 42 = .ok (.aload_n 0, 1) := by decide +kernel
theorem dX9_again_43 : decode cX9_again 43 = .ok (.getfield 37, 3) := by decide +kernel
theorem dX9_again_46 : decode cX9_again 46 = .ok (.bipush 23, 2) := by decide +kernel
theorem dX9_again_48 : decode cX9_again 48 = .ok (.iload_n 1, 1) := by decide +kernel
theorem dX9_again_49 : decode cX9_again 49 = .ok (.imul, 1) := by decide +kernel
theorem dX9_again_50 : decode cX9_again 50 = .ok (.iload_n 2, 1) := by decide +kernel
theorem dX9_again_51 : decode cX9_again 51 = .ok (.iadd, 1) := by decide +kernel
theorem dX9_again_52 : decode cX9_again 52 = .ok (.iaload, 1) := by decide +kernel
theorem dX9_again_53 : decode cX9_again 53 = .ok (.iastore, 1) := by decide +kernel
theorem dX9_again_54 : decode cX9_again 54 = .ok (.iinc 2 1, 3) := by decide +kernel
theorem dX9_again_57 : decode cX9_again 57 = .ok (.goto (-26), 3) := by decide +kernel
theorem dX9_again_60 : decode cX9_again 60 = .ok (.aload_n 0, 1) := by decide +kernel
theorem dX9_again_61 : decode cX9_again 61 = .ok (.iconst 0, 1) := by decide +kernel
theorem dX9_again_62 : decode cX9_again 62 = .ok (.putfield 112, 3) := by decide +kernel
theorem dX9_again_65 : decode cX9_again 65 = .ok (.aload_n 0, 1) := by decide +kernel
theorem dX9_again_66 : decode cX9_again 66 = .ok (.getfield 28, 3) := by decide +kernel
theorem dX9_again_69 : decode cX9_again 69 = .ok (.bipush 22, 2) := by decide +kernel
theorem dX9_again_71 : decode cX9_again 71 = .ok (.iaload, 1) := by decide +kernel
theorem dX9_again_72 : decode cX9_again 72 = .ok (.ireturn, 1) := by decide +kernel
theorem dJ6_bitCount_0f7a4_0 : decode cJ6_bitCount_0f7a4 0 = .ok (.iload_n 0, 1) := by decide +kernel
theorem dJ6_bitCount_0f7a4_1 : decode cJ6_bitCount_0f7a4 1 = .ok (.iload_n 0, 1) := by decide +kernel
theorem dJ6_bitCount_0f7a4_2 : decode cJ6_bitCount_0f7a4 2 = .ok (.iconst 1, 1) := by decide +kernel
theorem dJ6_bitCount_0f7a4_3 : decode cJ6_bitCount_0f7a4 3 = .ok (.iushr, 1) := by decide +kernel
theorem dJ6_bitCount_0f7a4_4 : decode cJ6_bitCount_0f7a4 4 = .ok (.ldc_w 265, 3) := by decide +kernel
theorem dJ6_bitCount_0f7a4_7 : decode cJ6_bitCount_0f7a4 7 = .ok (.iand, 1) := by decide +kernel
theorem dJ6_bitCount_0f7a4_8 : decode cJ6_bitCount_0f7a4 8 = .ok (.isub, 1) := by decide +kernel
theorem dJ6_bitCount_0f7a4_9 : decode cJ6_bitCount_0f7a4 9 = .ok (.istore_n 0, 1) := by decide +kernel
theorem dJ6_bitCount_0f7a4_10 : decode cJ6_bitCount_0f7a4 10 = .ok (.iload_n 0, 1) := by decide +kernel
theorem dJ6_bitCount_0f7a4_11 : decode cJ6_bitCount_0f7a4 11 = .ok (.ldc_w 266, 3) := by decide +kernel
theorem dJ6_bitCount_0f7a4_14 : decode cJ6_bitCount_0f7a4 14 = .ok (.iand, 1) := by decide +kernel
theorem dJ6_bitCount_0f7a4_15 : decode cJ6_bitCount_0f7a4 15 = .ok (.iload_n 0, 1) := by decide +kernel
theorem dJ6_bitCount_0f7a4_16 : decode cJ6_bitCount_0f7a4 16 = .ok (.iconst 2, 1) := by decide +kernel
theorem dJ6_bitCount_0f7a4_17 : decode cJ6_bitCount_0f7a4 17 = .ok (.iushr, 1) := by decide +kernel
theorem dJ6_bitCount_0f7a4_18 : decode cJ6_bitCount_0f7a4 18 = .ok (.ldc_w 266, 3) := by decide +kernel
theorem dJ6_bitCount_0f7a4_21 : decode cJ6_bitCount_0f7a4 21 = .ok (.iand, 1) := by decide +kernel
theorem dJ6_bitCount_0f7a4_22 : decode cJ6_bitCount_0f7a4 22 = .ok (.iadd, 1) := by decide +kernel
theorem dJ6_bitCount_0f7a4_23 : decode cJ6_bitCount_0f7a4 23 = .ok (.istore_n 0, 1) := by decide +kernel
theorem dJ6_bitCount_0f7a4_24 : decode cJ6_bitCount_0f7a4 24 = .ok (.iload_n 0, 1) := by decide +kernel
theorem dJ6_bitCount_0f7a4_25 : decode cJ6_bitCount_0f7a4 25 = .ok (.iload_n 0, 1) := by decide +kernel
theorem dJ6_bitCount_0f7a4_26 : decode cJ6_bitCount_0f7a4 26 = .ok (.iconst 4, 1) := by decide +kernel
theorem dJ6_bitCount_0f7a4_27 : decode cJ6_bitCount_0f7a4 27 = .ok (.iushr, 1) := by decide +kernel
theorem dJ6_bitCount_0f7a4_28 : decode cJ6_bitCount_0f7a4 28 = .ok (.iadd, 1) := by decide +kernel
theorem dJ6_bitCount_0f7a4_29 : decode cJ6_bitCount_0f7a4 29 = .ok (.ldc_w 267, 3) := by decide +kernel
theorem dJ6_bitCount_0f7a4_32 : decode cJ6_bitCount_0f7a4 32 = .ok (.iand, 1) := by decide +kernel
theorem dJ6_bitCount_0f7a4_33 : decode cJ6_bitCount_0f7a4 33 = .ok (.istore_n 0, 1) := by decide +kernel
theorem dJ6_bitCount_0f7a4_34 : decode cJ6_bitCount_0f7a4 34 = .ok (.iload_n 0, 1) := by decide +kernel
theorem dJ6_bitCount_0f7a4_35 : decode cJ6_bitCount_0f7a4 35 = .ok (.iload_n 0, 1) := by decide +kernel
theorem dJ6_bitCount_0f7a4_36 : decode cJ6_bitCount_0f7a4 36 = .ok (.bipush 8, 2) := by decide +kernel
theorem dJ6_bitCount_0f7a4_38 : decode cJ6_bitCount_0f7a4 38 = .ok (.iushr, 1) := by decide +kernel
theorem dJ6_bitCount_0f7a4_39 : decode cJ6_bitCount_0f7a4 39 = .ok (.iadd, 1) := by decide +kernel
theorem dJ6_bitCount_0f7a4_40 : decode cJ6_bitCount_0f7a4 40 = .ok (.istore_n 0, 1) := by decide +kernel
theorem dJ6_bitCount_0f7a4_41 : decode cJ6_bitCount_0f7a4 41 = .ok (.iload_n 0, 1) := by decide +kernel
theorem dJ6_bitCount_0f7a4_42 : decode cJ6_bitCount_0f7a4 42 = .ok (.iload_n 0, 1) := by decide +kernel
theorem dJ6_bitCount_0f7a4_43 : decode cJ6_bitCount_0f7a4 43 = .ok (.bipush 16, 2) := by decide +kernel
theorem dJ6_bitCount_0f7a4_45 : decode cJ6_bitCount_0f7a4 45 = .ok (.iushr, 1) := by decide +kernel
theorem dJ6_bitCount_0f7a4_46 : decode cJ6_bitCount_0f7a4 46 = .ok (.iadd, 1) := by decide +kernel
theorem dJ6_bitCount_0f7a4_47 : decode cJ6_bitCount_0f7a4 47 = .ok (.istore_n 0, 1) := by decide +kernel
theorem dJ6_bitCount_0f7a4_48 : decode cJ6_bitCount_0f7a4 48 = .ok (.iload_n 0, 1) := by decide +kernel
theorem dJ6_bitCount_0f7a4_49 : decode cJ6_bitCount_0f7a4 49 = .ok (.bipush 63, 2) := by decide +kernel
theorem dJ6_bitCount_0f7a4_51 : decode cJ6_bitCount_0f7a4 51 = .ok (.iand, 1) := by decide +kernel
theorem dJ6_bitCount_0f7a4_52 : decode cJ6_bitCount_0f7a4 52 = .ok (.ireturn, 1) := by decide +kernel
theorem dJ9_abs_0f7a4_0 : decode cJ9_abs_0f7a4 0 = .ok (.iload_n 0, 1) := by decide +kernel
theorem dJ9_abs_0f7a4_1 : decode cJ9_abs_0f7a4 1 = .ok (.ifCond .ge 8, 3) := by decide +kernel
theorem dJ9_abs_0f7a4_4 : decode cJ9_abs_0f7a4 4 = .ok (.iload_n 0, 1) := by decide +kernel
theorem dJ9_abs_0f7a4_5 : decode cJ9_abs_0f7a4 5 = .ok (.ineg, 1) := by decide +kernel
theorem dJ9_abs_0f7a4_6 : decode cJ9_abs_0f7a4 6 = .ok (.goto 4, 3) := by decide +kernel
theorem dJ9_abs_0f7a4_9 : decode cJ9_abs_0f7a4 9 = .ok (.iload_n 0, 1) := by decide +kernel
theorem dJ9_abs_0f7a4_10 : decode cJ9_abs_0f7a4 10 = .ok (.ireturn, 1) := by decide +kernel
theorem dJ9_max_7cf53_0 : decode cJ9_max_7cf53 0 = .ok (.iload_n 0, 1) := by decide +kernel
theorem dJ9_max_7cf53_1 : decode cJ9_max_7cf53 1 = .ok (.iload_n 1, 1) := by decide +kernel
theorem dJ9_max_7cf53_2 : decode cJ9_max_7cf53 2 = .ok (.if_icmp .lt 7, 3) := by decide +kernel
theorem dJ9_max_7cf53_5 : decode cJ9_max_7cf53 5 = .ok (.iload_n 0, 1) := by decide +kernel
theorem dJ9_max_7cf53_6 : decode cJ9_max_7cf53 6 = .ok (.goto 4, 3) := by decide +kernel
theorem dJ9_max_7cf53_9 : decode cJ9_max_7cf53 9 = .ok (.iload_n 1, 1) := by decide +kernel
theorem dJ9_max_7cf53_10 : decode cJ9_max_7cf53 10 = .ok (.ireturn, 1) := by decide +kernel
theorem dJ9_min_7cf53_0 : decode cJ9_min_7cf53 0 = .ok (.iload_n 0, 1) := by decide +kernel
theorem dJ9_min_7cf53_1 : decode cJ9_min_7cf53 1 = .ok (.iload_n 1, 1) := by decide +kernel
theorem dJ9_min_7cf53_2 : decode cJ9_min_7cf53 2 = .ok (.if_icmp .gt 7, 3) := by decide +kernel
theorem dJ9_min_7cf53_5 : decode cJ9_min_7cf53 5 = .ok (.iload_n 0, 1) := by decide +kernel
theorem dJ9_min_7cf53_6 : decode cJ9_min_7cf53 6 = .ok (.goto 4, 3) := by decide +kernel
theorem dJ9_min_7cf53_9 : decode cJ9_min_7cf53 9 = .ok (.iload_n 1, 1) := by decide +kernel
theorem dJ9_min_7cf53_10 : decode cJ9_min_7cf53 10 = .ok (.ireturn, 1) := by decide +kernel
theorem dL_law_0 : decode cL_law 0 = .ok (.new 7, 3) := by decide +kernel
theorem dL_law_3 : decode cL_law 3 = .ok (.dup, 1) := by decide +kernel
theorem dL_law_4 : decode cL_law 4 = .ok (.invokespecial 9, 3) := by decide +kernel
theorem dL_law_7 : decode cL_law 7 = .ok (.astore_n 1, 1) := by decide +kernel
theorem dL_law_8 : decode cL_law 8 = .ok (.new 10, 3) := by decide +kernel
theorem dL_law_11 : decode cL_law 11 = .ok (.dup, 1) := by decide +kernel
theorem dL_law_12 : decode cL_law 12 = .ok (.invokespecial 12, 3) := by decide +kernel
theorem dL_law_15 : decode cL_law 15 = .ok (.astore_n 2, 1) := by decide +kernel
theorem dL_law_16 : decode cL_law 16 = .ok (.iconst 0, 1) := by decide +kernel
theorem dL_law_17 : decode cL_law 17 = .ok (.istore_n 3, 1) := by decide +kernel
theorem dL_law_18 : decode cL_law 18 = .ok (.iload_n 3, 1) := by decide +kernel
theorem dL_law_19 : decode cL_law 19 = .ok (.aload_n 0, 1) := by decide +kernel
theorem dL_law_20 : decode cL_law 20 = .ok (.arraylength, 1) := by decide +kernel
theorem dL_law_21 : decode cL_law 21 = .ok (.iconst 4, 1) := by decide +kernel
theorem dL_law_22 : decode cL_law 22 = .ok (.isub, 1) := by decide +kernel
theorem dL_law_23 : decode cL_law 23 = .ok (.if_icmp .gt 973, 3) := by decide +kernel
theorem dL_law_26 : decode cL_law 26 = .ok (.aload_n 0, 1) := by decide +kernel
theorem dL_law_27 : decode cL_law 27 = .ok (.iload_n 3, 1) := by decide +kernel
theorem dL_law_28 : decode cL_law 28 = .ok (.iaload, 1) := by decide +kernel
theorem dL_law_29 : decode cL_law 29 = .ok (.bipush 31, 2) := by decide +kernel
theorem dL_law_31 : decode cL_law 31 = .ok (.iand, 1) := by decide +kernel
theorem dL_law_32 : decode cL_law 32 = .ok (.tableswitch 958 0 28 #[132, 155, 168, 181, 194, 217, 250, 283, 306, 319, 352, 375, 408, 421, 454, 477, 516, 539, 552, 615, 664, 697, 710, 733, 776, 835, 889, 912, 935], 132) := by decide +kernel
theorem dL_law_164 : decode cL_law 164 = .ok (.aload_n 1, 1) := by decide +kernel
theorem dL_law_165 : decode cL_law 165 = .ok (.aload_n 0, 1) := by decide +kernel
theorem dL_law_166 : decode cL_law 166 = .ok (.iload_n 3, 1) := by decide +kernel
theorem dL_law_167 : decode cL_law 167 = .ok (.iconst 1, 1) := by decide +kernel
theorem dL_law_168 : decode cL_law 168 = .ok (.iadd, 1) := by decide +kernel
theorem dL_law_169 : decode cL_law 169 = .ok (.iaload, 1) := by decide +kernel
theorem dL_law_170 : decode cL_law 170 = .ok (.invokevirtual 13, 3) := by decide +kernel
theorem dL_law_173 : decode cL_law 173 = .ok (.aload_n 2, 1) := by decide +kernel
theorem dL_law_174 : decode cL_law 174 = .ok (.aload_n 0, 1) := by decide +kernel
theorem dL_law_175 : decode cL_law 175 = .ok (.iload_n 3, 1) := by decide +kernel
theorem dL_law_176 : decode cL_law 176 = .ok (.iconst 1, 1) := by decide +kernel
theorem dL_law_177 : decode cL_law 177 = .ok (.iadd, 1) := by decide +kernel
theorem dL_law_178 : decode cL_law 178 = .ok (.iaload, 1) := by decide +kernel
theorem dL_law_179 : decode cL_law 179 = .ok (.invokevirtual 17, 3) := by decide +kernel
theorem dL_law_182 : decode cL_law 182 = .ok (.if_icmp .eq 808, 3) := by decide +kernel
theorem dL_law_185 : decode cL_law 185 = .ok (.iconst 0, 1) := by decide +kernel
theorem dL_law_186 : decode cL_law 186 = .ok (.ireturn, 1) := by decide +kernel
theorem dL_law_187 : decode cL_law 187 = .ok (.aload_n 1, 1) := by decide +kernel
theorem dL_law_188 : decode cL_law 188 = .ok (.invokevirtual 18, 3) := by decide +kernel
theorem dL_law_191 : decode cL_law 191 = .ok (.aload_n 2, 1) := by decide +kernel
theorem dL_law_192 : decode cL_law 192 = .ok (.invokevirtual 22, 3) := by decide +kernel
theorem dL_law_195 : decode cL_law 195 = .ok (.if_icmp .eq 795, 3) := by decide +kernel
theorem dL_law_198 : decode cL_law 198 = .ok (.iconst 0, 1) := by decide +kernel
theorem dL_law_199 : decode cL_law 199 = .ok (.ireturn, 1) := by decide +kernel
theorem dL_law_200 : decode cL_law 200 = .ok (.aload_n 1, 1) := by decide +kernel
theorem dL_law_201 : decode cL_law 201 = .ok (.invokevirtual 23, 3) := by decide +kernel
theorem dL_law_204 : decode cL_law 204 = .ok (.aload_n 2, 1) := by decide +kernel
theorem dL_law_205 : decode cL_law 205 = .ok (.invokevirtual 26, 3) := by decide +kernel
theorem dL_law_208 : decode cL_law 208 = .ok (.if_icmp .eq 782, 3) := by decide +kernel
theorem dL_law_211 : decode cL_law 211 = .ok (.iconst 0, 1) := by decide +kernel
theorem dL_law_212 : decode cL_law 212 = .ok (.ireturn, 1) := by decide +kernel
theorem dL_law_213 : decode cL_law 213 = .ok (.aload_n 1, 1) := by decide +kernel
theorem dL_law_214 : decode cL_law 214 = .ok (.invokevirtual 27, 3) := by decide +kernel
theorem dL_law_217 : decode cL_law 217 = .ok (.aload_n 2, 1) := by decide +kernel
theorem dL_law_218 : decode cL_law 218 = .ok (.invokevirtual 30, 3) := by decide +kernel
theorem dL_law_221 : decode cL_law 221 = .ok (.if_icmp .eq 769, 3) := by decide +kernel
theorem dL_law_224 : decode cL_law 224 = .ok (.iconst 0, 1) := by decide +kernel
theorem dL_law_225 : decode cL_law 225 = .ok (.ireturn, 1) := by decide +kernel
theorem dL_law_226 : decode cL_law 226 = .ok (.aload_n 1, 1) := by decide +kernel
theorem dL_law_227 : decode cL_law 227 = .ok (.aload_n 0, 1) := by decide +kernel
theorem dL_law_228 : decode cL_law 228 = .ok (.iload_n 3, 1) := by decide +kernel
theorem dL_law_229 : decode cL_law 229 = .ok (.iconst 1, 1) := by decide +kernel
theorem dL_law_230 : decode cL_law 230 = .ok (.iadd, 1) := by decide +kernel
theorem dL_law_231 : decode cL_law 231 = .ok (.iaload, 1) := by decide +kernel
theorem dL_law_232 : decode cL_law 232 = .ok (.invokevirtual 31, 3) := by decide +kernel
theorem dL_law_235 : decode cL_law 235 = .ok (.aload_n 2, 1) := by decide +kernel
theorem dL_law_236 : decode cL_law 236 = .ok (.aload_n 0, 1) := by decide +kernel
theorem dL_law_237 : decode cL_law 237 = .ok (.iload_n 3, 1) := by decide +kernel
theorem dL_law_238 : decode cL_law 238 = .ok (.iconst 1, 1) := by decide +kernel
theorem dL_law_239 : decode cL_law 239 = .ok (.iadd, 1) := by decide +kernel
theorem dL_law_240 : decode cL_law 240 = .ok (.iaload, 1) := by decide +kernel
theorem dL_law_241 : decode cL_law 241 = .ok (.invokevirtual 34, 3) := by decide +kernel
theorem dL_law_244 : decode cL_law 244 = .ok (.if_icmp .eq 746, 3) := by decide +kernel
theorem dL_law_247 : decode cL_law 247 = .ok (.iconst 0, 1) := by decide +kernel
theorem dL_law_248 : decode cL_law 248 = .ok (.ireturn, 1) := by decide +kernel
theorem dL_law_249 : decode cL_law 249 = .ok (.aload_n 1, 1) := by decide +kernel
theorem dL_law_250 : decode cL_law 250 = .ok (.aload_n 0, 1) := by decide +kernel
theorem dL_law_251 : decode cL_law 251 = .ok (.iload_n 3, 1) := by decide +kernel
theorem dL_law_252 : decode cL_law 252 = .ok (.iconst 1, 1) := by decide +kernel
theorem dL_law_253 : decode cL_law 253 = .ok (.iadd, 1) := by decide +kernel
theorem dL_law_254 : decode cL_law 254 = .ok (.iaload, 1) := by decide +kernel
theorem dL_law_255 : decode cL_law 255 = .ok (.aload_n 0, 1) := by decide +kernel
theorem dL_law_256 : decode cL_law 256 = .ok (.iload_n 3, 1) := by decide +kernel
theorem dL_law_257 : decode cL_law 257 = .ok (.iconst 2, 1) := by decide +kernel
theorem dL_law_258 : decode cL_law 258 = .ok (.iadd, 1) := by decide +kernel
theorem dL_law_259 : decode cL_law 259 = .ok (.iaload, 1) := by decide +kernel
theorem dL_law_260 : decode cL_law 260 = .ok (.invokevirtual 35, 3) := by decide +kernel
theorem dL_law_263 : decode cL_law 263 = .ok (.aload_n 2, 1) := by decide +kernel
theorem dL_law_264 : decode cL_law 264 = .ok (.aload_n 0, 1) := by decide +kernel
theorem dL_law_265 : decode cL_law 265 = .ok (.iload_n 3, 1) := by decide +kernel
theorem dL_law_266 : decode cL_law 266 = .ok (.iconst 1, 1) := by decide +kernel
theorem dL_law_267 : decode cL_law 267 = .ok (.iadd, 1) := by decide +kernel
theorem dL_law_268 : decode cL_law 268 = .ok (.iaload, 1) := by decide +kernel
theorem dL_law_269 : decode cL_law 269 = .ok (.aload_n 0, 1) := by decide +kernel
theorem dL_law_270 : decode cL_law 270 = .ok (.iload_n 3, 1) := by decide +kernel
theorem dL_law_271 : decode cL_law 271 = .ok (.iconst 2, 1) := by decide +kernel
theorem dL_law_272 : decode cL_law 272 = .ok (.iadd, 1) := by decide +kernel
theorem dL_law_273 : decode cL_law 273 = .ok (.iaload, 1) := by decide +kernel
theorem dL_law_274 : decode cL_law 274 = .ok (.invokevirtual 39, 3) := by decide +kernel
theorem dL_law_277 : decode cL_law 277 = .ok (.if_icmp .eq 713, 3) := by decide +kernel
theorem dL_law_280 : decode cL_law 280 = .ok (.iconst 0, 1) := by decide +kernel
theorem dL_law_281 : decode cL_law 281 = .ok (.ireturn, 1) := by decide +kernel
theorem dL_law_282 : decode cL_law 282 = .ok (.aload_n 1, 1) := by decide +kernel
theorem dL_law_283 : decode cL_law 283 = .ok (.aload_n 0, 1) := by decide +kernel
theorem dL_law_284 : decode cL_law 284 = .ok (.iload_n 3, 1) := by decide +kernel
theorem dL_law_285 : decode cL_law 285 = .ok (.iconst 1, 1) := by decide +kernel
theorem dL_law_286 : decode cL_law 286 = .ok (.iadd, 1) := by decide +kernel
theorem dL_law_287 : decode cL_law 287 = .ok (.iaload, 1) := by decide +kernel
theorem dL_law_288 : decode cL_law 288 = .ok (.aload_n 0, 1) := by decide +kernel
theorem dL_law_289 : decode cL_law 289 = .ok (.iload_n 3, 1) := by decide +kernel
theorem dL_law_290 : decode cL_law 290 = .ok (.iconst 2, 1) := by decide +kernel
theorem dL_law_291 : decode cL_law 291 = .ok (.iadd, 1) := by decide +kernel
theorem dL_law_292 : decode cL_law 292 = .ok (.iaload, 1) := by decide +kernel
theorem dL_law_293 : decode cL_law 293 = .ok (.invokevirtual 40, 3) := by decide +kernel
theorem dL_law_296 : decode cL_law 296 = .ok (.aload_n 2, 1) := by decide +kernel
theorem dL_law_297 : decode cL_law 297 = .ok (.aload_n 0, 1) := by decide +kernel
theorem dL_law_298 : decode cL_law 298 = .ok (.iload_n 3, 1) := by decide +kernel
theorem dL_law_299 : decode cL_law 299 = .ok (.iconst 1, 1) := by decide +kernel
theorem dL_law_300 : decode cL_law 300 = .ok (.iadd, 1) := by decide +kernel
theorem dL_law_301 : decode cL_law 301 = .ok (.iaload, 1) := by decide +kernel
theorem dL_law_302 : decode cL_law 302 = .ok (.aload_n 0, 1) := by decide +kernel
theorem dL_law_303 : decode cL_law 303 = .ok (.iload_n 3, 1) := by decide +kernel
theorem dL_law_304 : decode cL_law 304 = .ok (.iconst 2, 1) := by decide +kernel
theorem dL_law_305 : decode cL_law 305 = .ok (.iadd, 1) := by decide +kernel
theorem dL_law_306 : decode cL_law 306 = .ok (.iaload, 1) := by decide +kernel
theorem dL_law_307 : decode cL_law 307 = .ok (.invokevirtual 43, 3) := by decide +kernel
theorem dL_law_310 : decode cL_law 310 = .ok (.if_icmp .eq 680, 3) := by decide +kernel
theorem dL_law_313 : decode cL_law 313 = .ok (.iconst 0, 1) := by decide +kernel
theorem dL_law_314 : decode cL_law 314 = .ok (.ireturn, 1) := by decide +kernel
theorem dL_law_315 : decode cL_law 315 = .ok (.aload_n 1, 1) := by decide +kernel
theorem dL_law_316 : decode cL_law 316 = .ok (.aload_n 0, 1) := by decide +kernel
theorem dL_law_317 : decode cL_law 317 = .ok (.iload_n 3, 1) := by decide +kernel
theorem dL_law_318 : decode cL_law 318 = .ok (.iconst 1, 1) := by decide +kernel
theorem dL_law_319 : decode cL_law 319 = .ok (.iadd, 1) := by decide +kernel
theorem dL_law_320 : decode cL_law 320 = .ok (.iaload, 1) := by decide +kernel
theorem dL_law_321 : decode cL_law 321 = .ok (.invokevirtual 44, 3) := by decide +kernel
theorem dL_law_324 : decode cL_law 324 = .ok (.aload_n 2, 1) := by decide +kernel
theorem dL_law_325 : decode cL_law 325 = .ok (.aload_n 0, 1) := by decide +kernel
theorem dL_law_326 : decode cL_law 326 = .ok (.iload_n 3, 1) := by decide +kernel
theorem dL_law_327 : decode cL_law 327 = .ok (.iconst 1, 1) := by decide +kernel
theorem dL_law_328 : decode cL_law 328 = .ok (.iadd, 1) := by decide +kernel
theorem dL_law_329 : decode cL_law 329 = .ok (.iaload, 1) := by decide +kernel
theorem dL_law_330 : decode cL_law 330 = .ok (.invokevirtual 47, 3) := by decide +kernel
theorem dL_law_333 : decode cL_law 333 = .ok (.if_icmp .eq 657, 3) := by decide +kernel
theorem dL_law_336 : decode cL_law 336 = .ok (.iconst 0, 1) := by decide +kernel
theorem dL_law_337 : decode cL_law 337 = .ok (.ireturn, 1) := by decide +kernel
theorem dL_law_338 : decode cL_law 338 = .ok (.aload_n 1, 1) := by decide +kernel
theorem dL_law_339 : decode cL_law 339 = .ok (.invokevirtual 48, 3) := by decide +kernel
theorem dL_law_342 : decode cL_law 342 = .ok (.aload_n 2, 1) := by decide +kernel
theorem dL_law_343 : decode cL_law 343 = .ok (.invokevirtual 51, 3) := by decide +kernel
theorem dL_law_346 : decode cL_law 346 = .ok (.if_icmp .eq 644, 3) := by decide +kernel
theorem dL_law_349 : decode cL_law 349 = .ok (.iconst 0, 1) := by decide +kernel
theorem dL_law_350 : decode cL_law 350 = .ok (.ireturn, 1) := by decide +kernel
theorem dL_law_351 : decode cL_law 351 = .ok (.aload_n 1, 1) := by decide +kernel
theorem dL_law_352 : decode cL_law 352 = .ok (.aload_n 0, 1) := by decide +kernel
theorem dL_law_353 : decode cL_law 353 = .ok (.iload_n 3, 1) := by decide +kernel
theorem dL_law_354 : decode cL_law 354 = .ok (.iconst 1, 1) := by decide +kernel
theorem dL_law_355 : decode cL_law 355 = .ok (.iadd, 1) := by decide +kernel
theorem dL_law_356 : decode cL_law 356 = .ok (.iaload, 1) := by decide +kernel
theorem dL_law_357 : decode cL_law 357 = .ok (.aload_n 0, 1) := by decide +kernel
theorem dL_law_358 : decode cL_law 358 = .ok (.iload_n 3, 1) := by decide +kernel
theorem dL_law_359 : decode cL_law 359 = .ok (.iconst 2, 1) := by decide +kernel
theorem dL_law_360 : decode cL_law 360 = .ok (.iadd, 1) := by decide +kernel
theorem dL_law_361 : decode cL_law 361 = .ok (.iaload, 1) := by decide +kernel
theorem dL_law_362 : decode cL_law 362 = .ok (.invokevirtual 52, 3) := by decide +kernel
theorem dL_law_365 : decode cL_law 365 = .ok (.aload_n 2, 1) := by decide +kernel
theorem dL_law_366 : decode cL_law 366 = .ok (.aload_n 0, 1) := by decide +kernel
theorem dL_law_367 : decode cL_law 367 = .ok (.iload_n 3, 1) := by decide +kernel
theorem dL_law_368 : decode cL_law 368 = .ok (.iconst 1, 1) := by decide +kernel
theorem dL_law_369 : decode cL_law 369 = .ok (.iadd, 1) := by decide +kernel
theorem dL_law_370 : decode cL_law 370 = .ok (.iaload, 1) := by decide +kernel
theorem dL_law_371 : decode cL_law 371 = .ok (.aload_n 0, 1) := by decide +kernel
theorem dL_law_372 : decode cL_law 372 = .ok (.iload_n 3, 1) := by decide +kernel
theorem dL_law_373 : decode cL_law 373 = .ok (.iconst 2, 1) := by decide +kernel
theorem dL_law_374 : decode cL_law 374 = .ok (.iadd, 1) := by decide +kernel
theorem dL_law_375 : decode cL_law 375 = .ok (.iaload, 1) := by decide +kernel
theorem dL_law_376 : decode cL_law 376 = .ok (.invokevirtual 55, 3) := by decide +kernel
theorem dL_law_379 : decode cL_law 379 = .ok (.if_icmp .eq 611, 3) := by decide +kernel
theorem dL_law_382 : decode cL_law 382 = .ok (.iconst 0, 1) := by decide +kernel
theorem dL_law_383 : decode cL_law 383 = .ok (.ireturn, 1) := by decide +kernel
theorem dL_law_384 : decode cL_law 384 = .ok (.aload_n 1, 1) := by decide +kernel
theorem dL_law_385 : decode cL_law 385 = .ok (.aload_n 0, 1) := by decide +kernel
theorem dL_law_386 : decode cL_law 386 = .ok (.iload_n 3, 1) := by decide +kernel
theorem dL_law_387 : decode cL_law 387 = .ok (.iconst 1, 1) := by decide +kernel
theorem dL_law_388 : decode cL_law 388 = .ok (.iadd, 1) := by decide +kernel
theorem dL_law_389 : decode cL_law 389 = .ok (.iaload, 1) := by decide +kernel
theorem dL_law_390 : decode cL_law 390 = .ok (.invokevirtual 56, 3) := by decide +kernel
theorem dL_law_393 : decode cL_law 393 = .ok (.aload_n 2, 1) := by decide +kernel
theorem dL_law_394 : decode cL_law 394 = .ok (.aload_n 0, 1) := by decide +kernel
theorem dL_law_395 : decode cL_law 395 = .ok (.iload_n 3, 1) := by decide +kernel
theorem dL_law_396 : decode cL_law 396 = .ok (.iconst 1, 1) := by decide +kernel
theorem dL_law_397 : decode cL_law 397 = .ok (.iadd, 1) := by decide +kernel
theorem dL_law_398 : decode cL_law 398 = .ok (.iaload, 1) := by decide +kernel
theorem dL_law_399 : decode cL_law 399 = .ok (.invokevirtual 59, 3) := by decide +kernel
theorem dL_law_402 : decode cL_law 402 = .ok (.if_icmp .eq 588, 3) := by decide +kernel
theorem dL_law_405 : decode cL_law 405 = .ok (.iconst 0, 1) := by decide +kernel
theorem dL_law_406 : decode cL_law 406 = .ok (.ireturn, 1) := by decide +kernel
theorem dL_law_407 : decode cL_law 407 = .ok (.aload_n 1, 1) := by decide +kernel
theorem dL_law_408 : decode cL_law 408 = .ok (.aload_n 0, 1) := by decide +kernel
theorem dL_law_409 : decode cL_law 409 = .ok (.iload_n 3, 1) := by decide +kernel
theorem dL_law_410 : decode cL_law 410 = .ok (.iconst 1, 1) := by decide +kernel
theorem dL_law_411 : decode cL_law 411 = .ok (.iadd, 1) := by decide +kernel
theorem dL_law_412 : decode cL_law 412 = .ok (.iaload, 1) := by decide +kernel
theorem dL_law_413 : decode cL_law 413 = .ok (.aload_n 0, 1) := by decide +kernel
theorem dL_law_414 : decode cL_law 414 = .ok (.iload_n 3, 1) := by decide +kernel
theorem dL_law_415 : decode cL_law 415 = .ok (.iconst 2, 1) := by decide +kernel
theorem dL_law_416 : decode cL_law 416 = .ok (.iadd, 1) := by decide +kernel
theorem dL_law_417 : decode cL_law 417 = .ok (.iaload, 1) := by decide +kernel
theorem dL_law_418 : decode cL_law 418 = .ok (.invokevirtual 60, 3) := by decide +kernel
theorem dL_law_421 : decode cL_law 421 = .ok (.aload_n 2, 1) := by decide +kernel
theorem dL_law_422 : decode cL_law 422 = .ok (.aload_n 0, 1) := by decide +kernel
theorem dL_law_423 : decode cL_law 423 = .ok (.iload_n 3, 1) := by decide +kernel
theorem dL_law_424 : decode cL_law 424 = .ok (.iconst 1, 1) := by decide +kernel
theorem dL_law_425 : decode cL_law 425 = .ok (.iadd, 1) := by decide +kernel
theorem dL_law_426 : decode cL_law 426 = .ok (.iaload, 1) := by decide +kernel
theorem dL_law_427 : decode cL_law 427 = .ok (.aload_n 0, 1) := by decide +kernel
theorem dL_law_428 : decode cL_law 428 = .ok (.iload_n 3, 1) := by decide +kernel
theorem dL_law_429 : decode cL_law 429 = .ok (.iconst 2, 1) := by decide +kernel
theorem dL_law_430 : decode cL_law 430 = .ok (.iadd, 1) := by decide +kernel
theorem dL_law_431 : decode cL_law 431 = .ok (.iaload, 1) := by decide +kernel
theorem dL_law_432 : decode cL_law 432 = .ok (.invokevirtual 63, 3) := by decide +kernel
theorem dL_law_435 : decode cL_law 435 = .ok (.if_icmp .eq 555, 3) := by decide +kernel
theorem dL_law_438 : decode cL_law 438 = .ok (.iconst 0, 1) := by decide +kernel
theorem dL_law_439 : decode cL_law 439 = .ok (.ireturn, 1) := by decide +kernel
theorem dL_law_440 : decode cL_law 440 = .ok (.aload_n 1, 1) := by decide +kernel
theorem dL_law_441 : decode cL_law 441 = .ok (.invokevirtual 64, 3) := by decide +kernel
theorem dL_law_444 : decode cL_law 444 = .ok (.aload_n 2, 1) := by decide +kernel
theorem dL_law_445 : decode cL_law 445 = .ok (.invokevirtual 67, 3) := by decide +kernel
theorem dL_law_448 : decode cL_law 448 = .ok (.if_icmp .eq 542, 3) := by decide +kernel
theorem dL_law_451 : decode cL_law 451 = .ok (.iconst 0, 1) := by decide +kernel
theorem dL_law_452 : decode cL_law 452 = .ok (.ireturn, 1) := by decide +kernel
theorem dL_law_453 : decode cL_law 453 = .ok (.aload_n 1, 1) := by decide +kernel
theorem dL_law_454 : decode cL_law 454 = .ok (.aload_n 0, 1) := by decide +kernel
theorem dL_law_455 : decode cL_law 455 = .ok (.iload_n 3, 1) := by decide +kernel
theorem dL_law_456 : decode cL_law 456 = .ok (.iconst 1, 1) := by decide +kernel
theorem dL_law_457 : decode cL_law 457 = .ok (.iadd, 1) := by decide +kernel
theorem dL_law_458 : decode cL_law 458 = .ok (.iaload, 1) := by decide +kernel
theorem dL_law_459 : decode cL_law 459 = .ok (.aload_n 0, 1) := by decide +kernel
theorem dL_law_460 : decode cL_law 460 = .ok (.iload_n 3, 1) := by decide +kernel
theorem dL_law_461 : decode cL_law 461 = .ok (.iconst 2, 1) := by decide +kernel
theorem dL_law_462 : decode cL_law 462 = .ok (.iadd, 1) := by decide +kernel
theorem dL_law_463 : decode cL_law 463 = .ok (.iaload, 1) := by decide +kernel
theorem dL_law_464 : decode cL_law 464 = .ok (.invokevirtual 68, 3) := by decide +kernel
theorem dL_law_467 : decode cL_law 467 = .ok (.aload_n 2, 1) := by decide +kernel
theorem dL_law_468 : decode cL_law 468 = .ok (.aload_n 0, 1) := by decide +kernel
theorem dL_law_469 : decode cL_law 469 = .ok (.iload_n 3, 1) := by decide +kernel
theorem dL_law_470 : decode cL_law 470 = .ok (.iconst 1, 1) := by decide +kernel
theorem dL_law_471 : decode cL_law 471 = .ok (.iadd, 1) := by decide +kernel
theorem dL_law_472 : decode cL_law 472 = .ok (.iaload, 1) := by decide +kernel
theorem dL_law_473 : decode cL_law 473 = .ok (.aload_n 0, 1) := by decide +kernel
theorem dL_law_474 : decode cL_law 474 = .ok (.iload_n 3, 1) := by decide +kernel
theorem dL_law_475 : decode cL_law 475 = .ok (.iconst 2, 1) := by decide +kernel
theorem dL_law_476 : decode cL_law 476 = .ok (.iadd, 1) := by decide +kernel
theorem dL_law_477 : decode cL_law 477 = .ok (.iaload, 1) := by decide +kernel
theorem dL_law_478 : decode cL_law 478 = .ok (.invokevirtual 71, 3) := by decide +kernel
theorem dL_law_481 : decode cL_law 481 = .ok (.if_icmp .eq 509, 3) := by decide +kernel
theorem dL_law_484 : decode cL_law 484 = .ok (.iconst 0, 1) := by decide +kernel
theorem dL_law_485 : decode cL_law 485 = .ok (.ireturn, 1) := by decide +kernel
theorem dL_law_486 : decode cL_law 486 = .ok (.aload_n 1, 1) := by decide +kernel
theorem dL_law_487 : decode cL_law 487 = .ok (.aload_n 0, 1) := by decide +kernel
theorem dL_law_488 : decode cL_law 488 = .ok (.iload_n 3, 1) := by decide +kernel
theorem dL_law_489 : decode cL_law 489 = .ok (.iconst 1, 1) := by decide +kernel
theorem dL_law_490 : decode cL_law 490 = .ok (.iadd, 1) := by decide +kernel
theorem dL_law_491 : decode cL_law 491 = .ok (.iaload, 1) := by decide +kernel
theorem dL_law_492 : decode cL_law 492 = .ok (.invokevirtual 72, 3) := by decide +kernel
theorem dL_law_495 : decode cL_law 495 = .ok (.aload_n 2, 1) := by decide +kernel
theorem dL_law_496 : decode cL_law 496 = .ok (.aload_n 0, 1) := by decide +kernel
theorem dL_law_497 : decode cL_law 497 = .ok (.iload_n 3, 1) := by decide +kernel
theorem dL_law_498 : decode cL_law 498 = .ok (.iconst 1, 1) := by decide +kernel
theorem dL_law_499 : decode cL_law 499 = .ok (.iadd, 1) := by decide +kernel
theorem dL_law_500 : decode cL_law 500 = .ok (.iaload, 1) := by decide +kernel
theorem dL_law_501 : decode cL_law 501 = .ok (.invokevirtual 75, 3) := by decide +kernel
theorem dL_law_504 : decode cL_law 504 = .ok (.if_icmp .eq 486, 3) := by decide +kernel
theorem dL_law_507 : decode cL_law 507 = .ok (.iconst 0, 1) := by decide +kernel
theorem dL_law_508 : decode cL_law 508 = .ok (.ireturn, 1) := by decide +kernel
theorem dL_law_509 : decode cL_law 509 = .ok (.aload_n 1, 1) := by decide +kernel
theorem dL_law_510 : decode cL_law 510 = .ok (.aload_n 0, 1) := by decide +kernel
theorem dL_law_511 : decode cL_law 511 = .ok (.iload_n 3, 1) := by decide +kernel
theorem dL_law_512 : decode cL_law 512 = .ok (.iconst 1, 1) := by decide +kernel
theorem dL_law_513 : decode cL_law 513 = .ok (.iadd, 1) := by decide +kernel
theorem dL_law_514 : decode cL_law 514 = .ok (.iaload, 1) := by decide +kernel
theorem dL_law_515 : decode cL_law 515 = .ok (.ifCond .eq 7, 3) := by decide +kernel
theorem dL_law_518 : decode cL_law 518 = .ok (.iconst 1, 1) := by decide +kernel
theorem dL_law_519 : decode cL_law 519 = .ok (.goto 4, 3) := by decide +kernel
theorem dL_law_522 : decode cL_law 522 = .ok (.iconst 0, 1) := by decide +kernel
theorem dL_law_523 : decode cL_law 523 = .ok (.invokevirtual 76, 3) := by decide +kernel
theorem dL_law_526 : decode cL_law 526 = .ok (.aload_n 2, 1) := by decide +kernel
theorem dL_law_527 : decode cL_law 527 = .ok (.aload_n 0, 1) := by decide +kernel
theorem dL_law_528 : decode cL_law 528 = .ok (.iload_n 3, 1) := by decide +kernel
theorem dL_law_529 : decode cL_law 529 = .ok (.iconst 1, 1) := by decide +kernel
theorem dL_law_530 : decode cL_law 530 = .ok (.iadd, 1) := by decide +kernel
theorem dL_law_531 : decode cL_law 531 = .ok (.iaload, 1) := by decide +kernel
theorem dL_law_532 : decode cL_law 532 = .ok (.ifCond .eq 7, 3) := by decide +kernel
theorem dL_law_535 : decode cL_law 535 = .ok (.iconst 1, 1) := by decide +kernel
theorem dL_law_536 : decode cL_law 536 = .ok (.goto 4, 3) := by decide +kernel
theorem dL_law_539 : decode cL_law 539 = .ok (.iconst 0, 1) := by decide +kernel
theorem dL_law_540 : decode cL_law 540 = .ok (.invokevirtual 80, 3) := by decide +kernel
theorem dL_law_543 : decode cL_law 543 = .ok (.if_icmp .eq 447, 3) := by decide +kernel
theorem dL_law_546 : decode cL_law 546 = .ok (.iconst 0, 1) := by decide +kernel
theorem dL_law_547 : decode cL_law 547 = .ok (.ireturn, 1) := by decide +kernel
theorem dL_law_548 : decode cL_law 548 = .ok (.aload_n 1, 1) := by decide +kernel
theorem dL_law_549 : decode cL_law 549 = .ok (.aload_n 0, 1) := by decide +kernel
theorem dL_law_550 : decode cL_law 550 = .ok (.iload_n 3, 1) := by decide +kernel
theorem dL_law_551 : decode cL_law 551 = .ok (.iconst 1, 1) := by decide +kernel
theorem dL_law_552 : decode cL_law 552 = .ok (.iadd, 1) := by decide +kernel
theorem dL_law_553 : decode cL_law 553 = .ok (.iaload, 1) := by decide +kernel
theorem dL_law_554 : decode cL_law 554 = .ok (.invokevirtual 81, 3) := by decide +kernel
theorem dL_law_557 : decode cL_law 557 = .ok (.aload_n 2, 1) := by decide +kernel
theorem dL_law_558 : decode cL_law 558 = .ok (.aload_n 0, 1) := by decide +kernel
theorem dL_law_559 : decode cL_law 559 = .ok (.iload_n 3, 1) := by decide +kernel
theorem dL_law_560 : decode cL_law 560 = .ok (.iconst 1, 1) := by decide +kernel
theorem dL_law_561 : decode cL_law 561 = .ok (.iadd, 1) := by decide +kernel
theorem dL_law_562 : decode cL_law 562 = .ok (.iaload, 1) := by decide +kernel
theorem dL_law_563 : decode cL_law 563 = .ok (.invokevirtual 84, 3) := by decide +kernel
theorem dL_law_566 : decode cL_law 566 = .ok (.if_icmp .eq 424, 3) := by decide +kernel
theorem dL_law_569 : decode cL_law 569 = .ok (.iconst 0, 1) := by decide +kernel
theorem dL_law_570 : decode cL_law 570 = .ok (.ireturn, 1) := by decide +kernel
theorem dL_law_571 : decode cL_law 571 = .ok (.aload_n 1, 1) := by decide +kernel
theorem dL_law_572 : decode cL_law 572 = .ok (.invokevirtual 85, 3) := by decide +kernel
theorem dL_law_575 : decode cL_law 575 = .ok (.aload_n 2, 1) := by decide +kernel
theorem dL_law_576 : decode cL_law 576 = .ok (.invokevirtual 88, 3) := by decide +kernel
theorem dL_law_579 : decode cL_law 579 = .ok (.if_icmp .eq 411, 3) := by decide +kernel
theorem dL_law_582 : decode cL_law 582 = .ok (.iconst 0, 1) := by decide +kernel
theorem dL_law_583 : decode cL_law 583 = .ok (.ireturn, 1) := by decide +kernel
theorem dL_law_584 : decode cL_law 584 = .ok (.aload_n 1, 1) := by decide +kernel
theorem dL_law_585 : decode cL_law 585 = .ok (.aload_n 0, 1) := by decide +kernel
theorem dL_law_586 : decode cL_law 586 = .ok (.iload_n 3, 1) := by decide +kernel
theorem dL_law_587 : decode cL_law 587 = .ok (.iconst 1, 1) := by decide +kernel
theorem dL_law_588 : decode cL_law 588 = .ok (.iadd, 1) := by decide +kernel
theorem dL_law_589 : decode cL_law 589 = .ok (.iaload, 1) := by decide +kernel
theorem dL_law_590 : decode cL_law 590 = .ok (.aload_n 0, 1) := by decide +kernel
theorem dL_law_591 : decode cL_law 591 = .ok (.iload_n 3, 1) := by decide +kernel
theorem dL_law_592 : decode cL_law 592 = .ok (.iconst 2, 1) := by decide +kernel
theorem dL_law_593 : decode cL_law 593 = .ok (.iadd, 1) := by decide +kernel
theorem dL_law_594 : decode cL_law 594 = .ok (.iaload, 1) := by decide +kernel
theorem dL_law_595 : decode cL_law 595 = .ok (.i2l, 1) := by decide +kernel
theorem dL_law_596 : decode cL_law 596 = .ok (.bipush 32, 2) := by decide +kernel
theorem dL_law_598 : decode cL_law 598 = .ok (.lshl, 1) := by decide +kernel
theorem dL_law_599 : decode cL_law 599 = .ok (.aload_n 0, 1) := by decide +kernel
theorem dL_law_600 : decode cL_law 600 = .ok (.iload_n 3, 1) := by decide +kernel
theorem dL_law_601 : decode cL_law 601 = .ok (.iconst 3, 1) := by decide +kernel
theorem dL_law_602 : decode cL_law 602 = .ok (.iadd, 1) := by decide +kernel
theorem dL_law_603 : decode cL_law 603 = .ok (.iaload, 1) := by decide +kernel
theorem dL_law_604 : decode cL_law 604 = .ok (.i2l, 1) := by decide +kernel
theorem dL_law_605 : decode cL_law 605 = .ok (.ldc2_w 89, 3) := by decide +kernel
theorem dL_law_608 : decode cL_law 608 = .ok (.land, 1) := by decide +kernel
theorem dL_law_609 : decode cL_law 609 = .ok (.lor, 1) := by decide +kernel
theorem dL_law_610 : decode cL_law 610 = .ok (.invokevirtual 91, 3) := by decide +kernel
theorem dL_law_613 : decode cL_law 613 = .ok (.aload_n 2, 1) := by decide +kernel
theorem dL_law_614 : decode cL_law 614 = .ok (.aload_n 0, 1) := by decide +kernel
theorem dL_law_615 : decode cL_law 615 = .ok (.iload_n 3, 1) := by decide +kernel
theorem dL_law_616 : decode cL_law 616 = .ok (.iconst 1, 1) := by decide +kernel
theorem dL_law_617 : decode cL_law 617 = .ok (.iadd, 1) := by decide +kernel
theorem dL_law_618 : decode cL_law 618 = .ok (.iaload, 1) := by decide +kernel
theorem dL_law_619 : decode cL_law 619 = .ok (.aload_n 0, 1) := by decide +kernel
theorem dL_law_620 : decode cL_law 620 = .ok (.iload_n 3, 1) := by decide +kernel
theorem dL_law_621 : decode cL_law 621 = .ok (.iconst 2, 1) := by decide +kernel
theorem dL_law_622 : decode cL_law 622 = .ok (.iadd, 1) := by decide +kernel
theorem dL_law_623 : decode cL_law 623 = .ok (.iaload, 1) := by decide +kernel
theorem dL_law_624 : decode cL_law 624 = .ok (.i2l, 1) := by decide +kernel
theorem dL_law_625 : decode cL_law 625 = .ok (.bipush 32, 2) := by decide +kernel
theorem dL_law_627 : decode cL_law 627 = .ok (.lshl, 1) := by decide +kernel
theorem dL_law_628 : decode cL_law 628 = .ok (.aload_n 0, 1) := by decide +kernel
theorem dL_law_629 : decode cL_law 629 = .ok (.iload_n 3, 1) := by decide +kernel
theorem dL_law_630 : decode cL_law 630 = .ok (.iconst 3, 1) := by decide +kernel
theorem dL_law_631 : decode cL_law 631 = .ok (.iadd, 1) := by decide +kernel
theorem dL_law_632 : decode cL_law 632 = .ok (.iaload, 1) := by decide +kernel
theorem dL_law_633 : decode cL_law 633 = .ok (.i2l, 1) := by decide +kernel
theorem dL_law_634 : decode cL_law 634 = .ok (.ldc2_w 89, 3) := by decide +kernel
theorem dL_law_637 : decode cL_law 637 = .ok (.land, 1) := by decide +kernel
theorem dL_law_638 : decode cL_law 638 = .ok (.lor, 1) := by decide +kernel
theorem dL_law_639 : decode cL_law 639 = .ok (.invokevirtual 95, 3) := by decide +kernel
theorem dL_law_642 : decode cL_law 642 = .ok (.if_icmp .eq 348, 3) := by decide +kernel
theorem dL_law_645 : decode cL_law 645 = .ok (.iconst 0, 1) := by decide +kernel
theorem dL_law_646 : decode cL_law 646 = .ok (.ireturn, 1) := by decide +kernel
theorem dL_law_647 : decode cL_law 647 = .ok (.aload_n 1, 1) := by decide +kernel
theorem dL_law_648 : decode cL_law 648 = .ok (.aload_n 0, 1) := by decide +kernel
theorem dL_law_649 : decode cL_law 649 = .ok (.iload_n 3, 1) := by decide +kernel
theorem dL_law_650 : decode cL_law 650 = .ok (.iconst 1, 1) := by decide +kernel
theorem dL_law_651 : decode cL_law 651 = .ok (.iadd, 1) := by decide +kernel
theorem dL_law_652 : decode cL_law 652 = .ok (.iaload, 1) := by decide +kernel
theorem dL_law_653 : decode cL_law 653 = .ok (.aload_n 0, 1) := by decide +kernel
theorem dL_law_654 : decode cL_law 654 = .ok (.iload_n 3, 1) := by decide +kernel
theorem dL_law_655 : decode cL_law 655 = .ok (.iconst 2, 1) := by decide +kernel
theorem dL_law_656 : decode cL_law 656 = .ok (.iadd, 1) := by decide +kernel
theorem dL_law_657 : decode cL_law 657 = .ok (.iaload, 1) := by decide +kernel
theorem dL_law_658 : decode cL_law 658 = .ok (.ifCond .eq 7, 3) := by decide +kernel
theorem dL_law_661 : decode cL_law 661 = .ok (.iconst 1, 1) := by decide +kernel
theorem dL_law_662 : decode cL_law 662 = .ok (.goto 4, 3) := by decide +kernel
theorem dL_law_665 : decode cL_law 665 = .ok (.iconst 0, 1) := by decide +kernel
theorem dL_law_666 : decode cL_law 666 = .ok (.invokevirtual 96, 3) := by decide +kernel
theorem dL_law_669 : decode cL_law 669 = .ok (.aload_n 2, 1) := by decide +kernel
theorem dL_law_670 : decode cL_law 670 = .ok (.aload_n 0, 1) := by decide +kernel
theorem dL_law_671 : decode cL_law 671 = .ok (.iload_n 3, 1) := by decide +kernel
theorem dL_law_672 : decode cL_law 672 = .ok (.iconst 1, 1) := by decide +kernel
theorem dL_law_673 : decode cL_law 673 = .ok (.iadd, 1) := by decide +kernel
theorem dL_law_674 : decode cL_law 674 = .ok (.iaload, 1) := by decide +kernel
theorem dL_law_675 : decode cL_law 675 = .ok (.aload_n 0, 1) := by decide +kernel
theorem dL_law_676 : decode cL_law 676 = .ok (.iload_n 3, 1) := by decide +kernel
theorem dL_law_677 : decode cL_law 677 = .ok (.iconst 2, 1) := by decide +kernel
theorem dL_law_678 : decode cL_law 678 = .ok (.iadd, 1) := by decide +kernel
theorem dL_law_679 : decode cL_law 679 = .ok (.iaload, 1) := by decide +kernel
theorem dL_law_680 : decode cL_law 680 = .ok (.ifCond .eq 7, 3) := by decide +kernel
theorem dL_law_683 : decode cL_law 683 = .ok (.iconst 1, 1) := by decide +kernel
theorem dL_law_684 : decode cL_law 684 = .ok (.goto 4, 3) := by decide +kernel
theorem dL_law_687 : decode cL_law 687 = .ok (.iconst 0, 1) := by decide +kernel
theorem dL_law_688 : decode cL_law 688 = .ok (.invokevirtual 100, 3) := by decide +kernel
theorem dL_law_691 : decode cL_law 691 = .ok (.if_icmp .eq 299, 3) := by decide +kernel
theorem dL_law_694 : decode cL_law 694 = .ok (.iconst 0, 1) := by decide +kernel
theorem dL_law_695 : decode cL_law 695 = .ok (.ireturn, 1) := by decide +kernel
theorem dL_law_696 : decode cL_law 696 = .ok (.aload_n 1, 1) := by decide +kernel
theorem dL_law_697 : decode cL_law 697 = .ok (.aload_n 0, 1) := by decide +kernel
theorem dL_law_698 : decode cL_law 698 = .ok (.iload_n 3, 1) := by decide +kernel
theorem dL_law_699 : decode cL_law 699 = .ok (.iconst 1, 1) := by decide +kernel
theorem dL_law_700 : decode cL_law 700 = .ok (.iadd, 1) := by decide +kernel
theorem dL_law_701 : decode cL_law 701 = .ok (.iaload, 1) := by decide +kernel
theorem dL_law_702 : decode cL_law 702 = .ok (.aload_n 0, 1) := by decide +kernel
theorem dL_law_703 : decode cL_law 703 = .ok (.iload_n 3, 1) := by decide +kernel
theorem dL_law_704 : decode cL_law 704 = .ok (.iconst 2, 1) := by decide +kernel
theorem dL_law_705 : decode cL_law 705 = .ok (.iadd, 1) := by decide +kernel
theorem dL_law_706 : decode cL_law 706 = .ok (.iaload, 1) := by decide +kernel
theorem dL_law_707 : decode cL_law 707 = .ok (.invokevirtual 101, 3) := by decide +kernel
theorem dL_law_710 : decode cL_law 710 = .ok (.aload_n 2, 1) := by decide +kernel
theorem dL_law_711 : decode cL_law 711 = .ok (.aload_n 0, 1) := by decide +kernel
theorem dL_law_712 : decode cL_law 712 = .ok (.iload_n 3, 1) := by decide +kernel
theorem dL_law_713 : decode cL_law 713 = .ok (.iconst 1, 1) := by decide +kernel
theorem dL_law_714 : decode cL_law 714 = .ok (.iadd, 1) := by decide +kernel
theorem dL_law_715 : decode cL_law 715 = .ok (.iaload, 1) := by decide +kernel
theorem dL_law_716 : decode cL_law 716 = .ok (.aload_n 0, 1) := by decide +kernel
theorem dL_law_717 : decode cL_law 717 = .ok (.iload_n 3, 1) := by decide +kernel
theorem dL_law_718 : decode cL_law 718 = .ok (.iconst 2, 1) := by decide +kernel
theorem dL_law_719 : decode cL_law 719 = .ok (.iadd, 1) := by decide +kernel
theorem dL_law_720 : decode cL_law 720 = .ok (.iaload, 1) := by decide +kernel
theorem dL_law_721 : decode cL_law 721 = .ok (.invokevirtual 104, 3) := by decide +kernel
theorem dL_law_724 : decode cL_law 724 = .ok (.if_icmp .eq 266, 3) := by decide +kernel
theorem dL_law_727 : decode cL_law 727 = .ok (.iconst 0, 1) := by decide +kernel
theorem dL_law_728 : decode cL_law 728 = .ok (.ireturn, 1) := by decide +kernel
theorem dL_law_729 : decode cL_law 729 = .ok (.aload_n 1, 1) := by decide +kernel
theorem dL_law_730 : decode cL_law 730 = .ok (.invokevirtual 105, 3) := by decide +kernel
theorem dL_law_733 : decode cL_law 733 = .ok (.aload_n 2, 1) := by decide +kernel
theorem dL_law_734 : decode cL_law 734 = .ok (.invokevirtual 108, 3) := by decide +kernel
theorem dL_law_737 : decode cL_law 737 = .ok (.if_icmp .eq 253, 3) := by decide +kernel
theorem dL_law_740 : decode cL_law 740 = .ok (.iconst 0, 1) := by decide +kernel
theorem dL_law_741 : decode cL_law 741 = .ok (.ireturn, 1) := by decide +kernel
theorem dL_law_742 : decode cL_law 742 = .ok (.aload_n 1, 1) := by decide +kernel
theorem dL_law_743 : decode cL_law 743 = .ok (.aload_n 0, 1) := by decide +kernel
theorem dL_law_744 : decode cL_law 744 = .ok (.iload_n 3, 1) := by decide +kernel
theorem dL_law_745 : decode cL_law 745 = .ok (.iconst 1, 1) := by decide +kernel
theorem dL_law_746 : decode cL_law 746 = .ok (.iadd, 1) := by decide +kernel
theorem dL_law_747 : decode cL_law 747 = .ok (.iaload, 1) := by decide +kernel
theorem dL_law_748 : decode cL_law 748 = .ok (.invokevirtual 109, 3) := by decide +kernel
theorem dL_law_751 : decode cL_law 751 = .ok (.aload_n 2, 1) := by decide +kernel
theorem dL_law_752 : decode cL_law 752 = .ok (.aload_n 0, 1) := by decide +kernel
theorem dL_law_753 : decode cL_law 753 = .ok (.iload_n 3, 1) := by decide +kernel
theorem dL_law_754 : decode cL_law 754 = .ok (.iconst 1, 1) := by decide +kernel
theorem dL_law_755 : decode cL_law 755 = .ok (.iadd, 1) := by decide +kernel
theorem dL_law_756 : decode cL_law 756 = .ok (.iaload, 1) := by decide +kernel
theorem dL_law_757 : decode cL_law 757 = .ok (.invokevirtual 112, 3) := by decide +kernel
theorem dL_law_760 : decode cL_law 760 = .ok (.if_icmp .eq 230, 3) := by decide +kernel
theorem dL_law_763 : decode cL_law 763 = .ok (.iconst 0, 1) := by decide +kernel
theorem dL_law_764 : decode cL_law 764 = .ok (.ireturn, 1) := by decide +kernel
theorem dL_law_765 : decode cL_law 765 = .ok (.aload_n 1, 1) := by decide +kernel
theorem dL_law_766 : decode cL_law 766 = .ok (.aload_n 0, 1) := by decide +kernel
theorem dL_law_767 : decode cL_law 767 = .ok (.iload_n 3, 1) := by decide +kernel
theorem dL_law_768 : decode cL_law 768 = .ok (.iconst 1, 1) := by decide +kernel
theorem dL_law_769 : decode cL_law 769 = .ok (.iadd, 1) := by decide +kernel
theorem dL_law_770 : decode cL_law 770 = .ok (.iaload, 1) := by decide +kernel
theorem dL_law_771 : decode cL_law 771 = .ok (.aload_n 0, 1) := by decide +kernel
theorem dL_law_772 : decode cL_law 772 = .ok (.iload_n 3, 1) := by decide +kernel
theorem dL_law_773 : decode cL_law 773 = .ok (.iconst 2, 1) := by decide +kernel
theorem dL_law_774 : decode cL_law 774 = .ok (.iadd, 1) := by decide +kernel
theorem dL_law_775 : decode cL_law 775 = .ok (.iaload, 1) := by decide +kernel
theorem dL_law_776 : decode cL_law 776 = .ok (.aload_n 0, 1) := by decide +kernel
theorem dL_law_777 : decode cL_law 777 = .ok (.iload_n 3, 1) := by decide +kernel
theorem dL_law_778 : decode cL_law 778 = .ok (.iconst 3, 1) := by decide +kernel
theorem dL_law_779 : decode cL_law 779 = .ok (.iadd, 1) := by decide +kernel
theorem dL_law_780 : decode cL_law 780 = .ok (.iaload, 1) := by decide +kernel
theorem dL_law_781 : decode cL_law 781 = .ok (.invokevirtual 113, 3) := by decide +kernel
theorem dL_law_784 : decode cL_law 784 = .ok (.aload_n 2, 1) := by decide +kernel
theorem dL_law_785 : decode cL_law 785 = .ok (.aload_n 0, 1) := by decide +kernel
theorem dL_law_786 : decode cL_law 786 = .ok (.iload_n 3, 1) := by decide +kernel
theorem dL_law_787 : decode cL_law 787 = .ok (.iconst 1, 1) := by decide +kernel
theorem dL_law_788 : decode cL_law 788 = .ok (.iadd, 1) := by decide +kernel
theorem dL_law_789 : decode cL_law 789 = .ok (.iaload, 1) := by decide +kernel
theorem dL_law_790 : decode cL_law 790 = .ok (.aload_n 0, 1) := by decide +kernel
theorem dL_law_791 : decode cL_law 791 = .ok (.iload_n 3, 1) := by decide +kernel
theorem dL_law_792 : decode cL_law 792 = .ok (.iconst 2, 1) := by decide +kernel
theorem dL_law_793 : decode cL_law 793 = .ok (.iadd, 1) := by decide +kernel
theorem dL_law_794 : decode cL_law 794 = .ok (.iaload, 1) := by decide +kernel
theorem dL_law_795 : decode cL_law 795 = .ok (.aload_n 0, 1) := by decide +kernel
theorem dL_law_796 : decode cL_law 796 = .ok (.iload_n 3, 1) := by decide +kernel
theorem dL_law_797 : decode cL_law 797 = .ok (.iconst 3, 1) := by decide +kernel
theorem dL_law_798 : decode cL_law 798 = .ok (.iadd, 1) := by decide +kernel
theorem dL_law_799 : decode cL_law 799 = .ok (.iaload, 1) := by decide +kernel
theorem dL_law_800 : decode cL_law 800 = .ok (.invokevirtual 117, 3) := by decide +kernel
theorem dL_law_803 : decode cL_law 803 = .ok (.if_icmp .eq 187, 3) := by decide +kernel
theorem dL_law_806 : decode cL_law 806 = .ok (.iconst 0, 1) := by decide +kernel
theorem dL_law_807 : decode cL_law 807 = .ok (.ireturn, 1) := by decide +kernel
theorem dL_law_808 : decode cL_law 808 = .ok (.aload_n 1, 1) := by decide +kernel
theorem dL_law_809 : decode cL_law 809 = .ok (.aload_n 0, 1) := by decide +kernel
theorem dL_law_810 : decode cL_law 810 = .ok (.iload_n 3, 1) := by decide +kernel
theorem dL_law_811 : decode cL_law 811 = .ok (.iconst 1, 1) := by decide +kernel
theorem dL_law_812 : decode cL_law 812 = .ok (.iadd, 1) := by decide +kernel
theorem dL_law_813 : decode cL_law 813 = .ok (.iaload, 1) := by decide +kernel
theorem dL_law_814 : decode cL_law 814 = .ok (.aload_n 0, 1) := by decide +kernel
theorem dL_law_815 : decode cL_law 815 = .ok (.iload_n 3, 1) := by decide +kernel
theorem dL_law_816 : decode cL_law 816 = .ok (.iconst 2, 1) := by decide +kernel
theorem dL_law_817 : decode cL_law 817 = .ok (.iadd, 1) := by decide +kernel
theorem dL_law_818 : decode cL_law 818 = .ok (.iaload, 1) := by decide +kernel
theorem dL_law_819 : decode cL_law 819 = .ok (.aload_n 0, 1) := by decide +kernel
theorem dL_law_820 : decode cL_law 820 = .ok (.iload_n 3, 1) := by decide +kernel
theorem dL_law_821 : decode cL_law 821 = .ok (.iconst 3, 1) := by decide +kernel
theorem dL_law_822 : decode cL_law 822 = .ok (.iadd, 1) := by decide +kernel
theorem dL_law_823 : decode cL_law 823 = .ok (.iaload, 1) := by decide +kernel
theorem dL_law_824 : decode cL_law 824 = .ok (.ifCond .eq 7, 3) := by decide +kernel
theorem dL_law_827 : decode cL_law 827 = .ok (.iconst 1, 1) := by decide +kernel
theorem dL_law_828 : decode cL_law 828 = .ok (.goto 4, 3) := by decide +kernel
theorem dL_law_831 : decode cL_law 831 = .ok (.iconst 0, 1) := by decide +kernel
theorem dL_law_832 : decode cL_law 832 = .ok (.invokevirtual 118, 3) := by decide +kernel
theorem dL_law_835 : decode cL_law 835 = .ok (.aload_n 2, 1) := by decide +kernel
theorem dL_law_836 : decode cL_law 836 = .ok (.aload_n 0, 1) := by decide +kernel
theorem dL_law_837 : decode cL_law 837 = .ok (.iload_n 3, 1) := by decide +kernel
theorem dL_law_838 : decode cL_law 838 = .ok (.iconst 1, 1) := by decide +kernel
theorem dL_law_839 : decode cL_law 839 = .ok (.iadd, 1) := by decide +kernel
theorem dL_law_840 : decode cL_law 840 = .ok (.iaload, 1) := by decide +kernel
theorem dL_law_841 : decode cL_law 841 = .ok (.aload_n 0, 1) := by decide +kernel
theorem dL_law_842 : decode cL_law 842 = .ok (.iload_n 3, 1) := by decide +kernel
theorem dL_law_843 : decode cL_law 843 = .ok (.iconst 2, 1) := by decide +kernel
theorem dL_law_844 : decode cL_law 844 = .ok (.iadd, 1) := by decide +kernel
theorem dL_law_845 : decode cL_law 845 = .ok (.iaload, 1) := by decide +kernel
theorem dL_law_846 : decode cL_law 846 = .ok (.aload_n 0, 1) := by decide +kernel
theorem dL_law_847 : decode cL_law 847 = .ok (.iload_n 3, 1) := by decide +kernel
theorem dL_law_848 : decode cL_law 848 = .ok (.iconst 3, 1) := by decide +kernel
theorem dL_law_849 : decode cL_law 849 = .ok (.iadd, 1) := by decide +kernel
theorem dL_law_850 : decode cL_law 850 = .ok (.iaload, 1) := by decide +kernel
theorem dL_law_851 : decode cL_law 851 = .ok (.ifCond .eq 7, 3) := by decide +kernel
theorem dL_law_854 : decode cL_law 854 = .ok (.iconst 1, 1) := by decide +kernel
theorem dL_law_855 : decode cL_law 855 = .ok (.goto 4, 3) := by decide +kernel
theorem dL_law_858 : decode cL_law 858 = .ok (.iconst 0, 1) := by decide +kernel
theorem dL_law_859 : decode cL_law 859 = .ok (.invokevirtual 122, 3) := by decide +kernel
theorem dL_law_862 : decode cL_law 862 = .ok (.if_icmp .eq 128, 3) := by decide +kernel
theorem dL_law_865 : decode cL_law 865 = .ok (.iconst 0, 1) := by decide +kernel
theorem dL_law_866 : decode cL_law 866 = .ok (.ireturn, 1) := by decide +kernel
theorem dL_law_867 : decode cL_law 867 = .ok (.aload_n 1, 1) := by decide +kernel
theorem dL_law_868 : decode cL_law 868 = .ok (.aload_n 0, 1) := by decide +kernel
theorem dL_law_869 : decode cL_law 869 = .ok (.iload_n 3, 1) := by decide +kernel
theorem dL_law_870 : decode cL_law 870 = .ok (.iconst 1, 1) := by decide +kernel
theorem dL_law_871 : decode cL_law 871 = .ok (.iadd, 1) := by decide +kernel
theorem dL_law_872 : decode cL_law 872 = .ok (.iaload, 1) := by decide +kernel
theorem dL_law_873 : decode cL_law 873 = .ok (.i2l, 1) := by decide +kernel
theorem dL_law_874 : decode cL_law 874 = .ok (.bipush 32, 2) := by decide +kernel
theorem dL_law_876 : decode cL_law 876 = .ok (.lshl, 1) := by decide +kernel
theorem dL_law_877 : decode cL_law 877 = .ok (.aload_n 0, 1) := by decide +kernel
theorem dL_law_878 : decode cL_law 878 = .ok (.iload_n 3, 1) := by decide +kernel
theorem dL_law_879 : decode cL_law 879 = .ok (.iconst 2, 1) := by decide +kernel
theorem dL_law_880 : decode cL_law 880 = .ok (.iadd, 1) := by decide +kernel
theorem dL_law_881 : decode cL_law 881 = .ok (.iaload, 1) := by decide +kernel
theorem dL_law_882 : decode cL_law 882 = .ok (.i2l, 1) := by decide +kernel
theorem dL_law_883 : decode cL_law 883 = .ok (.ldc2_w 89, 3) := by decide +kernel
theorem dL_law_886 : decode cL_law 886 = .ok (.land, 1) := by decide +kernel
theorem dL_law_887 : decode cL_law 887 = .ok (.lor, 1) := by decide +kernel
theorem dL_law_888 : decode cL_law 888 = .ok (.invokevirtual 123, 3) := by decide +kernel
theorem dL_law_891 : decode cL_law 891 = .ok (.aload_n 2, 1) := by decide +kernel
theorem dL_law_892 : decode cL_law 892 = .ok (.aload_n 0, 1) := by decide +kernel
theorem dL_law_893 : decode cL_law 893 = .ok (.iload_n 3, 1) := by decide +kernel
theorem dL_law_894 : decode cL_law 894 = .ok (.iconst 1, 1) := by decide +kernel
theorem dL_law_895 : decode cL_law 895 = .ok (.iadd, 1) := by decide +kernel
theorem dL_law_896 : decode cL_law 896 = .ok (.iaload, 1) := by decide +kernel
theorem dL_law_897 : decode cL_law 897 = .ok (.i2l, 1) := by decide +kernel
theorem dL_law_898 : decode cL_law 898 = .ok (.bipush 32, 2) := by decide +kernel
theorem dL_law_900 : decode cL_law 900 = .ok (.lshl, 1) := by decide +kernel
theorem dL_law_901 : decode cL_law 901 = .ok (.aload_n 0, 1) := by decide +kernel
theorem dL_law_902 : decode cL_law 902 = .ok (.iload_n 3, 1) := by decide +kernel
theorem dL_law_903 : decode cL_law 903 = .ok (.iconst 2, 1) := by decide +kernel
theorem dL_law_904 : decode cL_law 904 = .ok (.iadd, 1) := by decide +kernel
theorem dL_law_905 : decode cL_law 905 = .ok (.iaload, 1) := by decide +kernel
theorem dL_law_906 : decode cL_law 906 = .ok (.i2l, 1) := by decide +kernel
theorem dL_law_907 : decode cL_law 907 = .ok (.ldc2_w 89, 3) := by decide +kernel
theorem dL_law_910 : decode cL_law 910 = .ok (.land, 1) := by decide +kernel
theorem dL_law_911 : decode cL_law 911 = .ok (.lor, 1) := by decide +kernel
theorem dL_law_912 : decode cL_law 912 = .ok (.invokevirtual 127, 3) := by decide +kernel
theorem dL_law_915 : decode cL_law 915 = .ok (.lcmp, 1) := by decide +kernel
theorem dL_law_916 : decode cL_law 916 = .ok (.ifCond .eq 74, 3) := by decide +kernel
theorem dL_law_919 : decode cL_law 919 = .ok (.iconst 0, 1) := by decide +kernel
theorem dL_law_920 : decode cL_law 920 = .ok (.ireturn, 1) := by decide +kernel
theorem dL_law_921 : decode cL_law 921 = .ok (.aload_n 1, 1) := by decide +kernel
theorem dL_law_922 : decode cL_law 922 = .ok (.aload_n 0, 1) := by decide +kernel
theorem dL_law_923 : decode cL_law 923 = .ok (.iload_n 3, 1) := by decide +kernel
theorem dL_law_924 : decode cL_law 924 = .ok (.iconst 1, 1) := by decide +kernel
theorem dL_law_925 : decode cL_law 925 = .ok (.iadd, 1) := by decide +kernel
theorem dL_law_926 : decode cL_law 926 = .ok (.iaload, 1) := by decide +kernel
theorem dL_law_927 : decode cL_law 927 = .ok (.invokevirtual 128, 3) := by decide +kernel
theorem dL_law_930 : decode cL_law 930 = .ok (.aload_n 2, 1) := by decide +kernel
theorem dL_law_931 : decode cL_law 931 = .ok (.aload_n 0, 1) := by decide +kernel
theorem dL_law_932 : decode cL_law 932 = .ok (.iload_n 3, 1) := by decide +kernel
theorem dL_law_933 : decode cL_law 933 = .ok (.iconst 1, 1) := by decide +kernel
theorem dL_law_934 : decode cL_law 934 = .ok (.iadd, 1) := by decide +kernel
theorem dL_law_935 : decode cL_law 935 = .ok (.iaload, 1) := by decide +kernel
theorem dL_law_936 : decode cL_law 936 = .ok (.invokevirtual 131, 3) := by decide +kernel
theorem dL_law_939 : decode cL_law 939 = .ok (.if_icmp .eq 51, 3) := by decide +kernel
theorem dL_law_942 : decode cL_law 942 = .ok (.iconst 0, 1) := by decide +kernel
theorem dL_law_943 : decode cL_law 943 = .ok (.ireturn, 1) := by decide +kernel
theorem dL_law_944 : decode cL_law 944 = .ok (.aload_n 1, 1) := by decide +kernel
theorem dL_law_945 : decode cL_law 945 = .ok (.aload_n 0, 1) := by decide +kernel
theorem dL_law_946 : decode cL_law 946 = .ok (.iload_n 3, 1) := by decide +kernel
theorem dL_law_947 : decode cL_law 947 = .ok (.iconst 1, 1) := by decide +kernel
theorem dL_law_948 : decode cL_law 948 = .ok (.iadd, 1) := by decide +kernel
theorem dL_law_949 : decode cL_law 949 = .ok (.iaload, 1) := by decide +kernel
theorem dL_law_950 : decode cL_law 950 = .ok (.invokevirtual 132, 3) := by decide +kernel
theorem dL_law_953 : decode cL_law 953 = .ok (.aload_n 2, 1) := by decide +kernel
theorem dL_law_954 : decode cL_law 954 = .ok (.aload_n 0, 1) := by decide +kernel
theorem dL_law_955 : decode cL_law 955 = .ok (.iload_n 3, 1) := by decide +kernel
theorem dL_law_956 : decode cL_law 956 = .ok (.iconst 1, 1) := by decide +kernel
theorem dL_law_957 : decode cL_law 957 = .ok (.iadd, 1) := by decide +kernel
theorem dL_law_958 : decode cL_law 958 = .ok (.iaload, 1) := by decide +kernel
theorem dL_law_959 : decode cL_law 959 = .ok (.invokevirtual 135, 3) := by decide +kernel
theorem dL_law_962 : decode cL_law 962 = .ok (.if_icmp .eq 28, 3) := by decide +kernel
theorem dL_law_965 : decode cL_law 965 = .ok (.iconst 0, 1) := by decide +kernel
theorem dL_law_966 : decode cL_law 966 = .ok (.ireturn, 1) := by decide +kernel
theorem dL_law_967 : decode cL_law 967 = .ok (.aload_n 1, 1) := by decide +kernel
theorem dL_law_968 : decode cL_law 968 = .ok (.aload_n 0, 1) := by decide +kernel
theorem dL_law_969 : decode cL_law 969 = .ok (.iload_n 3, 1) := by decide +kernel
theorem dL_law_970 : decode cL_law 970 = .ok (.iconst 1, 1) := by decide +kernel
theorem dL_law_971 : decode cL_law 971 = .ok (.iadd, 1) := by decide +kernel
theorem dL_law_972 : decode cL_law 972 = .ok (.iaload, 1) := by decide +kernel
theorem dL_law_973 : decode cL_law 973 = .ok (.invokevirtual 136, 3) := by decide +kernel
theorem dL_law_976 : decode cL_law 976 = .ok (.aload_n 2, 1) := by decide +kernel
theorem dL_law_977 : decode cL_law 977 = .ok (.aload_n 0, 1) := by decide +kernel
theorem dL_law_978 : decode cL_law 978 = .ok (.iload_n 3, 1) := by decide +kernel
theorem dL_law_979 : decode cL_law 979 = .ok (.iconst 1, 1) := by decide +kernel
theorem dL_law_980 : decode cL_law 980 = .ok (.iadd, 1) := by decide +kernel
theorem dL_law_981 : decode cL_law 981 = .ok (.iaload, 1) := by decide +kernel
theorem dL_law_982 : decode cL_law 982 = .ok (.invokevirtual 139, 3) := by decide +kernel
theorem dL_law_985 : decode cL_law 985 = .ok (.if_icmp .eq 5, 3) := by decide +kernel
theorem dL_law_988 : decode cL_law 988 = .ok (.iconst 0, 1) := by decide +kernel
theorem dL_law_989 : decode cL_law 989 = .ok (.ireturn, 1) := by decide +kernel
theorem dL_law_990 : decode cL_law 990 = .ok (.iinc 3 4, 3) := by decide +kernel
theorem dL_law_993 : decode cL_law 993 = .ok (.goto (-975), 3) := by decide +kernel
theorem dL_law_996 : decode cL_law 996 = .ok (.iconst 1, 1) := by decide +kernel
theorem dL_law_997 : decode cL_law 997 = .ok (.ireturn, 1) := by decide +kernel
end
section
/-! ONE WORLD OF PLACES: a heap of objects and arrays whose shape is known, its numbers as a memory of integers. Rows over it. -/
abbrev zMem : Type := Nat → Nat → Int
abbrev zF : Type := Nat ⊕ Option Nat
abbrev zE : Type := (Bool × Nat) ⊕ (Nat × List zF)
abbrev zG : Type := va_G × ClassId × ClassId
abbrev zR (a : Int) : Prop := -2147483648 ≤ a ∧ a ≤ 2147483647
def zi (z : Int) : Int32 := Int32.ofInt z
def zl (z : Int) : Int64 := Int64.ofInt z
def zfv (ad : Nat → Nat) (t : zF) (z : Int) : Value := match t with
  | .inl 0 => .int (zi z)
  | .inl (_ + 1) => .long (zl z)
  | .inr none => .null
  | .inr (some k) => .ref (ad k)
def zce (g : zG) (ad : Nat → Nat) (e : zE) (f : Nat → Int) : va_E := match e with
  | .inl (false, n) => .inl (g.2.1, n, .inl (fun j => zi (f j)))
  | .inl (true, n) => .inl (g.2.2, n, .inl (fun j => zi (f j)))
  | .inr (ci, fs) => .inr (ci, fs.mapIdx (fun j t => zfv ad t (f j)))
def zw (g : zG) (ad : Nat → Nat) (sh : List zE) (μ : zMem) : va_W := sh.mapIdx (fun k e => (ad k, zce g ad e (μ k)))
def zu1 (f : Nat → Int) (i : Nat) (v : Int) : Nat → Int := fun j => if j = i then v else f j
def zup (μ : zMem) (k : Nat) (f : Nat → Int) : zMem := fun j => if j = k then f else μ j
theorem zu1_eq (f : Nat → Int) (i : Nat) (v : Int) : zu1 f i v i = v := by simp [zu1]
theorem zu1_ne (f : Nat → Int) {i j : Nat} (v : Int) (h : j ≠ i) : zu1 f i v j = f j := by simp [zu1, h]
theorem zup_eq (μ : zMem) (k : Nat) (f : Nat → Int) : zup μ k f k = f := by simp [zup]
theorem zup_ne (μ : zMem) {k j : Nat} (f : Nat → Int) (h : j ≠ k) : zup μ k f j = μ j := by simp [zup, h]
theorem zw_at {g : zG} {ad : Nat → Nat} {sh : List zE} {μ : zMem} {k : Nat} {e : zE} (h : sh[k]? = some e) : (zw g ad sh μ)[k]? = some (ad k, zce g ad e (μ k)) := by
  simp [zw, List.getElem?_mapIdx, h]
theorem zw_inv {g : zG} {ad : Nat → Nat} {sh : List zE} {μ : zMem} {k : Nat} {q : Nat × va_E} (h : (zw g ad sh μ)[k]? = some q) : ∃ e, sh[k]? = some e ∧ q = (ad k, zce g ad e (μ k)) := by
  simp only [zw, List.getElem?_mapIdx, Option.map_eq_some_iff] at h
  obtain ⟨e, h1, h2⟩ := h
  exact ⟨e, h1, h2.symm⟩
theorem zw_set {g : zG} {ad : Nat → Nat} {sh : List zE} {μ : zMem} {k : Nat} {e : zE} (h : sh[k]? = some e) (f : Nat → Int) : (zw g ad sh μ).set k (ad k, zce g ad e f) = zw g ad sh (zup μ k f) := by
  apply List.ext_getElem?
  intro i
  obtain ⟨hl, he⟩ := List.getElem?_eq_some_iff.mp h
  rw [List.getElem?_set]
  by_cases hi : k = i
  · subst hi
    simp [zw, List.getElem?_mapIdx, hl, zup, he]
  · simp [hi, zw, List.getElem?_mapIdx, zup, Ne.symm hi]
theorem zD_mem {A : Nat → Prop} {g : zG} {ad : Nat → Nat} {sh : List zE} {μ : zMem} (μ' : zMem) (h : va_D A (zw g ad sh μ)) : va_D A (zw g ad sh μ') := by
  have tr : ∀ (k : Nat) (q : Nat × va_E), (zw g ad sh μ')[k]? = some q → ∃ q', (zw g ad sh μ)[k]? = some q' ∧ q'.1 = q.1 := by
    intro k q hq
    obtain ⟨e, h1, rfl⟩ := zw_inv hq
    exact ⟨_, zw_at h1, rfl⟩
  refine ⟨fun i j p q hp hq e => ?_, fun k q hq => ?_⟩
  · obtain ⟨p', a1, a2⟩ := tr i p hp
    obtain ⟨q', b1, b2⟩ := tr j q hq
    exact h.1 i j p' q' a1 b1 (by rw [a2, b2, e])
  · obtain ⟨q', a1, a2⟩ := tr k q hq
    rw [← a2]
    exact h.2 k q' a1
theorem zD_at {A : Nat → Prop} {g : zG} {ad : Nat → Nat} {sh : List zE} {μ : zMem} (h : va_D A (zw g ad sh μ)) {k : Nat} (hk : k < sh.length) : A (ad k) := h.2 k _ (zw_at (List.getElem?_eq_getElem hk))
-- numbers
theorem zi_toInt {a : Int} (h : zR a) : (zi a).toInt = a := Int32.toInt_ofInt_of_le (by have := h.1; omega) (by have := h.2; omega)
theorem zi_le {a b : Int} (ha : zR a) (hb : zR b) : zi a ≤ zi b ↔ a ≤ b := by rw [Int32.le_iff_toInt_le, zi_toInt ha, zi_toInt hb]
theorem zi_lt {a b : Int} (ha : zR a) (hb : zR b) : zi a < zi b ↔ a < b := by rw [Int32.lt_iff_toInt_lt, zi_toInt ha, zi_toInt hb]
theorem zi_eq {a b : Int} (ha : zR a) (hb : zR b) : zi a = zi b ↔ a = b := by rw [← Int32.toInt_inj, zi_toInt ha, zi_toInt hb]
theorem zi_add (a b : Int) : zi a + zi b = zi (a + b) := (Int32.ofInt_add a b).symm
theorem zi_sub (a b : Int) : zi a - zi b = zi (a - b) := (Int32.ofInt_sub a b).symm
theorem zi_mul (a b : Int) : zi a * zi b = zi (a * b) := (Int32.ofInt_mul a b).symm
theorem zi_neg (a : Int) : - zi a = zi (-a) := (Int32.ofInt_neg a).symm
theorem zi_of (x : Int32) : x = zi x.toInt := (Int32.ofInt_toInt x).symm
theorem zi_rg (x : Int32) : zR x.toInt := ⟨by have := Int32.le_toInt x; omega, by have := Int32.toInt_lt x; omega⟩
theorem zi_nat (n : Nat) : zi (n : Int) = nI n := Int32.ofInt_eq_ofNat
theorem zi_clamp {a : Int} {j : Nat} (h : a = (j : Int)) (hj : j < 2147483648) : (zi a).toNatClampNeg = j := by
  subst h
  rw [zi_nat]
  exact nI_clamp (by omega)
theorem zi_in {a : Int} {j n : Nat} (h : a = (j : Int)) (hj : j < n) (hn : n ≤ 100000) : vp_in (zi a) n := by
  subst h
  rw [zi_nat]
  exact vp_in_nI hj (by omega)
theorem zi_tdiv {a b : Int} (ha : zR a) (hb : zR b) (h0 : 0 < b) : zi a / zi b = zi (a.tdiv b) := by
  have hne : zi b ≠ -1 := fun h => by
    have := congrArg Int32.toInt h
    rw [zi_toInt hb] at this
    have h1 : (-1 : Int32).toInt = -1 := rfl
    omega
  have hr : zR (a.tdiv b) := by
    have h1 : (a.tdiv b).natAbs ≤ a.natAbs := by rw [Int.natAbs_tdiv]; exact Nat.div_le_self _ _
    by_cases hn : a = -2147483648
    · constructor
      · omega
      · have h2 : (0 : Int) ≤ (2147483648 : Int).tdiv b := Int.tdiv_nonneg (by decide) (by omega)
        have h3 : a.tdiv b = -((2147483648 : Int).tdiv b) := by rw [hn, ← Int.neg_tdiv]
        omega
    · constructor <;> omega
  rw [← Int32.toInt_inj, Int32.toInt_div_of_ne_right _ _ hne, zi_toInt ha, zi_toInt hb, zi_toInt hr]
theorem zl_toInt {a : Int} (h : -9223372036854775808 ≤ a ∧ a ≤ 9223372036854775807) : (zl a).toInt = a := Int64.toInt_ofInt_of_le (by have := h.1; omega) (by have := h.2; omega)
theorem zl_add (a b : Int) : zl a + zl b = zl (a + b) := (Int64.ofInt_add a b).symm
theorem zl_sub (a b : Int) : zl a - zl b = zl (a - b) := (Int64.ofInt_sub a b).symm
theorem zl_mul (a b : Int) : zl a * zl b = zl (a * b) := (Int64.ofInt_mul a b).symm
theorem zl_of (x : Int64) : x = zl x.toInt := (Int64.ofInt_toInt x).symm
theorem zl_i (a : Int) : (zl a).toInt32 = zi a := Int64.toInt32_ofInt
theorem zi_l {a : Int} (h : zR a) : (zi a).toInt64 = zl a := by
  show Int64.ofInt (zi a).toInt = zl a
  rw [zi_toInt h]
  rfl
-- the tables' words
def zn : Cond → Bool
  | .fieldLinkNest .. => true
  | .methodLinkNest .. => true
  | _ => false
def lw_g : List Cond := lw_tbl.filter goodWord
def lw_n : List Cond := lw_tbl.filter zn
theorem zg_in {w : Cond} (i : Nat) (h : lw_tbl[i]? = some w) (hg : goodWord w = true) : w ∈ lw_g := List.mem_filter.mpr ⟨List.mem_of_getElem? h, hg⟩
theorem zn_in {w : Cond} (i : Nat) (h : lw_tbl[i]? = some w) (hg : zn w = true) : w ∈ lw_n := List.mem_filter.mpr ⟨List.mem_of_getElem? h, hg⟩
theorem zn_tab {w : Cond} (h : w ∈ lw_n) : w.onTables = true := by
  have h1 := (List.mem_filter.mp h).2
  cases w <;> first | rfl | cases h1
theorem zn_warm {s U : State} (hW : s.WarmedH U.vm) (h : ∀ w ∈ lw_n, va_Nw w s) : ∀ w ∈ lw_n, va_Nw w U := by
  intro w hw
  have h1 := (List.mem_filter.mp hw).2
  have h2 := h w hw
  cases w <;> first | exact va_Nw.warmF hW h2 | exact va_Nw.warmM hW h2 | cases h1
theorem zg_good {y : MethodName} {cc : ByteArray} {n : Nat} {ret : Option FieldType} (h : Cond.code y cc n ret ∈ lw_g) : GoodIn lw_g (.code y cc n ret :: lw_g) := by
  intro w hw
  have h1 : w ∈ lw_g := (List.mem_cons.mp hw).elim (fun e => e ▸ h) id
  exact ⟨h1, good_of_word (List.mem_filter.mp h1).2⟩
-- the judgement
abbrev zX : Type := Program × Launch × Env × Room × State × MethodId × Array Value × List Frame × Method × Code × zG × (Nat → Prop) × Heap × (Option Value → (Nat → Nat) → List zE → zMem → Prop) × Nat × Nat
abbrev zT (g : zG) : List (ClassId × FieldType) := [(g.2.1, .int), (g.2.2, .boolean)]
def zQ (g : zG) (A : Nat → Prop) (Post : Option Value → (Nat → Nat) → List zE → zMem → Prop) : Array Value → State → Outcome → State → Prop := fun _ st oc t =>
  (∃ (v : Option Value) (ad : Nat → Nat) (sh : List zE) (μ : zMem), oc = .returned v ∧ Post v ad sh μ ∧ va_P g.1 vwCl (zw g ad sh μ) t.heap ∧ va_D A (zw g ad sh μ)) ∧ va_F A st t
def zV (χ : zX) (nL : Nat) (ad : Nat → Nat) (sh : List zE) (n1 n2 pc : Nat) (lv : List (Nat × Value)) (st : List Value) (μ : zMem) : Prop :=
  match χ with
  | (p, l, e, R, s, m, args, below, meth, c, g, A, H0, Post, rc, rs) => ∀ (H : Heap) (locs : List Loc) (ls : Array Slot), va_P g.1 vwCl (zw g ad sh μ) H → va_D A (zw g ad sh μ) → va_S A H0 H locs → lv_has ls nL lv →
      W p l e R s m args below meth c H locs n1 n2 (MQ below (zQ g A Post) args s rc rs A) (F0 m pc ls st)
def zOk (χ : zX) (cc : ByteArray) (own : String) (nL d : Nat) (ret : Option FieldType) : Prop :=
  match χ with
  | (p, l, e, R, s, m, args, below, meth, c, g, A, H0, Post, rc, rs) => p.tables.exec = Jvm.exec ∧ c.code = cc ∧ c.maxLocals = nL ∧ s.vm.findClass own = some m.cls ∧ (∀ w ∈ lw_g, w.before args s = true) ∧ (∀ w ∈ lw_n, va_Nw w s) ∧
      va_K g.1 vwCl (zT g) s ∧ meth.locks = false ∧ meth.sig.returnType = ret ∧ H0 = s.heap ∧ (∀ q, H0.size ≤ q → A q) ∧ R.frames = d ∧ 36 * d ≤ R.locals ∧ rc ≤ R.cells ∧ rs ≤ R.slots
def zRet (χ : zX) (ad : Nat → Nat) (sh : List zE) (Po : Option Value → zMem → Prop) : Prop :=
  match χ with
  | (p, l, e, R, s, m, args, below, meth, c, g, A, H0, Post, rc, rs) => rc = 0 ∧ rs = 0 ∧ ∀ v μ, Po v μ → Post v ad sh μ
-- a contract
def zA (ad : Nat → Nat) (n sz : Nat) : Nat → Prop := fun q => (∃ k, k < n ∧ ad k = q) ∨ sz ≤ q
def zU (g : zG) (ad : Nat → Nat) (sh : List zE) (μ : zMem) (U : State) : Prop := va_P g.1 vwCl (zw g ad sh μ) U.heap ∧ va_K g.1 vwCl (zT g) U ∧ va_D (fun _ => True) (zw g ad sh μ) ∧ ∀ w ∈ lw_n, va_Nw w U
def zCon (l : Launch) (g : zG) (y : MethodName) (cc : ByteArray) (maxL : Nat) (ret : Option FieldType) (d : Nat) (ad : Nat → Nat) (sh : List zE) (as : List Value) (μ : zMem) (Po : Option Value → zMem → Prop) : Prop :=
  ∀ sz : Nat, Met l y (.code y cc maxL ret :: lw_g) { frames := d, cells := 0, slots := 0, locals := 36 * d } (va_Pc as (fun U => U.heap.size = sz ∧ zU g ad sh μ U))
    (zQ g (zA ad sh.length sz) (fun v ad' sh' μ' => ad' = ad ∧ sh' = sh ∧ Po v μ')) 0 0 (zA ad sh.length sz)
theorem zU_blind {g : zG} {ad : Nat → Nat} {sh : List zE} {μ : zMem} {as : List Value} {sz : Nat} : FrameBlind (va_Pc as (fun U => U.heap.size = sz ∧ zU g ad sh μ U)) := by
  intro a U f mk q
  obtain ⟨q0, q1, qP, qK, qD, qN⟩ := q
  exact ⟨q0, q1, qP, va_K.moved (u := U) (U := U.calling f mk a) (Vm.Alike.refl U.vm) qK, qD, fun w hw => va_Nw.same (u := U) (U := U.calling f mk a) (zn_tab hw) rfl (qN w hw)⟩
theorem zA_D {ad : Nat → Nat} {g : zG} {sh : List zE} {μ : zMem} {sz : Nat} {B : Nat → Prop} (h : va_D B (zw g ad sh μ)) : va_D (zA ad sh.length sz) (zw g ad sh μ) := by
  refine h.weaken (fun k q hq _ => ?_)
  obtain ⟨e, h1, rfl⟩ := zw_inv hq
  exact Or.inl ⟨k, (List.getElem?_eq_some_iff.mp h1).1, rfl⟩
set_option maxHeartbeats 4000000 in
theorem zCon_of {l : Launch} {g : zG} {y : MethodName} {cc : ByteArray} {maxL : Nat} {ret : Option FieldType} {d : Nat} {ad : Nat → Nat} {sh : List zE} {as : List Value} {μ : zMem} {Po : Option Value → zMem → Prop}
    (hpl : plainName y.cls = true) (hlen : (lg_sl as).length ≤ maxL)
    (body : ∀ χ : zX, zOk χ cc y.cls maxL d ret → zRet χ ad sh Po → χ.2.1 = l → χ.2.2.2.2.2.2.2.2.2.2.1 = g → zV χ maxL ad sh 0 0 0 (lv_args 0 as) [] μ) : zCon l g y cc maxL ret d ad sh as μ Po := by
  intro sz
  refine Met.ofW (cc := cc) (maxL := maxL) (ret := ret) hpl rfl ?_
  intro p e s m args below meth c s₁ B hml hv
  obtain ⟨rfl, hsz, hP, hK, hD0, hN⟩ := hv
  have hts := atoms_spec (ws := Cond.code y cc maxL ret :: lw_g) B.pre
  have hown : s.vm.findClass y.cls = some m.cls := findClass_of_methodNamed B.named
  subst hsz
  have hl := lv_entry as (n := maxL) hlen
  rw [lg_entry_eq]
  exact body (p, l, e, _, s, m, _, below, meth, c, g, zA ad sh.length s.heap.size, s.heap, _, 0, 0)
    ⟨B.exec, B.bytes, hml, hown, fun w hw => hts w (List.mem_cons_of_mem _ hw), hN, hK, B.notSynchronized, B.returns, rfl, fun q h => Or.inr h, rfl, Nat.le_refl _, Nat.zero_le _, Nat.zero_le _⟩
    ⟨rfl, rfl, fun v μ' h => ⟨rfl, rfl, h⟩⟩ rfl rfl s.heap [] _ hP (zA_D hD0) va_S.rf hl
end
section
-- locals
def zins (k : Nat) (v : Value) : List (Nat × Value) → List (Nat × Value)
  | [] => [(k, v)]
  | q :: t => if k < q.1 then (k, v) :: q :: t else q :: zins k v t
theorem zins_mem {k : Nat} {v : Value} : ∀ {l : List (Nat × Value)} {q : Nat × Value}, q ∈ zins k v l → q = (k, v) ∨ q ∈ l
  | [], q, h => by simp [zins] at h; exact Or.inl h
  | r :: t, q, h => by
    unfold zins at h
    split at h
    · rcases List.mem_cons.mp h with h | h
      · exact Or.inl h
      · exact Or.inr h
    · rcases List.mem_cons.mp h with h | h
      · exact Or.inr (h ▸ List.mem_cons_self)
      · rcases zins_mem h with h | h
        · exact Or.inl h
        · exact Or.inr (List.mem_cons_of_mem _ h)
def zst1 (k : Nat) (v : Value) (lv : List (Nat × Value)) : List (Nat × Value) := zins k v (lv.filter (fun q => !(q.1 == k) && !(q.1 + 1 == k && q.2.category == 2)))
def zst2 (k : Nat) (v : Value) (lv : List (Nat × Value)) : List (Nat × Value) := zins k v (lv.filter (fun q => !(q.1 == k) && (!(q.1 == k + 1) && !(q.1 + 1 == k && q.2.category == 2))))
theorem zins_has {ls : Array Slot} {nL k : Nat} {v : Value} {l : List (Nat × Value)} (h : lv_has ls nL ((k, v) :: l)) : lv_has ls nL (zins k v l) := by
  refine ⟨h.1, h.2.1, fun q hq => h.2.2 q ?_⟩
  rcases zins_mem hq with h | h
  · exact h ▸ List.mem_cons_self
  · exact List.mem_cons_of_mem _ h
def zlu (k : Nat) : List (Nat × Value) → Option Value
  | [] => none
  | q :: t => if q.1 = k then some q.2 else zlu k t
theorem zlu_mem {k : Nat} {v : Value} : ∀ {l : List (Nat × Value)}, zlu k l = some v → (k, v) ∈ l
  | [], h => by cases h
  | r :: t, h => by
    unfold zlu at h
    split at h
    · rename_i e
      cases h
      subst e
      exact List.mem_cons_self
    · exact List.mem_cons_of_mem _ (zlu_mem h)
theorem zlk {ls : Array Slot} {nL k : Nat} {v : Value} {l : List (Nat × Value)} (hl : lv_has ls nL l) (h : zlu k l = some v) : ls[k]? = some (.val v) := hl.2.2 _ (zlu_mem h)
-- fewer or other locals
theorem z_sub {χ : zX} {nL : Nat} {ad : Nat → Nat} {sh : List zE} {n1 n2 pc : Nat} {lv lv' : List (Nat × Value)} {st : List Value} {μ : zMem} (h : ∀ q ∈ lv', q ∈ lv) (kk : zV χ nL ad sh n1 n2 pc lv' st μ) : zV χ nL ad sh n1 n2 pc lv st μ := by
  obtain ⟨p, l, e, R, s, m, args, below, meth, c, g, A, H0, Post, rc, rs⟩ := χ
  intro H locs ls hP hD hS hl
  exact kk H locs ls hP hD hS ⟨hl.1, hl.2.1, fun q hq => hl.2.2 q (h q hq)⟩
theorem z_iconst {χ : zX} {cc : ByteArray} {own : String} {nL d : Nat} {ret : Option FieldType} {ad : Nat → Nat} {sh : List zE} {n1 n2 pc : Nat} {lv : List (Nat × Value)} {st : List Value} {μ : zMem} {n : Int} (K : zOk χ cc own nL d ret) (dg : decode cc pc = .ok (.iconst n, 1)) 
    (kk : zV χ nL ad sh n1 n2 (pc + 1) lv (.int (zi n) :: st) μ) : zV χ nL ad sh n1 n2 pc lv st μ := by
  obtain ⟨p, l, e, R, s, m, args, below, meth, c, g, A, H0, Post, rc, rs⟩ := χ
  obtain ⟨hx, hb, hml, ho, ht, hn, hK, hlk, hret, hH, hA, hfr, hlo, hrc, hrs⟩ := K
  intro H locs ls hP hD hS hl
  exact lv_iconst hx hb dg rfl (kk H locs ls hP hD hS hl)
theorem z_bipush {χ : zX} {cc : ByteArray} {own : String} {nL d : Nat} {ret : Option FieldType} {ad : Nat → Nat} {sh : List zE} {n1 n2 pc : Nat} {lv : List (Nat × Value)} {st : List Value} {μ : zMem} {n : Int} (K : zOk χ cc own nL d ret) (dg : decode cc pc = .ok (.bipush n, 2)) (hv : (Int8.ofInt n).toInt32 = zi n)
    (kk : zV χ nL ad sh n1 n2 (pc + 2) lv (.int (zi n) :: st) μ) : zV χ nL ad sh n1 n2 pc lv st μ := by
  obtain ⟨p, l, e, R, s, m, args, below, meth, c, g, A, H0, Post, rc, rs⟩ := χ
  obtain ⟨hx, hb, hml, ho, ht, hn, hK, hlk, hret, hH, hA, hfr, hlo, hrc, hrs⟩ := K
  intro H locs ls hP hD hS hl
  exact lv_bipush hx hb dg hv (kk H locs ls hP hD hS hl)
theorem z_sipush {χ : zX} {cc : ByteArray} {own : String} {nL d : Nat} {ret : Option FieldType} {ad : Nat → Nat} {sh : List zE} {n1 n2 pc : Nat} {lv : List (Nat × Value)} {st : List Value} {μ : zMem} {n : Int} (K : zOk χ cc own nL d ret) (dg : decode cc pc = .ok (.sipush n, 3)) (hv : (Int16.ofInt n).toInt32 = zi n)
    (kk : zV χ nL ad sh n1 n2 (pc + 3) lv (.int (zi n) :: st) μ) : zV χ nL ad sh n1 n2 pc lv st μ := by
  obtain ⟨p, l, e, R, s, m, args, below, meth, c, g, A, H0, Post, rc, rs⟩ := χ
  obtain ⟨hx, hb, hml, ho, ht, hn, hK, hlk, hret, hH, hA, hfr, hlo, hrc, hrs⟩ := K
  intro H locs ls hP hD hS hl
  exact lv_sipush hx hb dg hv (kk H locs ls hP hD hS hl)
theorem z_lconst {χ : zX} {cc : ByteArray} {own : String} {nL d : Nat} {ret : Option FieldType} {ad : Nat → Nat} {sh : List zE} {n1 n2 pc : Nat} {lv : List (Nat × Value)} {st : List Value} {μ : zMem} {n : Fin 2} {z : Int} (K : zOk χ cc own nL d ret) (dg : decode cc pc = .ok (.lconst n, 1)) (hv : Int64.ofNat (n : Nat) = zl z)
    (kk : zV χ nL ad sh n1 n2 (pc + 1) lv (.long (zl z) :: st) μ) : zV χ nL ad sh n1 n2 pc lv st μ := by
  obtain ⟨p, l, e, R, s, m, args, below, meth, c, g, A, H0, Post, rc, rs⟩ := χ
  obtain ⟨hx, hb, hml, ho, ht, hn, hK, hlk, hret, hH, hA, hfr, hlo, hrc, hrs⟩ := K
  intro H locs ls hP hD hS hl
  exact lv_lconst hx hb dg hv (kk H locs ls hP hD hS hl)
theorem z_ldc2 {χ : zX} {cc : ByteArray} {own : String} {nL d : Nat} {ret : Option FieldType} {ad : Nat → Nat} {sh : List zE} {n1 n2 pc : Nat} {lv : List (Nat × Value)} {st : List Value} {μ : zMem} {i : Nat} {v : Int64} {z : Int} (K : zOk χ cc own nL d ret) (dg : decode cc pc = .ok (.ldc2_w i, 3)) (hc : Cond.constantLong own i v ∈ lw_g) (hv : v = zl z)
    (kk : zV χ nL ad sh n1 n2 (pc + 3) lv (.long (zl z) :: st) μ) : zV χ nL ad sh n1 n2 pc lv st μ := by
  obtain ⟨p, l, e, R, s, m, args, below, meth, c, g, A, H0, Post, rc, rs⟩ := χ
  obtain ⟨hx, hb, hml, ho, ht, hn, hK, hlk, hret, hH, hA, hfr, hlo, hrc, hrs⟩ := K
  intro H locs ls hP hD hS hl
  exact lv_ldc2 hx hb ho (ht _ (hv ▸ hc)) dg (kk H locs ls hP hD hS hl)
theorem z_ldcw {χ : zX} {cc : ByteArray} {own : String} {nL d : Nat} {ret : Option FieldType} {ad : Nat → Nat} {sh : List zE} {n1 n2 pc : Nat} {lv : List (Nat × Value)} {st : List Value} {μ : zMem} {i : Nat} {v : Int32} (K : zOk χ cc own nL d ret) (dg : decode cc pc = .ok (.ldc_w i, 3)) (hc : Cond.constant own i v ∈ lw_g)
    (kk : zV χ nL ad sh n1 n2 (pc + 3) lv (.int v :: st) μ) : zV χ nL ad sh n1 n2 pc lv st μ := by
  obtain ⟨p, l, e, R, s, m, args, below, meth, c, g, A, H0, Post, rc, rs⟩ := χ
  obtain ⟨hx, hb, hml, ho, ht, hn, hK, hlk, hret, hH, hA, hfr, hlo, hrc, hrs⟩ := K
  intro H locs ls hP hD hS hl
  exact lv_ldcw hx hb ho (ht _ hc) dg (kk H locs ls hP hD hS hl)
theorem z_iload_n {χ : zX} {cc : ByteArray} {own : String} {nL d : Nat} {ret : Option FieldType} {ad : Nat → Nat} {sh : List zE} {n1 n2 pc : Nat} {lv : List (Nat × Value)} {st : List Value} {μ : zMem} {k : Fin 4} {x : Int32} (K : zOk χ cc own nL d ret) (dg : decode cc pc = .ok (.iload_n k, 1)) (h : zlu (k : Nat) lv = some (.int x))
    (kk : zV χ nL ad sh n1 n2 (pc + 1) lv (.int x :: st) μ) : zV χ nL ad sh n1 n2 pc lv st μ := by
  obtain ⟨p, l, e, R, s, m, args, below, meth, c, g, A, H0, Post, rc, rs⟩ := χ
  obtain ⟨hx, hb, hml, ho, ht, hn, hK, hlk, hret, hH, hA, hfr, hlo, hrc, hrs⟩ := K
  intro H locs ls hP hD hS hl
  exact lv_iload_n hx hb dg rfl (zlk hl h) (kk H locs ls hP hD hS hl)
theorem z_iload {χ : zX} {cc : ByteArray} {own : String} {nL d : Nat} {ret : Option FieldType} {ad : Nat → Nat} {sh : List zE} {n1 n2 pc : Nat} {lv : List (Nat × Value)} {st : List Value} {μ : zMem} {i : Nat} {x : Int32} (K : zOk χ cc own nL d ret) (dg : decode cc pc = .ok (.iload i, 2)) (h : zlu i lv = some (.int x))
    (kk : zV χ nL ad sh n1 n2 (pc + 2) lv (.int x :: st) μ) : zV χ nL ad sh n1 n2 pc lv st μ := by
  obtain ⟨p, l, e, R, s, m, args, below, meth, c, g, A, H0, Post, rc, rs⟩ := χ
  obtain ⟨hx, hb, hml, ho, ht, hn, hK, hlk, hret, hH, hA, hfr, hlo, hrc, hrs⟩ := K
  intro H locs ls hP hD hS hl
  exact lv_iload hx hb dg (zlk hl h) (kk H locs ls hP hD hS hl)
theorem z_lload_n {χ : zX} {cc : ByteArray} {own : String} {nL d : Nat} {ret : Option FieldType} {ad : Nat → Nat} {sh : List zE} {n1 n2 pc : Nat} {lv : List (Nat × Value)} {st : List Value} {μ : zMem} {k : Fin 4} {x : Int64} (K : zOk χ cc own nL d ret) (dg : decode cc pc = .ok (.lload_n k, 1)) (h : zlu (k : Nat) lv = some (.long x))
    (kk : zV χ nL ad sh n1 n2 (pc + 1) lv (.long x :: st) μ) : zV χ nL ad sh n1 n2 pc lv st μ := by
  obtain ⟨p, l, e, R, s, m, args, below, meth, c, g, A, H0, Post, rc, rs⟩ := χ
  obtain ⟨hx, hb, hml, ho, ht, hn, hK, hlk, hret, hH, hA, hfr, hlo, hrc, hrs⟩ := K
  intro H locs ls hP hD hS hl
  exact lv_lload_n hx hb dg rfl (zlk hl h) (kk H locs ls hP hD hS hl)
theorem z_lload {χ : zX} {cc : ByteArray} {own : String} {nL d : Nat} {ret : Option FieldType} {ad : Nat → Nat} {sh : List zE} {n1 n2 pc : Nat} {lv : List (Nat × Value)} {st : List Value} {μ : zMem} {i : Nat} {x : Int64} (K : zOk χ cc own nL d ret) (dg : decode cc pc = .ok (.lload i, 2)) (h : zlu i lv = some (.long x))
    (kk : zV χ nL ad sh n1 n2 (pc + 2) lv (.long x :: st) μ) : zV χ nL ad sh n1 n2 pc lv st μ := by
  obtain ⟨p, l, e, R, s, m, args, below, meth, c, g, A, H0, Post, rc, rs⟩ := χ
  obtain ⟨hx, hb, hml, ho, ht, hn, hK, hlk, hret, hH, hA, hfr, hlo, hrc, hrs⟩ := K
  intro H locs ls hP hD hS hl
  exact lv_lload hx hb dg (zlk hl h) (kk H locs ls hP hD hS hl)
theorem z_aload_n {χ : zX} {cc : ByteArray} {own : String} {nL d : Nat} {ret : Option FieldType} {ad : Nat → Nat} {sh : List zE} {n1 n2 pc : Nat} {lv : List (Nat × Value)} {st : List Value} {μ : zMem} {k : Fin 4} {x : Nat} (K : zOk χ cc own nL d ret) (dg : decode cc pc = .ok (.aload_n k, 1)) (h : zlu (k : Nat) lv = some (.ref x))
    (kk : zV χ nL ad sh n1 n2 (pc + 1) lv (.ref x :: st) μ) : zV χ nL ad sh n1 n2 pc lv st μ := by
  obtain ⟨p, l, e, R, s, m, args, below, meth, c, g, A, H0, Post, rc, rs⟩ := χ
  obtain ⟨hx, hb, hml, ho, ht, hn, hK, hlk, hret, hH, hA, hfr, hlo, hrc, hrs⟩ := K
  intro H locs ls hP hD hS hl
  exact lv_aload_n hx hb dg rfl (zlk hl h) (kk H locs ls hP hD hS hl)
theorem z_aload {χ : zX} {cc : ByteArray} {own : String} {nL d : Nat} {ret : Option FieldType} {ad : Nat → Nat} {sh : List zE} {n1 n2 pc : Nat} {lv : List (Nat × Value)} {st : List Value} {μ : zMem} {i : Nat} {x : Nat} (K : zOk χ cc own nL d ret) (dg : decode cc pc = .ok (.aload i, 2)) (h : zlu i lv = some (.ref x))
    (kk : zV χ nL ad sh n1 n2 (pc + 2) lv (.ref x :: st) μ) : zV χ nL ad sh n1 n2 pc lv st μ := by
  obtain ⟨p, l, e, R, s, m, args, below, meth, c, g, A, H0, Post, rc, rs⟩ := χ
  obtain ⟨hx, hb, hml, ho, ht, hn, hK, hlk, hret, hH, hA, hfr, hlo, hrc, hrs⟩ := K
  intro H locs ls hP hD hS hl
  exact lv_aload hx hb dg (zlk hl h) (kk H locs ls hP hD hS hl)
theorem z_istore_n {χ : zX} {cc : ByteArray} {own : String} {nL d : Nat} {ret : Option FieldType} {ad : Nat → Nat} {sh : List zE} {n1 n2 pc : Nat} {lv : List (Nat × Value)} {st : List Value} {μ : zMem} {k : Fin 4} {x : Int32} {lv' : List (Nat × Value)} (K : zOk χ cc own nL d ret) (dg : decode cc pc = .ok (.istore_n k, 1)) (hi : (k : Nat) < nL) (hv : zst1 (k : Nat) (.int x) lv = lv')
    (kk : zV χ nL ad sh n1 n2 (pc + 1) lv' st μ) : zV χ nL ad sh n1 n2 pc lv (.int x :: st) μ := by
  obtain ⟨p, l, e, R, s, m, args, below, meth, c, g, A, H0, Post, rc, rs⟩ := χ
  obtain ⟨hx, hb, hml, ho, ht, hn, hK, hlk, hret, hH, hA, hfr, hlo, hrc, hrs⟩ := K
  intro H locs ls hP hD hS hl
  exact lv_istore_n hx hb dg rfl hl hi rfl (fun ls' hl' => kk H locs ls' hP hD hS (hv ▸ zins_has hl'))
theorem z_istore {χ : zX} {cc : ByteArray} {own : String} {nL d : Nat} {ret : Option FieldType} {ad : Nat → Nat} {sh : List zE} {n1 n2 pc : Nat} {lv : List (Nat × Value)} {st : List Value} {μ : zMem} {i : Nat} {x : Int32} {lv' : List (Nat × Value)} (K : zOk χ cc own nL d ret) (dg : decode cc pc = .ok (.istore i, 2)) (hi : i < nL) (hv : zst1 i (.int x) lv = lv')
    (kk : zV χ nL ad sh n1 n2 (pc + 2) lv' st μ) : zV χ nL ad sh n1 n2 pc lv (.int x :: st) μ := by
  obtain ⟨p, l, e, R, s, m, args, below, meth, c, g, A, H0, Post, rc, rs⟩ := χ
  obtain ⟨hx, hb, hml, ho, ht, hn, hK, hlk, hret, hH, hA, hfr, hlo, hrc, hrs⟩ := K
  intro H locs ls hP hD hS hl
  exact lv_istore hx hb dg hl hi rfl (fun ls' hl' => kk H locs ls' hP hD hS (hv ▸ zins_has hl'))
theorem z_astore_n {χ : zX} {cc : ByteArray} {own : String} {nL d : Nat} {ret : Option FieldType} {ad : Nat → Nat} {sh : List zE} {n1 n2 pc : Nat} {lv : List (Nat × Value)} {st : List Value} {μ : zMem} {k : Fin 4} {x : Nat} {lv' : List (Nat × Value)} (K : zOk χ cc own nL d ret) (dg : decode cc pc = .ok (.astore_n k, 1)) (hi : (k : Nat) < nL) (hv : zst1 (k : Nat) (.ref x) lv = lv')
    (kk : zV χ nL ad sh n1 n2 (pc + 1) lv' st μ) : zV χ nL ad sh n1 n2 pc lv (.ref x :: st) μ := by
  obtain ⟨p, l, e, R, s, m, args, below, meth, c, g, A, H0, Post, rc, rs⟩ := χ
  obtain ⟨hx, hb, hml, ho, ht, hn, hK, hlk, hret, hH, hA, hfr, hlo, hrc, hrs⟩ := K
  intro H locs ls hP hD hS hl
  exact lv_astore_n hx hb dg rfl hl hi rfl (fun ls' hl' => kk H locs ls' hP hD hS (hv ▸ zins_has hl'))
theorem z_astore {χ : zX} {cc : ByteArray} {own : String} {nL d : Nat} {ret : Option FieldType} {ad : Nat → Nat} {sh : List zE} {n1 n2 pc : Nat} {lv : List (Nat × Value)} {st : List Value} {μ : zMem} {i : Nat} {x : Nat} {lv' : List (Nat × Value)} (K : zOk χ cc own nL d ret) (dg : decode cc pc = .ok (.astore i, 2)) (hi : i < nL) (hv : zst1 i (.ref x) lv = lv')
    (kk : zV χ nL ad sh n1 n2 (pc + 2) lv' st μ) : zV χ nL ad sh n1 n2 pc lv (.ref x :: st) μ := by
  obtain ⟨p, l, e, R, s, m, args, below, meth, c, g, A, H0, Post, rc, rs⟩ := χ
  obtain ⟨hx, hb, hml, ho, ht, hn, hK, hlk, hret, hH, hA, hfr, hlo, hrc, hrs⟩ := K
  intro H locs ls hP hD hS hl
  exact lv_astore hx hb dg hl hi rfl (fun ls' hl' => kk H locs ls' hP hD hS (hv ▸ zins_has hl'))
theorem z_lstore_n {χ : zX} {cc : ByteArray} {own : String} {nL d : Nat} {ret : Option FieldType} {ad : Nat → Nat} {sh : List zE} {n1 n2 pc : Nat} {lv : List (Nat × Value)} {st : List Value} {μ : zMem} {k : Fin 4} {x : Int64} {lv' : List (Nat × Value)} (K : zOk χ cc own nL d ret) (dg : decode cc pc = .ok (.lstore_n k, 1)) (hi : (k : Nat) + 1 < nL) (hv : zst2 (k : Nat) (.long x) lv = lv')
    (kk : zV χ nL ad sh n1 n2 (pc + 1) lv' st μ) : zV χ nL ad sh n1 n2 pc lv (.long x :: st) μ := by
  obtain ⟨p, l, e, R, s, m, args, below, meth, c, g, A, H0, Post, rc, rs⟩ := χ
  obtain ⟨hx, hb, hml, ho, ht, hn, hK, hlk, hret, hH, hA, hfr, hlo, hrc, hrs⟩ := K
  intro H locs ls hP hD hS hl
  exact lv_lstore_n hx hb dg rfl hl hi rfl (fun ls' hl' => kk H locs ls' hP hD hS (hv ▸ zins_has hl'))
theorem z_lstore {χ : zX} {cc : ByteArray} {own : String} {nL d : Nat} {ret : Option FieldType} {ad : Nat → Nat} {sh : List zE} {n1 n2 pc : Nat} {lv : List (Nat × Value)} {st : List Value} {μ : zMem} {i : Nat} {x : Int64} {lv' : List (Nat × Value)} (K : zOk χ cc own nL d ret) (dg : decode cc pc = .ok (.lstore i, 2)) (hi : i + 1 < nL) (hv : zst2 i (.long x) lv = lv')
    (kk : zV χ nL ad sh n1 n2 (pc + 2) lv' st μ) : zV χ nL ad sh n1 n2 pc lv (.long x :: st) μ := by
  obtain ⟨p, l, e, R, s, m, args, below, meth, c, g, A, H0, Post, rc, rs⟩ := χ
  obtain ⟨hx, hb, hml, ho, ht, hn, hK, hlk, hret, hH, hA, hfr, hlo, hrc, hrs⟩ := K
  intro H locs ls hP hD hS hl
  exact lv_lstore hx hb dg hl hi rfl (fun ls' hl' => kk H locs ls' hP hD hS (hv ▸ zins_has hl'))
theorem z_iinc {χ : zX} {cc : ByteArray} {own : String} {nL d : Nat} {ret : Option FieldType} {ad : Nat → Nat} {sh : List zE} {n1 n2 pc : Nat} {lv : List (Nat × Value)} {st : List Value} {μ : zMem} {i : Nat} {n a : Int} {lv' : List (Nat × Value)} (K : zOk χ cc own nL d ret) (dg : decode cc pc = .ok (.iinc i n, 3)) (h : zlu i lv = some (.int (zi a))) (hi : i < nL) (hv : zst1 i (.int (zi (a + n))) lv = lv')
    (kk : zV χ nL ad sh n1 n2 (pc + 3) lv' st μ) : zV χ nL ad sh n1 n2 pc lv st μ := by
  obtain ⟨p, l, e, R, s, m, args, below, meth, c, g, A, H0, Post, rc, rs⟩ := χ
  obtain ⟨hx, hb, hml, ho, ht, hn, hK, hlk, hret, hH, hA, hfr, hlo, hrc, hrs⟩ := K
  intro H locs ls hP hD hS hl
  obtain ⟨k, hk⟩ := List.getElem?_of_mem (zlu_mem h)
  exact lv_iinc hx hb dg hl hk (zi_add a n) hi rfl (fun ls' hl' => kk H locs ls' hP hD hS (hv ▸ zins_has hl'))
theorem z_iadd {χ : zX} {cc : ByteArray} {own : String} {nL d : Nat} {ret : Option FieldType} {ad : Nat → Nat} {sh : List zE} {n1 n2 pc : Nat} {lv : List (Nat × Value)} {st : List Value} {μ : zMem} {a b : Int} (K : zOk χ cc own nL d ret) (dg : decode cc pc = .ok (.iadd, 1)) 
    (kk : zV χ nL ad sh n1 n2 (pc + 1) lv (.int (zi (a + b)) :: st) μ) : zV χ nL ad sh n1 n2 pc lv (.int (zi b) :: .int (zi a) :: st) μ := by
  obtain ⟨p, l, e, R, s, m, args, below, meth, c, g, A, H0, Post, rc, rs⟩ := χ
  obtain ⟨hx, hb, hml, ho, ht, hn, hK, hlk, hret, hH, hA, hfr, hlo, hrc, hrs⟩ := K
  intro H locs ls hP hD hS hl
  exact lv_iadd hx hb dg (by rw [zi_add]; exact kk H locs ls hP hD hS hl)
theorem z_isub {χ : zX} {cc : ByteArray} {own : String} {nL d : Nat} {ret : Option FieldType} {ad : Nat → Nat} {sh : List zE} {n1 n2 pc : Nat} {lv : List (Nat × Value)} {st : List Value} {μ : zMem} {a b : Int} (K : zOk χ cc own nL d ret) (dg : decode cc pc = .ok (.isub, 1)) 
    (kk : zV χ nL ad sh n1 n2 (pc + 1) lv (.int (zi (a - b)) :: st) μ) : zV χ nL ad sh n1 n2 pc lv (.int (zi b) :: .int (zi a) :: st) μ := by
  obtain ⟨p, l, e, R, s, m, args, below, meth, c, g, A, H0, Post, rc, rs⟩ := χ
  obtain ⟨hx, hb, hml, ho, ht, hn, hK, hlk, hret, hH, hA, hfr, hlo, hrc, hrs⟩ := K
  intro H locs ls hP hD hS hl
  exact lv_isub hx hb dg (by rw [zi_sub]; exact kk H locs ls hP hD hS hl)
theorem z_imul {χ : zX} {cc : ByteArray} {own : String} {nL d : Nat} {ret : Option FieldType} {ad : Nat → Nat} {sh : List zE} {n1 n2 pc : Nat} {lv : List (Nat × Value)} {st : List Value} {μ : zMem} {a b : Int} (K : zOk χ cc own nL d ret) (dg : decode cc pc = .ok (.imul, 1)) 
    (kk : zV χ nL ad sh n1 n2 (pc + 1) lv (.int (zi (a * b)) :: st) μ) : zV χ nL ad sh n1 n2 pc lv (.int (zi b) :: .int (zi a) :: st) μ := by
  obtain ⟨p, l, e, R, s, m, args, below, meth, c, g, A, H0, Post, rc, rs⟩ := χ
  obtain ⟨hx, hb, hml, ho, ht, hn, hK, hlk, hret, hH, hA, hfr, hlo, hrc, hrs⟩ := K
  intro H locs ls hP hD hS hl
  exact lv_imul hx hb dg (by rw [zi_mul]; exact kk H locs ls hP hD hS hl)
theorem z_ladd {χ : zX} {cc : ByteArray} {own : String} {nL d : Nat} {ret : Option FieldType} {ad : Nat → Nat} {sh : List zE} {n1 n2 pc : Nat} {lv : List (Nat × Value)} {st : List Value} {μ : zMem} {a b : Int} (K : zOk χ cc own nL d ret) (dg : decode cc pc = .ok (.ladd, 1)) 
    (kk : zV χ nL ad sh n1 n2 (pc + 1) lv (.long (zl (a + b)) :: st) μ) : zV χ nL ad sh n1 n2 pc lv (.long (zl b) :: .long (zl a) :: st) μ := by
  obtain ⟨p, l, e, R, s, m, args, below, meth, c, g, A, H0, Post, rc, rs⟩ := χ
  obtain ⟨hx, hb, hml, ho, ht, hn, hK, hlk, hret, hH, hA, hfr, hlo, hrc, hrs⟩ := K
  intro H locs ls hP hD hS hl
  exact lv_ladd hx hb dg (by rw [zl_add]; exact kk H locs ls hP hD hS hl)
theorem z_lsub {χ : zX} {cc : ByteArray} {own : String} {nL d : Nat} {ret : Option FieldType} {ad : Nat → Nat} {sh : List zE} {n1 n2 pc : Nat} {lv : List (Nat × Value)} {st : List Value} {μ : zMem} {a b : Int} (K : zOk χ cc own nL d ret) (dg : decode cc pc = .ok (.lsub, 1)) 
    (kk : zV χ nL ad sh n1 n2 (pc + 1) lv (.long (zl (a - b)) :: st) μ) : zV χ nL ad sh n1 n2 pc lv (.long (zl b) :: .long (zl a) :: st) μ := by
  obtain ⟨p, l, e, R, s, m, args, below, meth, c, g, A, H0, Post, rc, rs⟩ := χ
  obtain ⟨hx, hb, hml, ho, ht, hn, hK, hlk, hret, hH, hA, hfr, hlo, hrc, hrs⟩ := K
  intro H locs ls hP hD hS hl
  exact lv_lsub hx hb dg (by rw [zl_sub]; exact kk H locs ls hP hD hS hl)
theorem z_lmul {χ : zX} {cc : ByteArray} {own : String} {nL d : Nat} {ret : Option FieldType} {ad : Nat → Nat} {sh : List zE} {n1 n2 pc : Nat} {lv : List (Nat × Value)} {st : List Value} {μ : zMem} {a b : Int} (K : zOk χ cc own nL d ret) (dg : decode cc pc = .ok (.lmul, 1)) 
    (kk : zV χ nL ad sh n1 n2 (pc + 1) lv (.long (zl (a * b)) :: st) μ) : zV χ nL ad sh n1 n2 pc lv (.long (zl b) :: .long (zl a) :: st) μ := by
  obtain ⟨p, l, e, R, s, m, args, below, meth, c, g, A, H0, Post, rc, rs⟩ := χ
  obtain ⟨hx, hb, hml, ho, ht, hn, hK, hlk, hret, hH, hA, hfr, hlo, hrc, hrs⟩ := K
  intro H locs ls hP hD hS hl
  exact lv_lmul hx hb dg (by rw [zl_mul]; exact kk H locs ls hP hD hS hl)
theorem z_ineg {χ : zX} {cc : ByteArray} {own : String} {nL d : Nat} {ret : Option FieldType} {ad : Nat → Nat} {sh : List zE} {n1 n2 pc : Nat} {lv : List (Nat × Value)} {st : List Value} {μ : zMem} {a : Int} (K : zOk χ cc own nL d ret) (dg : decode cc pc = .ok (.ineg, 1)) 
    (kk : zV χ nL ad sh n1 n2 (pc + 1) lv (.int (zi (-a)) :: st) μ) : zV χ nL ad sh n1 n2 pc lv (.int (zi a) :: st) μ := by
  obtain ⟨p, l, e, R, s, m, args, below, meth, c, g, A, H0, Post, rc, rs⟩ := χ
  obtain ⟨hx, hb, hml, ho, ht, hn, hK, hlk, hret, hH, hA, hfr, hlo, hrc, hrs⟩ := K
  intro H locs ls hP hD hS hl
  exact lv_ineg hx hb dg (by first | (rw [zi_neg]; exact kk H locs ls hP hD hS hl) | (rw [Int32.zero_sub, zi_neg]; exact kk H locs ls hP hD hS hl) | (rw [show (0 : Int32) = zi 0 from rfl, zi_sub, Int.zero_sub]; exact kk H locs ls hP hD hS hl))
theorem z_iaddR {χ : zX} {cc : ByteArray} {own : String} {nL d : Nat} {ret : Option FieldType} {ad : Nat → Nat} {sh : List zE} {n1 n2 pc : Nat} {lv : List (Nat × Value)} {st : List Value} {μ : zMem} {x y z : Int32} (K : zOk χ cc own nL d ret) (dg : decode cc pc = .ok (.iadd, 1)) (hv : x + y = z)
    (kk : zV χ nL ad sh n1 n2 (pc + 1) lv (.int z :: st) μ) : zV χ nL ad sh n1 n2 pc lv (.int y :: .int x :: st) μ := by
  obtain ⟨p, l, e, R, s, m, args, below, meth, c, g, A, H0, Post, rc, rs⟩ := χ
  obtain ⟨hx, hb, hml, ho, ht, hn, hK, hlk, hret, hH, hA, hfr, hlo, hrc, hrs⟩ := K
  intro H locs ls hP hD hS hl
  exact lv_iadd hx hb dg (by rw [hv]; exact kk H locs ls hP hD hS hl)
theorem z_isubR {χ : zX} {cc : ByteArray} {own : String} {nL d : Nat} {ret : Option FieldType} {ad : Nat → Nat} {sh : List zE} {n1 n2 pc : Nat} {lv : List (Nat × Value)} {st : List Value} {μ : zMem} {x y z : Int32} (K : zOk χ cc own nL d ret) (dg : decode cc pc = .ok (.isub, 1)) (hv : x - y = z)
    (kk : zV χ nL ad sh n1 n2 (pc + 1) lv (.int z :: st) μ) : zV χ nL ad sh n1 n2 pc lv (.int y :: .int x :: st) μ := by
  obtain ⟨p, l, e, R, s, m, args, below, meth, c, g, A, H0, Post, rc, rs⟩ := χ
  obtain ⟨hx, hb, hml, ho, ht, hn, hK, hlk, hret, hH, hA, hfr, hlo, hrc, hrs⟩ := K
  intro H locs ls hP hD hS hl
  exact lv_isub hx hb dg (by rw [hv]; exact kk H locs ls hP hD hS hl)
theorem z_iandR {χ : zX} {cc : ByteArray} {own : String} {nL d : Nat} {ret : Option FieldType} {ad : Nat → Nat} {sh : List zE} {n1 n2 pc : Nat} {lv : List (Nat × Value)} {st : List Value} {μ : zMem} {x y z : Int32} (K : zOk χ cc own nL d ret) (dg : decode cc pc = .ok (.iand, 1)) (hv : x &&& y = z)
    (kk : zV χ nL ad sh n1 n2 (pc + 1) lv (.int z :: st) μ) : zV χ nL ad sh n1 n2 pc lv (.int y :: .int x :: st) μ := by
  obtain ⟨p, l, e, R, s, m, args, below, meth, c, g, A, H0, Post, rc, rs⟩ := χ
  obtain ⟨hx, hb, hml, ho, ht, hn, hK, hlk, hret, hH, hA, hfr, hlo, hrc, hrs⟩ := K
  intro H locs ls hP hD hS hl
  exact lv_iand hx hb dg (by rw [hv]; exact kk H locs ls hP hD hS hl)
theorem z_iorR {χ : zX} {cc : ByteArray} {own : String} {nL d : Nat} {ret : Option FieldType} {ad : Nat → Nat} {sh : List zE} {n1 n2 pc : Nat} {lv : List (Nat × Value)} {st : List Value} {μ : zMem} {x y z : Int32} (K : zOk χ cc own nL d ret) (dg : decode cc pc = .ok (.ior, 1)) (hv : x ||| y = z)
    (kk : zV χ nL ad sh n1 n2 (pc + 1) lv (.int z :: st) μ) : zV χ nL ad sh n1 n2 pc lv (.int y :: .int x :: st) μ := by
  obtain ⟨p, l, e, R, s, m, args, below, meth, c, g, A, H0, Post, rc, rs⟩ := χ
  obtain ⟨hx, hb, hml, ho, ht, hn, hK, hlk, hret, hH, hA, hfr, hlo, hrc, hrs⟩ := K
  intro H locs ls hP hD hS hl
  exact lv_ior hx hb dg (by rw [hv]; exact kk H locs ls hP hD hS hl)
theorem z_ixorR {χ : zX} {cc : ByteArray} {own : String} {nL d : Nat} {ret : Option FieldType} {ad : Nat → Nat} {sh : List zE} {n1 n2 pc : Nat} {lv : List (Nat × Value)} {st : List Value} {μ : zMem} {x y z : Int32} (K : zOk χ cc own nL d ret) (dg : decode cc pc = .ok (.ixor, 1)) (hv : x ^^^ y = z)
    (kk : zV χ nL ad sh n1 n2 (pc + 1) lv (.int z :: st) μ) : zV χ nL ad sh n1 n2 pc lv (.int y :: .int x :: st) μ := by
  obtain ⟨p, l, e, R, s, m, args, below, meth, c, g, A, H0, Post, rc, rs⟩ := χ
  obtain ⟨hx, hb, hml, ho, ht, hn, hK, hlk, hret, hH, hA, hfr, hlo, hrc, hrs⟩ := K
  intro H locs ls hP hD hS hl
  exact lv_ixor hx hb dg (by rw [hv]; exact kk H locs ls hP hD hS hl)
theorem z_ishlR {χ : zX} {cc : ByteArray} {own : String} {nL d : Nat} {ret : Option FieldType} {ad : Nat → Nat} {sh : List zE} {n1 n2 pc : Nat} {lv : List (Nat × Value)} {st : List Value} {μ : zMem} {x y z : Int32} (K : zOk χ cc own nL d ret) (dg : decode cc pc = .ok (.ishl, 1)) (hv : x <<< (y &&& 31) = z)
    (kk : zV χ nL ad sh n1 n2 (pc + 1) lv (.int z :: st) μ) : zV χ nL ad sh n1 n2 pc lv (.int y :: .int x :: st) μ := by
  obtain ⟨p, l, e, R, s, m, args, below, meth, c, g, A, H0, Post, rc, rs⟩ := χ
  obtain ⟨hx, hb, hml, ho, ht, hn, hK, hlk, hret, hH, hA, hfr, hlo, hrc, hrs⟩ := K
  intro H locs ls hP hD hS hl
  exact lv_ishl hx hb dg (by rw [hv]; exact kk H locs ls hP hD hS hl)
theorem z_ishrR {χ : zX} {cc : ByteArray} {own : String} {nL d : Nat} {ret : Option FieldType} {ad : Nat → Nat} {sh : List zE} {n1 n2 pc : Nat} {lv : List (Nat × Value)} {st : List Value} {μ : zMem} {x y z : Int32} (K : zOk χ cc own nL d ret) (dg : decode cc pc = .ok (.ishr, 1)) (hv : x >>> (y &&& 31) = z)
    (kk : zV χ nL ad sh n1 n2 (pc + 1) lv (.int z :: st) μ) : zV χ nL ad sh n1 n2 pc lv (.int y :: .int x :: st) μ := by
  obtain ⟨p, l, e, R, s, m, args, below, meth, c, g, A, H0, Post, rc, rs⟩ := χ
  obtain ⟨hx, hb, hml, ho, ht, hn, hK, hlk, hret, hH, hA, hfr, hlo, hrc, hrs⟩ := K
  intro H locs ls hP hD hS hl
  exact lv_ishr hx hb dg (by rw [hv]; exact kk H locs ls hP hD hS hl)
theorem z_iushrR {χ : zX} {cc : ByteArray} {own : String} {nL d : Nat} {ret : Option FieldType} {ad : Nat → Nat} {sh : List zE} {n1 n2 pc : Nat} {lv : List (Nat × Value)} {st : List Value} {μ : zMem} {x y z : Int32} (K : zOk χ cc own nL d ret) (dg : decode cc pc = .ok (.iushr, 1)) (hv : (x.toUInt32 >>> (y.toUInt32 &&& Int32.toUInt32 31)).toInt32 = z)
    (kk : zV χ nL ad sh n1 n2 (pc + 1) lv (.int z :: st) μ) : zV χ nL ad sh n1 n2 pc lv (.int y :: .int x :: st) μ := by
  obtain ⟨p, l, e, R, s, m, args, below, meth, c, g, A, H0, Post, rc, rs⟩ := χ
  obtain ⟨hx, hb, hml, ho, ht, hn, hK, hlk, hret, hH, hA, hfr, hlo, hrc, hrs⟩ := K
  intro H locs ls hP hD hS hl
  exact lv_iushr hx hb dg hv (kk H locs ls hP hD hS hl)
theorem zi_ne0 {b : Int} (hb : zR b) (h0 : 0 < b) : ¬ zi b = 0 := fun h => by
  have := congrArg Int32.toInt h
  rw [zi_toInt hb] at this
  have h1 : (0 : Int32).toInt = 0 := rfl
  omega
theorem zl_ne0 {b : Int} (hb : b ≤ 9223372036854775807) (h0 : 0 < b) : ¬ zl b = 0 := fun h => by
  have := congrArg Int64.toInt h
  rw [zl_toInt ⟨by omega, hb⟩] at this
  have h1 : (0 : Int64).toInt = 0 := rfl
  omega
theorem zl_div {a b : Int} (h0 : 0 ≤ a) (ha : a ≤ 9223372036854775807) (h1 : 0 < b) (hb : b ≤ 9223372036854775807) : zl a / zl b = zl (a / b) := by
  have hne : zl b ≠ -1 := fun h => by
    have := congrArg Int64.toInt h
    rw [zl_toInt ⟨by omega, hb⟩] at this
    have h1 : (-1 : Int64).toInt = -1 := rfl
    omega
  have h2 : a / b ≤ a := Int.ediv_le_self _ h0
  have h3 : 0 ≤ a / b := Int.ediv_nonneg h0 (by omega)
  rw [← Int64.toInt_inj, Int64.toInt_div_of_ne_right _ _ hne, zl_toInt ⟨by omega, ha⟩, zl_toInt ⟨by omega, hb⟩, zl_toInt ⟨by omega, by omega⟩, Int.tdiv_eq_ediv_of_nonneg h0]
theorem z_idivT {χ : zX} {cc : ByteArray} {own : String} {nL d : Nat} {ret : Option FieldType} {ad : Nat → Nat} {sh : List zE} {n1 n2 pc : Nat} {lv : List (Nat × Value)} {st : List Value} {μ : zMem} {a b : Int} (K : zOk χ cc own nL d ret) (dg : decode cc pc = .ok (.idiv, 1)) (ha : zR a) (hb0 : 0 < b) (hb1 : b ≤ 2147483647)
    (kk : zV χ nL ad sh n1 n2 (pc + 1) lv (.int (zi (a.tdiv b)) :: st) μ) : zV χ nL ad sh n1 n2 pc lv (.int (zi b) :: .int (zi a) :: st) μ := by
  obtain ⟨p, l, e, R, s, m, args, below, meth, c, g, A, H0, Post, rc, rs⟩ := χ
  obtain ⟨hx, hb, hml, ho, ht, hn, hK, hlk, hret, hH, hA, hfr, hlo, hrc, hrs⟩ := K
  intro H locs ls hP hD hS hl
  exact lv_idiv hx hb dg (zi_ne0 ⟨by omega, hb1⟩ hb0) (by rw [zi_tdiv ha ⟨by omega, hb1⟩ hb0]; exact kk H locs ls hP hD hS hl)
theorem z_idiv {χ : zX} {cc : ByteArray} {own : String} {nL d : Nat} {ret : Option FieldType} {ad : Nat → Nat} {sh : List zE} {n1 n2 pc : Nat} {lv : List (Nat × Value)} {st : List Value} {μ : zMem} {a b : Int} (K : zOk χ cc own nL d ret) (dg : decode cc pc = .ok (.idiv, 1)) (ha : 0 ≤ a ∧ a ≤ 2147483647) (hb0 : 0 < b ∧ b ≤ 2147483647)
    (kk : zV χ nL ad sh n1 n2 (pc + 1) lv (.int (zi (a / b)) :: st) μ) : zV χ nL ad sh n1 n2 pc lv (.int (zi b) :: .int (zi a) :: st) μ := by
  obtain ⟨p, l, e, R, s, m, args, below, meth, c, g, A, H0, Post, rc, rs⟩ := χ
  obtain ⟨hx, hb, hml, ho, ht, hn, hK, hlk, hret, hH, hA, hfr, hlo, hrc, hrs⟩ := K
  intro H locs ls hP hD hS hl
  exact lv_idiv hx hb dg (zi_ne0 ⟨by omega, hb0.2⟩ hb0.1) (by rw [zi_tdiv ⟨by omega, ha.2⟩ ⟨by omega, hb0.2⟩ hb0.1, Int.tdiv_eq_ediv_of_nonneg ha.1]; exact kk H locs ls hP hD hS hl)
theorem z_irem {χ : zX} {cc : ByteArray} {own : String} {nL d : Nat} {ret : Option FieldType} {ad : Nat → Nat} {sh : List zE} {n1 n2 pc : Nat} {lv : List (Nat × Value)} {st : List Value} {μ : zMem} {a b : Int} (K : zOk χ cc own nL d ret) (dg : decode cc pc = .ok (.irem, 1)) (ha : 0 ≤ a ∧ a ≤ 2147483647) (hb0 : 0 < b ∧ b ≤ 2147483647)
    (kk : zV χ nL ad sh n1 n2 (pc + 1) lv (.int (zi (a % b)) :: st) μ) : zV χ nL ad sh n1 n2 pc lv (.int (zi b) :: .int (zi a) :: st) μ := by
  obtain ⟨p, l, e, R, s, m, args, below, meth, c, g, A, H0, Post, rc, rs⟩ := χ
  obtain ⟨hx, hb, hml, ho, ht, hn, hK, hlk, hret, hH, hA, hfr, hlo, hrc, hrs⟩ := K
  intro H locs ls hP hD hS hl
  exact lv_irem hx hb dg (zi_ne0 ⟨by omega, hb0.2⟩ hb0.1) (by rw [zi_tdiv ⟨by omega, ha.2⟩ ⟨by omega, hb0.2⟩ hb0.1, Int.tdiv_eq_ediv_of_nonneg ha.1, zi_mul, zi_sub, Int.mul_comm, ← Int.emod_def]; exact kk H locs ls hP hD hS hl)
theorem z_ldiv {χ : zX} {cc : ByteArray} {own : String} {nL d : Nat} {ret : Option FieldType} {ad : Nat → Nat} {sh : List zE} {n1 n2 pc : Nat} {lv : List (Nat × Value)} {st : List Value} {μ : zMem} {a b : Int} (K : zOk χ cc own nL d ret) (dg : decode cc pc = .ok (.ldiv, 1)) (ha : 0 ≤ a ∧ a ≤ 9223372036854775807) (hb0 : 0 < b ∧ b ≤ 9223372036854775807)
    (kk : zV χ nL ad sh n1 n2 (pc + 1) lv (.long (zl (a / b)) :: st) μ) : zV χ nL ad sh n1 n2 pc lv (.long (zl b) :: .long (zl a) :: st) μ := by
  obtain ⟨p, l, e, R, s, m, args, below, meth, c, g, A, H0, Post, rc, rs⟩ := χ
  obtain ⟨hx, hb, hml, ho, ht, hn, hK, hlk, hret, hH, hA, hfr, hlo, hrc, hrs⟩ := K
  intro H locs ls hP hD hS hl
  exact lv_ldiv hx hb dg (zl_ne0 hb0.2 hb0.1) (by rw [zl_div ha.1 ha.2 hb0.1 hb0.2]; exact kk H locs ls hP hD hS hl)
theorem z_lrem {χ : zX} {cc : ByteArray} {own : String} {nL d : Nat} {ret : Option FieldType} {ad : Nat → Nat} {sh : List zE} {n1 n2 pc : Nat} {lv : List (Nat × Value)} {st : List Value} {μ : zMem} {a b : Int} (K : zOk χ cc own nL d ret) (dg : decode cc pc = .ok (.lrem, 1)) (ha : 0 ≤ a ∧ a ≤ 9223372036854775807) (hb0 : 0 < b ∧ b ≤ 9223372036854775807)
    (kk : zV χ nL ad sh n1 n2 (pc + 1) lv (.long (zl (a % b)) :: st) μ) : zV χ nL ad sh n1 n2 pc lv (.long (zl b) :: .long (zl a) :: st) μ := by
  obtain ⟨p, l, e, R, s, m, args, below, meth, c, g, A, H0, Post, rc, rs⟩ := χ
  obtain ⟨hx, hb, hml, ho, ht, hn, hK, hlk, hret, hH, hA, hfr, hlo, hrc, hrs⟩ := K
  intro H locs ls hP hD hS hl
  exact lv_lrem hx hb dg (zl_ne0 hb0.2 hb0.1) (by rw [zl_div ha.1 ha.2 hb0.1 hb0.2, zl_mul, zl_sub, Int.mul_comm, ← Int.emod_def]; exact kk H locs ls hP hD hS hl)
theorem z_lushrR {χ : zX} {cc : ByteArray} {own : String} {nL d : Nat} {ret : Option FieldType} {ad : Nat → Nat} {sh : List zE} {n1 n2 pc : Nat} {lv : List (Nat × Value)} {st : List Value} {μ : zMem} {x z : Int64} {y : Int32} (K : zOk χ cc own nL d ret) (dg : decode cc pc = .ok (.lushr, 1)) (hv : (x.toUInt64 >>> (y.toInt64.toUInt64 &&& Int64.toUInt64 63)).toInt64 = z)
    (kk : zV χ nL ad sh n1 n2 (pc + 1) lv (.long z :: st) μ) : zV χ nL ad sh n1 n2 pc lv (.int y :: .long x :: st) μ := by
  obtain ⟨p, l, e, R, s, m, args, below, meth, c, g, A, H0, Post, rc, rs⟩ := χ
  obtain ⟨hx, hb, hml, ho, ht, hn, hK, hlk, hret, hH, hA, hfr, hlo, hrc, hrs⟩ := K
  intro H locs ls hP hD hS hl
  exact lv_lushr hx hb dg hv (kk H locs ls hP hD hS hl)
theorem z_i2l {χ : zX} {cc : ByteArray} {own : String} {nL d : Nat} {ret : Option FieldType} {ad : Nat → Nat} {sh : List zE} {n1 n2 pc : Nat} {lv : List (Nat × Value)} {st : List Value} {μ : zMem} {a : Int} (K : zOk χ cc own nL d ret) (dg : decode cc pc = .ok (.i2l, 1)) (ha : zR a)
    (kk : zV χ nL ad sh n1 n2 (pc + 1) lv (.long (zl a) :: st) μ) : zV χ nL ad sh n1 n2 pc lv (.int (zi a) :: st) μ := by
  obtain ⟨p, l, e, R, s, m, args, below, meth, c, g, A, H0, Post, rc, rs⟩ := χ
  obtain ⟨hx, hb, hml, ho, ht, hn, hK, hlk, hret, hH, hA, hfr, hlo, hrc, hrs⟩ := K
  intro H locs ls hP hD hS hl
  exact lv_i2l hx hb dg (zi_l ha) (kk H locs ls hP hD hS hl)
theorem z_l2i {χ : zX} {cc : ByteArray} {own : String} {nL d : Nat} {ret : Option FieldType} {ad : Nat → Nat} {sh : List zE} {n1 n2 pc : Nat} {lv : List (Nat × Value)} {st : List Value} {μ : zMem} {a : Int} (K : zOk χ cc own nL d ret) (dg : decode cc pc = .ok (.l2i, 1)) 
    (kk : zV χ nL ad sh n1 n2 (pc + 1) lv (.int (zi a) :: st) μ) : zV χ nL ad sh n1 n2 pc lv (.long (zl a) :: st) μ := by
  obtain ⟨p, l, e, R, s, m, args, below, meth, c, g, A, H0, Post, rc, rs⟩ := χ
  obtain ⟨hx, hb, hml, ho, ht, hn, hK, hlk, hret, hH, hA, hfr, hlo, hrc, hrs⟩ := K
  intro H locs ls hP hD hS hl
  exact lv_l2i hx hb dg (zl_i a) (kk H locs ls hP hD hS hl)
def zc (a b : Int) : Int := if b < a then 1 else if a = b then 0 else -1
abbrev zR8 (a : Int) : Prop := -9223372036854775808 ≤ a ∧ a ≤ 9223372036854775807
theorem zc_cmp {a b : Int} (ha : zR8 a) (hb : zR8 b) : lg_cmp (zl a) (zl b) = zi (zc a b) := by
  unfold lg_cmp zc
  simp only [gt_iff_lt, Int64.lt_iff_toInt_lt, ← Int64.toInt_inj, zl_toInt ha, zl_toInt hb]
  repeat' split
  all_goals rfl
theorem zc_lt (a b : Int) : zc a b < 0 ↔ a < b := by unfold zc; repeat' split <;> omega
theorem zc_gt (a b : Int) : 0 < zc a b ↔ b < a := by unfold zc; repeat' split <;> omega
theorem zc_rg (a b : Int) : zR (zc a b) := by unfold zc zR; repeat' split <;> omega
theorem z_lcmp {χ : zX} {cc : ByteArray} {own : String} {nL d : Nat} {ret : Option FieldType} {ad : Nat → Nat} {sh : List zE} {n1 n2 pc : Nat} {lv : List (Nat × Value)} {st : List Value} {μ : zMem} {a b : Int} (K : zOk χ cc own nL d ret) (dg : decode cc pc = .ok (.lcmp, 1)) (ha : zR8 a) (hb8 : zR8 b)
    (kk : zV χ nL ad sh n1 n2 (pc + 1) lv (.int (zi (zc a b)) :: st) μ) : zV χ nL ad sh n1 n2 pc lv (.long (zl b) :: .long (zl a) :: st) μ := by
  obtain ⟨p, l, e, R, s, m, args, below, meth, c, g, A, H0, Post, rc, rs⟩ := χ
  obtain ⟨hx, hb, hml, ho, ht, hn, hK, hlk, hret, hH, hA, hfr, hlo, hrc, hrs⟩ := K
  intro H locs ls hP hD hS hl
  exact W.lcmp hx hb dg (by rw [zc_cmp ha hb8]; exact kk H locs ls hP hD hS hl)
theorem z_dup {χ : zX} {cc : ByteArray} {own : String} {nL d : Nat} {ret : Option FieldType} {ad : Nat → Nat} {sh : List zE} {n1 n2 pc : Nat} {lv : List (Nat × Value)} {st : List Value} {μ : zMem} {v : Value} (K : zOk χ cc own nL d ret) (dg : decode cc pc = .ok (.dup, 1)) (hv : v.category = 1)
    (kk : zV χ nL ad sh n1 n2 (pc + 1) lv (v :: v :: st) μ) : zV χ nL ad sh n1 n2 pc lv (v :: st) μ := by
  obtain ⟨p, l, e, R, s, m, args, below, meth, c, g, A, H0, Post, rc, rs⟩ := χ
  obtain ⟨hx, hb, hml, ho, ht, hn, hK, hlk, hret, hH, hA, hfr, hlo, hrc, hrs⟩ := K
  intro H locs ls hP hD hS hl
  exact lv_dup hx hb dg hv (kk H locs ls hP hD hS hl)
theorem z_pop {χ : zX} {cc : ByteArray} {own : String} {nL d : Nat} {ret : Option FieldType} {ad : Nat → Nat} {sh : List zE} {n1 n2 pc : Nat} {lv : List (Nat × Value)} {st : List Value} {μ : zMem} {v : Value} (K : zOk χ cc own nL d ret) (dg : decode cc pc = .ok (.pop, 1)) (hv : v.category = 1)
    (kk : zV χ nL ad sh n1 n2 (pc + 1) lv st μ) : zV χ nL ad sh n1 n2 pc lv (v :: st) μ := by
  obtain ⟨p, l, e, R, s, m, args, below, meth, c, g, A, H0, Post, rc, rs⟩ := χ
  obtain ⟨hx, hb, hml, ho, ht, hn, hK, hlk, hret, hH, hA, hfr, hlo, hrc, hrs⟩ := K
  intro H locs ls hP hD hS hl
  exact lv_pop hx hb dg hv (kk H locs ls hP hD hS hl)
theorem z_dup2 {χ : zX} {cc : ByteArray} {own : String} {nL d : Nat} {ret : Option FieldType} {ad : Nat → Nat} {sh : List zE} {n1 n2 pc : Nat} {lv : List (Nat × Value)} {st : List Value} {μ : zMem} {v u : Value} (K : zOk χ cc own nL d ret) (dg : decode cc pc = .ok (.dup2, 1)) (hv : v.category = 1) (hu : u.category = 1)
    (kk : zV χ nL ad sh n1 n2 (pc + 1) lv (v :: u :: v :: u :: st) μ) : zV χ nL ad sh n1 n2 pc lv (v :: u :: st) μ := by
  obtain ⟨p, l, e, R, s, m, args, below, meth, c, g, A, H0, Post, rc, rs⟩ := χ
  obtain ⟨hx, hb, hml, ho, ht, hn, hK, hlk, hret, hH, hA, hfr, hlo, hrc, hrs⟩ := K
  intro H locs ls hP hD hS hl
  exact lv_dup2_11 hx hb dg hv hu (kk H locs ls hP hD hS hl)
theorem z_goto {χ : zX} {cc : ByteArray} {own : String} {nL d : Nat} {ret : Option FieldType} {ad : Nat → Nat} {sh : List zE} {n1 n2 pc : Nat} {lv : List (Nat × Value)} {st : List Value} {μ : zMem} {off : Int} {tgt : Nat} (K : zOk χ cc own nL d ret) (dg : decode cc pc = .ok (.goto off, 3)) (hg : (pc : Int) + off = (tgt : Int))
    (kk : zV χ nL ad sh n1 n2 tgt lv st μ) : zV χ nL ad sh n1 n2 pc lv st μ := by
  obtain ⟨p, l, e, R, s, m, args, below, meth, c, g, A, H0, Post, rc, rs⟩ := χ
  obtain ⟨hx, hb, hml, ho, ht, hn, hK, hlk, hret, hH, hA, hfr, hlo, hrc, hrs⟩ := K
  intro H locs ls hP hD hS hl
  exact lv_goto hx hb dg hg (kk H locs ls hP hD hS hl)
theorem z_ifeq {χ : zX} {cc : ByteArray} {own : String} {nL d : Nat} {ret : Option FieldType} {ad : Nat → Nat} {sh : List zE} {n1 n2 pc : Nat} {lv : List (Nat × Value)} {st : List Value} {μ : zMem} {a : Int} {off : Int} {tgt : Nat} (K : zOk χ cc own nL d ret) (dg : decode cc pc = .ok (.ifCond .eq off, 3)) (hg : (pc : Int) + off = (tgt : Int)) (ha : zR a)
    (kt : a = 0 → zV χ nL ad sh n1 n2 tgt lv st μ) (kf : ¬ a = 0 → zV χ nL ad sh n1 n2 (pc + 3) lv st μ) : zV χ nL ad sh n1 n2 pc lv (.int (zi a) :: st) μ := by
  obtain ⟨p, l, e, R, s, m, args, below, meth, c, g, A, H0, Post, rc, rs⟩ := χ
  obtain ⟨hx, hb, hml, ho, ht, hn, hK, hlk, hret, hH, hA, hfr, hlo, hrc, hrs⟩ := K
  intro H locs ls hP hD hS hl
  have hz : zR 0 := ⟨by decide, by decide⟩
  have hq := zi_eq ha hz
  rw [← (show (0 : Int32) = zi 0 from rfl)] at hq
  exact lv_if_eq hx hb dg hg (fun h => kt (by have h2 := hq; first | exact hq.mp h | exact fun z => h (hq.mpr z)) H locs ls hP hD hS hl) (fun h => kf (by first | exact hq.mp h | exact fun z => h (hq.mpr z) | (have h2 : ¬ (a = 0) := fun z => h (hq.mpr z); omega)) H locs ls hP hD hS hl)
theorem z_ifne {χ : zX} {cc : ByteArray} {own : String} {nL d : Nat} {ret : Option FieldType} {ad : Nat → Nat} {sh : List zE} {n1 n2 pc : Nat} {lv : List (Nat × Value)} {st : List Value} {μ : zMem} {a : Int} {off : Int} {tgt : Nat} (K : zOk χ cc own nL d ret) (dg : decode cc pc = .ok (.ifCond .ne off, 3)) (hg : (pc : Int) + off = (tgt : Int)) (ha : zR a)
    (kt : ¬ a = 0 → zV χ nL ad sh n1 n2 tgt lv st μ) (kf : a = 0 → zV χ nL ad sh n1 n2 (pc + 3) lv st μ) : zV χ nL ad sh n1 n2 pc lv (.int (zi a) :: st) μ := by
  obtain ⟨p, l, e, R, s, m, args, below, meth, c, g, A, H0, Post, rc, rs⟩ := χ
  obtain ⟨hx, hb, hml, ho, ht, hn, hK, hlk, hret, hH, hA, hfr, hlo, hrc, hrs⟩ := K
  intro H locs ls hP hD hS hl
  have hz : zR 0 := ⟨by decide, by decide⟩
  have hq := zi_eq ha hz
  rw [← (show (0 : Int32) = zi 0 from rfl)] at hq
  exact lv_if_ne hx hb dg hg (fun h => kt (by have h2 := hq; first | exact hq.mp h | exact fun z => h (hq.mpr z)) H locs ls hP hD hS hl) (fun h => kf (by first | exact hq.mp h | exact fun z => h (hq.mpr z) | (have h2 : ¬ (¬ a = 0) := fun z => h (hq.mpr z); omega)) H locs ls hP hD hS hl)
theorem z_iflt {χ : zX} {cc : ByteArray} {own : String} {nL d : Nat} {ret : Option FieldType} {ad : Nat → Nat} {sh : List zE} {n1 n2 pc : Nat} {lv : List (Nat × Value)} {st : List Value} {μ : zMem} {a : Int} {off : Int} {tgt : Nat} (K : zOk χ cc own nL d ret) (dg : decode cc pc = .ok (.ifCond .lt off, 3)) (hg : (pc : Int) + off = (tgt : Int)) (ha : zR a)
    (kt : a < 0 → zV χ nL ad sh n1 n2 tgt lv st μ) (kf : 0 ≤ a → zV χ nL ad sh n1 n2 (pc + 3) lv st μ) : zV χ nL ad sh n1 n2 pc lv (.int (zi a) :: st) μ := by
  obtain ⟨p, l, e, R, s, m, args, below, meth, c, g, A, H0, Post, rc, rs⟩ := χ
  obtain ⟨hx, hb, hml, ho, ht, hn, hK, hlk, hret, hH, hA, hfr, hlo, hrc, hrs⟩ := K
  intro H locs ls hP hD hS hl
  have hz : zR 0 := ⟨by decide, by decide⟩
  have hq := zi_lt ha hz
  rw [← (show (0 : Int32) = zi 0 from rfl)] at hq
  exact lv_if_lt hx hb dg hg (fun h => kt (by have h2 := hq; first | exact hq.mp h | exact fun z => h (hq.mpr z)) H locs ls hP hD hS hl) (fun h => kf (by first | exact hq.mp h | exact fun z => h (hq.mpr z) | (have h2 : ¬ (a < 0) := fun z => h (hq.mpr z); omega)) H locs ls hP hD hS hl)
theorem z_ifge {χ : zX} {cc : ByteArray} {own : String} {nL d : Nat} {ret : Option FieldType} {ad : Nat → Nat} {sh : List zE} {n1 n2 pc : Nat} {lv : List (Nat × Value)} {st : List Value} {μ : zMem} {a : Int} {off : Int} {tgt : Nat} (K : zOk χ cc own nL d ret) (dg : decode cc pc = .ok (.ifCond .ge off, 3)) (hg : (pc : Int) + off = (tgt : Int)) (ha : zR a)
    (kt : 0 ≤ a → zV χ nL ad sh n1 n2 tgt lv st μ) (kf : a < 0 → zV χ nL ad sh n1 n2 (pc + 3) lv st μ) : zV χ nL ad sh n1 n2 pc lv (.int (zi a) :: st) μ := by
  obtain ⟨p, l, e, R, s, m, args, below, meth, c, g, A, H0, Post, rc, rs⟩ := χ
  obtain ⟨hx, hb, hml, ho, ht, hn, hK, hlk, hret, hH, hA, hfr, hlo, hrc, hrs⟩ := K
  intro H locs ls hP hD hS hl
  have hz : zR 0 := ⟨by decide, by decide⟩
  have hq := zi_le hz ha
  rw [← (show (0 : Int32) = zi 0 from rfl)] at hq
  exact lv_if_ge hx hb dg hg (fun h => kt (by have h2 := hq; first | exact hq.mp h | exact fun z => h (hq.mpr z)) H locs ls hP hD hS hl) (fun h => kf (by first | exact hq.mp h | exact fun z => h (hq.mpr z) | (have h2 : ¬ (0 ≤ a) := fun z => h (hq.mpr z); omega)) H locs ls hP hD hS hl)
theorem z_ifgt {χ : zX} {cc : ByteArray} {own : String} {nL d : Nat} {ret : Option FieldType} {ad : Nat → Nat} {sh : List zE} {n1 n2 pc : Nat} {lv : List (Nat × Value)} {st : List Value} {μ : zMem} {a : Int} {off : Int} {tgt : Nat} (K : zOk χ cc own nL d ret) (dg : decode cc pc = .ok (.ifCond .gt off, 3)) (hg : (pc : Int) + off = (tgt : Int)) (ha : zR a)
    (kt : 0 < a → zV χ nL ad sh n1 n2 tgt lv st μ) (kf : a ≤ 0 → zV χ nL ad sh n1 n2 (pc + 3) lv st μ) : zV χ nL ad sh n1 n2 pc lv (.int (zi a) :: st) μ := by
  obtain ⟨p, l, e, R, s, m, args, below, meth, c, g, A, H0, Post, rc, rs⟩ := χ
  obtain ⟨hx, hb, hml, ho, ht, hn, hK, hlk, hret, hH, hA, hfr, hlo, hrc, hrs⟩ := K
  intro H locs ls hP hD hS hl
  have hz : zR 0 := ⟨by decide, by decide⟩
  have hq := zi_lt hz ha
  rw [← (show (0 : Int32) = zi 0 from rfl)] at hq
  exact lv_if_gt hx hb dg hg (fun h => kt (by have h2 := hq; first | exact hq.mp h | exact fun z => h (hq.mpr z)) H locs ls hP hD hS hl) (fun h => kf (by first | exact hq.mp h | exact fun z => h (hq.mpr z) | (have h2 : ¬ (0 < a) := fun z => h (hq.mpr z); omega)) H locs ls hP hD hS hl)
theorem z_ifle {χ : zX} {cc : ByteArray} {own : String} {nL d : Nat} {ret : Option FieldType} {ad : Nat → Nat} {sh : List zE} {n1 n2 pc : Nat} {lv : List (Nat × Value)} {st : List Value} {μ : zMem} {a : Int} {off : Int} {tgt : Nat} (K : zOk χ cc own nL d ret) (dg : decode cc pc = .ok (.ifCond .le off, 3)) (hg : (pc : Int) + off = (tgt : Int)) (ha : zR a)
    (kt : a ≤ 0 → zV χ nL ad sh n1 n2 tgt lv st μ) (kf : 0 < a → zV χ nL ad sh n1 n2 (pc + 3) lv st μ) : zV χ nL ad sh n1 n2 pc lv (.int (zi a) :: st) μ := by
  obtain ⟨p, l, e, R, s, m, args, below, meth, c, g, A, H0, Post, rc, rs⟩ := χ
  obtain ⟨hx, hb, hml, ho, ht, hn, hK, hlk, hret, hH, hA, hfr, hlo, hrc, hrs⟩ := K
  intro H locs ls hP hD hS hl
  have hz : zR 0 := ⟨by decide, by decide⟩
  have hq := zi_le ha hz
  rw [← (show (0 : Int32) = zi 0 from rfl)] at hq
  exact lv_if_le hx hb dg hg (fun h => kt (by have h2 := hq; first | exact hq.mp h | exact fun z => h (hq.mpr z)) H locs ls hP hD hS hl) (fun h => kf (by first | exact hq.mp h | exact fun z => h (hq.mpr z) | (have h2 : ¬ (a ≤ 0) := fun z => h (hq.mpr z); omega)) H locs ls hP hD hS hl)
theorem z_icmpeq {χ : zX} {cc : ByteArray} {own : String} {nL d : Nat} {ret : Option FieldType} {ad : Nat → Nat} {sh : List zE} {n1 n2 pc : Nat} {lv : List (Nat × Value)} {st : List Value} {μ : zMem} {a b : Int} {off : Int} {tgt : Nat} (K : zOk χ cc own nL d ret) (dg : decode cc pc = .ok (.if_icmp .eq off, 3)) (hg : (pc : Int) + off = (tgt : Int)) (ha : zR a) (hb2 : zR b)
    (kt : a = b → zV χ nL ad sh n1 n2 tgt lv st μ) (kf : ¬ a = b → zV χ nL ad sh n1 n2 (pc + 3) lv st μ) : zV χ nL ad sh n1 n2 pc lv (.int (zi b) :: .int (zi a) :: st) μ := by
  obtain ⟨p, l, e, R, s, m, args, below, meth, c, g, A, H0, Post, rc, rs⟩ := χ
  obtain ⟨hx, hb, hml, ho, ht, hn, hK, hlk, hret, hH, hA, hfr, hlo, hrc, hrs⟩ := K
  intro H locs ls hP hD hS hl
  have hq := zi_eq ha hb2
  exact lv_icmp_eq hx hb dg hg (fun h => kt (by first | exact hq.mp h | exact fun z => h (hq.mpr z)) H locs ls hP hD hS hl) (fun h => kf (by first | exact hq.mp h | exact fun z => h (hq.mpr z) | (have h2 : ¬ (a = b) := fun z => h (hq.mpr z); omega)) H locs ls hP hD hS hl)
theorem z_icmpne {χ : zX} {cc : ByteArray} {own : String} {nL d : Nat} {ret : Option FieldType} {ad : Nat → Nat} {sh : List zE} {n1 n2 pc : Nat} {lv : List (Nat × Value)} {st : List Value} {μ : zMem} {a b : Int} {off : Int} {tgt : Nat} (K : zOk χ cc own nL d ret) (dg : decode cc pc = .ok (.if_icmp .ne off, 3)) (hg : (pc : Int) + off = (tgt : Int)) (ha : zR a) (hb2 : zR b)
    (kt : ¬ a = b → zV χ nL ad sh n1 n2 tgt lv st μ) (kf : a = b → zV χ nL ad sh n1 n2 (pc + 3) lv st μ) : zV χ nL ad sh n1 n2 pc lv (.int (zi b) :: .int (zi a) :: st) μ := by
  obtain ⟨p, l, e, R, s, m, args, below, meth, c, g, A, H0, Post, rc, rs⟩ := χ
  obtain ⟨hx, hb, hml, ho, ht, hn, hK, hlk, hret, hH, hA, hfr, hlo, hrc, hrs⟩ := K
  intro H locs ls hP hD hS hl
  have hq := zi_eq ha hb2
  exact lv_icmp_ne hx hb dg hg (fun h => kt (by first | exact hq.mp h | exact fun z => h (hq.mpr z)) H locs ls hP hD hS hl) (fun h => kf (by first | exact hq.mp h | exact fun z => h (hq.mpr z) | (have h2 : ¬ (¬ a = b) := fun z => h (hq.mpr z); omega)) H locs ls hP hD hS hl)
theorem z_icmplt {χ : zX} {cc : ByteArray} {own : String} {nL d : Nat} {ret : Option FieldType} {ad : Nat → Nat} {sh : List zE} {n1 n2 pc : Nat} {lv : List (Nat × Value)} {st : List Value} {μ : zMem} {a b : Int} {off : Int} {tgt : Nat} (K : zOk χ cc own nL d ret) (dg : decode cc pc = .ok (.if_icmp .lt off, 3)) (hg : (pc : Int) + off = (tgt : Int)) (ha : zR a) (hb2 : zR b)
    (kt : a < b → zV χ nL ad sh n1 n2 tgt lv st μ) (kf : b ≤ a → zV χ nL ad sh n1 n2 (pc + 3) lv st μ) : zV χ nL ad sh n1 n2 pc lv (.int (zi b) :: .int (zi a) :: st) μ := by
  obtain ⟨p, l, e, R, s, m, args, below, meth, c, g, A, H0, Post, rc, rs⟩ := χ
  obtain ⟨hx, hb, hml, ho, ht, hn, hK, hlk, hret, hH, hA, hfr, hlo, hrc, hrs⟩ := K
  intro H locs ls hP hD hS hl
  have hq := zi_lt ha hb2
  exact lv_icmp_lt hx hb dg hg (fun h => kt (by first | exact hq.mp h | exact fun z => h (hq.mpr z)) H locs ls hP hD hS hl) (fun h => kf (by first | exact hq.mp h | exact fun z => h (hq.mpr z) | (have h2 : ¬ (a < b) := fun z => h (hq.mpr z); omega)) H locs ls hP hD hS hl)
theorem z_icmpge {χ : zX} {cc : ByteArray} {own : String} {nL d : Nat} {ret : Option FieldType} {ad : Nat → Nat} {sh : List zE} {n1 n2 pc : Nat} {lv : List (Nat × Value)} {st : List Value} {μ : zMem} {a b : Int} {off : Int} {tgt : Nat} (K : zOk χ cc own nL d ret) (dg : decode cc pc = .ok (.if_icmp .ge off, 3)) (hg : (pc : Int) + off = (tgt : Int)) (ha : zR a) (hb2 : zR b)
    (kt : b ≤ a → zV χ nL ad sh n1 n2 tgt lv st μ) (kf : a < b → zV χ nL ad sh n1 n2 (pc + 3) lv st μ) : zV χ nL ad sh n1 n2 pc lv (.int (zi b) :: .int (zi a) :: st) μ := by
  obtain ⟨p, l, e, R, s, m, args, below, meth, c, g, A, H0, Post, rc, rs⟩ := χ
  obtain ⟨hx, hb, hml, ho, ht, hn, hK, hlk, hret, hH, hA, hfr, hlo, hrc, hrs⟩ := K
  intro H locs ls hP hD hS hl
  have hq := zi_le hb2 ha
  exact lv_icmp_ge hx hb dg hg (fun h => kt (by first | exact hq.mp h | exact fun z => h (hq.mpr z)) H locs ls hP hD hS hl) (fun h => kf (by first | exact hq.mp h | exact fun z => h (hq.mpr z) | (have h2 : ¬ (b ≤ a) := fun z => h (hq.mpr z); omega)) H locs ls hP hD hS hl)
theorem z_icmpgt {χ : zX} {cc : ByteArray} {own : String} {nL d : Nat} {ret : Option FieldType} {ad : Nat → Nat} {sh : List zE} {n1 n2 pc : Nat} {lv : List (Nat × Value)} {st : List Value} {μ : zMem} {a b : Int} {off : Int} {tgt : Nat} (K : zOk χ cc own nL d ret) (dg : decode cc pc = .ok (.if_icmp .gt off, 3)) (hg : (pc : Int) + off = (tgt : Int)) (ha : zR a) (hb2 : zR b)
    (kt : b < a → zV χ nL ad sh n1 n2 tgt lv st μ) (kf : a ≤ b → zV χ nL ad sh n1 n2 (pc + 3) lv st μ) : zV χ nL ad sh n1 n2 pc lv (.int (zi b) :: .int (zi a) :: st) μ := by
  obtain ⟨p, l, e, R, s, m, args, below, meth, c, g, A, H0, Post, rc, rs⟩ := χ
  obtain ⟨hx, hb, hml, ho, ht, hn, hK, hlk, hret, hH, hA, hfr, hlo, hrc, hrs⟩ := K
  intro H locs ls hP hD hS hl
  have hq := zi_lt hb2 ha
  exact lv_icmp_gt hx hb dg hg (fun h => kt (by first | exact hq.mp h | exact fun z => h (hq.mpr z)) H locs ls hP hD hS hl) (fun h => kf (by first | exact hq.mp h | exact fun z => h (hq.mpr z) | (have h2 : ¬ (b < a) := fun z => h (hq.mpr z); omega)) H locs ls hP hD hS hl)
theorem z_icmple {χ : zX} {cc : ByteArray} {own : String} {nL d : Nat} {ret : Option FieldType} {ad : Nat → Nat} {sh : List zE} {n1 n2 pc : Nat} {lv : List (Nat × Value)} {st : List Value} {μ : zMem} {a b : Int} {off : Int} {tgt : Nat} (K : zOk χ cc own nL d ret) (dg : decode cc pc = .ok (.if_icmp .le off, 3)) (hg : (pc : Int) + off = (tgt : Int)) (ha : zR a) (hb2 : zR b)
    (kt : a ≤ b → zV χ nL ad sh n1 n2 tgt lv st μ) (kf : b < a → zV χ nL ad sh n1 n2 (pc + 3) lv st μ) : zV χ nL ad sh n1 n2 pc lv (.int (zi b) :: .int (zi a) :: st) μ := by
  obtain ⟨p, l, e, R, s, m, args, below, meth, c, g, A, H0, Post, rc, rs⟩ := χ
  obtain ⟨hx, hb, hml, ho, ht, hn, hK, hlk, hret, hH, hA, hfr, hlo, hrc, hrs⟩ := K
  intro H locs ls hP hD hS hl
  have hq := zi_le ha hb2
  exact lv_icmp_le hx hb dg hg (fun h => kt (by first | exact hq.mp h | exact fun z => h (hq.mpr z)) H locs ls hP hD hS hl) (fun h => kf (by first | exact hq.mp h | exact fun z => h (hq.mpr z) | (have h2 : ¬ (a ≤ b) := fun z => h (hq.mpr z); omega)) H locs ls hP hD hS hl)
theorem z_tableOut {χ : zX} {cc : ByteArray} {own : String} {nL d : Nat} {ret : Option FieldType} {ad : Nat → Nat} {sh : List zE} {n1 n2 pc : Nat} {lv : List (Nat × Value)} {st : List Value} {μ : zMem} {dflt lo hi : Int} {offs : Array Int} {len : Nat} {a : Int} {tgt : Nat} (K : zOk χ cc own nL d ret) (dg : decode cc pc = .ok (.tableswitch dflt lo hi offs, len)) (ha : zR a) (h : a < lo ∨ hi < a) (hg : (pc : Int) + dflt = (tgt : Int))
    (kk : zV χ nL ad sh n1 n2 tgt lv st μ) : zV χ nL ad sh n1 n2 pc lv (.int (zi a) :: st) μ := by
  obtain ⟨p, l, e, R, s, m, args, below, meth, c, g, A, H0, Post, rc, rs⟩ := χ
  obtain ⟨hx, hb, hml, ho, ht, hn, hK, hlk, hret, hH, hA, hfr, hlo, hrc, hrs⟩ := K
  intro H locs ls hP hD hS hl
  exact lv_tableOut hx hb dg (by rw [zi_toInt ha]; exact h) hg (kk H locs ls hP hD hS hl)
theorem z_tableIn {χ : zX} {cc : ByteArray} {own : String} {nL d : Nat} {ret : Option FieldType} {ad : Nat → Nat} {sh : List zE} {n1 n2 pc : Nat} {lv : List (Nat × Value)} {st : List Value} {μ : zMem} {dflt lo hi : Int} {offs : Array Int} {len : Nat} {a off : Int} {tgt : Nat} (K : zOk χ cc own nL d ret) (dg : decode cc pc = .ok (.tableswitch dflt lo hi offs, len)) (ha : zR a) (h1 : lo ≤ a) (h2 : a ≤ hi) (h3 : offs[(a - lo).toNat]? = some off) (hg : (pc : Int) + off = (tgt : Int))
    (kk : zV χ nL ad sh n1 n2 tgt lv st μ) : zV χ nL ad sh n1 n2 pc lv (.int (zi a) :: st) μ := by
  obtain ⟨p, l, e, R, s, m, args, below, meth, c, g, A, H0, Post, rc, rs⟩ := χ
  obtain ⟨hx, hb, hml, ho, ht, hn, hK, hlk, hret, hH, hA, hfr, hlo, hrc, hrs⟩ := K
  intro H locs ls hP hD hS hl
  exact lv_tableIn hx hb dg (by rw [zi_toInt ha]; omega) (by rw [zi_toInt ha]; omega) (by rw [zi_toInt ha]; exact h3) hg (kk H locs ls hP hD hS hl)
theorem z_lookup {χ : zX} {cc : ByteArray} {own : String} {nL d : Nat} {ret : Option FieldType} {ad : Nat → Nat} {sh : List zE} {n1 n2 pc : Nat} {lv : List (Nat × Value)} {st : List Value} {μ : zMem} {dflt : Int} {ps : Array (Int × Int)} {len : Nat} {a off : Int} {tgt : Nat} (K : zOk χ cc own nL d ret) (dg : decode cc pc = .ok (.lookupswitch dflt ps, len)) (ha : zR a) (hp : (ps.toList.zip (ps.toList.drop 1)).all (fun (a, next) => a.1 < next.1) = true) (h3 : Op.lookupswitch.offset ps.toList dflt a = off) (hg : (pc : Int) + off = (tgt : Int))
    (kk : zV χ nL ad sh n1 n2 tgt lv st μ) : zV χ nL ad sh n1 n2 pc lv (.int (zi a) :: st) μ := by
  obtain ⟨p, l, e, R, s, m, args, below, meth, c, g, A, H0, Post, rc, rs⟩ := χ
  obtain ⟨hx, hb, hml, ho, ht, hn, hK, hlk, hret, hH, hA, hfr, hlo, hrc, hrs⟩ := K
  intro H locs ls hP hD hS hl
  exact lv_lookup hx hb dg hp (by rw [zi_toInt ha]; exact h3) hg (kk H locs ls hP hD hS hl)
def zFl (own : String) (idx ci j : Nat) : Prop := ∃ (C : String) (T : u_T) (N : Nat), vwCl[ci]? = some (C, T, N) ∧ j < N ∧ (Cond.fieldLink own idx (T j).1 (T j).2.1 (T j).2.2.1 ∈ lw_g ∨ ∃ host, Cond.fieldLinkNest own idx (T j).1 (T j).2.1 (T j).2.2.1 host ∈ lw_n) ∧ ∀ w ∈ u_ws C T N, w ∈ lw_g
def zFp (own : String) (idx ci j : Nat) (t : FieldType) : Prop := ∃ (C : String) (T : u_T) (N : Nat) (ty : Nat → FieldType), vwCl[ci]? = some (C, T, N) ∧ j < N ∧ (Cond.fieldLink own idx (T j).1 (T j).2.1 (T j).2.2.1 ∈ lw_g ∨ ∃ host, Cond.fieldLinkNest own idx (T j).1 (T j).2.1 (T j).2.2.1 host ∈ lw_n) ∧ (∀ w ∈ u_ws C T N, w ∈ lw_g) ∧ (∀ k, k < N → parseFieldDescriptor (T k).2.2.1 = some (ty k)) ∧ (∀ a, a < N → ∀ b, b < N → a ≠ b → (T a).2.1 ≠ (T b).2.1) ∧ (T j).2.2.2 = false ∧ parseFieldDescriptor (T j).2.2.1 = some t
theorem zfs_set {ad : Nat → Nat} {fs : List zF} {j : Nat} {t : zF} (hf : fs[j]? = some t) (f : Nat → Int) (z : Int) : (fs.mapIdx (fun i t => zfv ad t (f i))).set j (zfv ad t z) = fs.mapIdx (fun i t => zfv ad t (zu1 f j z i)) := by
  apply List.ext_getElem?
  intro i
  obtain ⟨hl, he⟩ := List.getElem?_eq_some_iff.mp hf
  rw [List.getElem?_set]
  by_cases hi : j = i
  · subst hi
    simp [List.getElem?_mapIdx, hl, zu1, he]
  · simp [hi, List.getElem?_mapIdx, zu1, Ne.symm hi]
theorem z_get {χ : zX} {cc : ByteArray} {own : String} {nL d : Nat} {ret : Option FieldType} {ad : Nat → Nat} {sh : List zE} {n1 n2 pc : Nat} {lv : List (Nat × Value)} {st : List Value} {μ : zMem} {idx ci j k : Nat} {fs : List zF} {t : zF} {v : Value} (K : zOk χ cc own nL d ret) (dg : decode cc pc = .ok (.getfield idx, 3)) (fl : zFl own idx ci j) (hs : sh[k]? = some (.inr (ci, fs))) (hf : fs[j]? = some t) (hv : zfv ad t (μ k j) = v)
    (kk : zV χ nL ad sh n1 n2 (pc + 3) lv (v :: st) μ) : zV χ nL ad sh n1 n2 pc lv (.ref (ad k) :: st) μ := by
  obtain ⟨p, l, e, R, s, m, args, below, meth, c, g, A, H0, Post, rc, rs⟩ := χ
  obtain ⟨hx, hb, hml, ho, ht, hn, hK, hlk, hret, hH, hA, hfr, hlo, hrc, hrs⟩ := K
  intro H locs ls hP hD hS hl
  obtain ⟨C, T, N, hc, hj, hlk2, hws⟩ := fl
  have he : (zw g ad sh μ)[k]? = some (ad k, .inr (ci, fs.mapIdx (fun i t => zfv ad t (μ k i)))) := zw_at hs
  have hv2 : (fs.mapIdx (fun i t => zfv ad t (μ k i)))[j]? = some v := by rw [List.getElem?_mapIdx, hf, ← hv]; rfl
  rcases hlk2 with h | ⟨host, h⟩
  · exact va_get hx hb ht hws ho hK hP k he hc j hj (ht _ h) (fun x h => h) hv2 dg (kk H locs ls hP hD hS hl)
  · exact va_getN hx hb ht hws ho hK hP k he hc j hj (va_Nw.use rfl (hn _ h)) (fun x h => h) hv2 dg (kk H locs ls hP hD hS hl)
theorem z_puti {χ : zX} {cc : ByteArray} {own : String} {nL d : Nat} {ret : Option FieldType} {ad : Nat → Nat} {sh : List zE} {n1 n2 pc : Nat} {lv : List (Nat × Value)} {st : List Value} {μ : zMem} {idx ci j k : Nat} {fs : List zF} {z : Int} (K : zOk χ cc own nL d ret) (dg : decode cc pc = .ok (.putfield idx, 3)) (fl : zFp own idx ci j .int) (hs : sh[k]? = some (.inr (ci, fs))) (hf : fs[j]? = some (.inl 0))
    (kk : zV χ nL ad sh n1 n2 (pc + 3) lv st (zup μ k (zu1 (μ k) j z))) : zV χ nL ad sh n1 n2 pc lv (.int (zi z) :: .ref (ad k) :: st) μ := by
  obtain ⟨p, l, e, R, s, m, args, below, meth, c, g, A, H0, Post, rc, rs⟩ := χ
  obtain ⟨hx, hb, hml, ho, ht, hn, hK, hlk, hret, hH, hA, hfr, hlo, hrc, hrs⟩ := K
  intro H locs ls hP hD hS hl
  obtain ⟨C, T, N, ty, hc, hj, hlk2, hws, hty, hnm, hfin, hd⟩ := fl
  have he : (zw g ad sh μ)[k]? = some (ad k, .inr (ci, fs.mapIdx (fun i t => zfv ad t (μ k i)))) := zw_at hs
  have e2 : (zw g ad sh μ).set k (ad k, .inr (ci, (fs.mapIdx (fun i t => zfv ad t (μ k i))).set j (.int (zi z)))) = zw g ad sh (zup μ k (zu1 (μ k) j z)) := by
    rw [← zw_set hs]
    exact congrArg (fun q => (zw g ad sh μ).set k (ad k, .inr (ci, q))) (zfs_set hf (μ k) z)
  have hl2 : j < (fs.mapIdx (fun i t => zfv ad t (μ k i))).length := by rw [List.length_mapIdx]; exact (List.getElem?_eq_some_iff.mp hf).1
  rcases hlk2 with h | ⟨host, h⟩
  · exact va_put hx hb ht hws ty hty hnm ho hK hP hD hS k he hc j hj (ht _ h) (fun x h => h) hfin hd rfl rfl hl2 dg (fun H1 locs1 a1 a2 a3 => kk H1 locs1 ls (e2 ▸ a1) (e2 ▸ a2) a3 hl)
  · exact va_putN hx hb ht hws ty hty hnm ho hK hP hD hS k he hc j hj (va_Nw.use rfl (hn _ h)) (fun x h => h) hfin hd rfl rfl hl2 dg (fun H1 locs1 a1 a2 a3 => kk H1 locs1 ls (e2 ▸ a1) (e2 ▸ a2) a3 hl)
theorem z_putl {χ : zX} {cc : ByteArray} {own : String} {nL d : Nat} {ret : Option FieldType} {ad : Nat → Nat} {sh : List zE} {n1 n2 pc : Nat} {lv : List (Nat × Value)} {st : List Value} {μ : zMem} {idx ci j k : Nat} {fs : List zF} {z : Int} (K : zOk χ cc own nL d ret) (dg : decode cc pc = .ok (.putfield idx, 3)) (fl : zFp own idx ci j .long) (hs : sh[k]? = some (.inr (ci, fs))) (hf : fs[j]? = some (.inl 1))
    (kk : zV χ nL ad sh n1 n2 (pc + 3) lv st (zup μ k (zu1 (μ k) j z))) : zV χ nL ad sh n1 n2 pc lv (.long (zl z) :: .ref (ad k) :: st) μ := by
  obtain ⟨p, l, e, R, s, m, args, below, meth, c, g, A, H0, Post, rc, rs⟩ := χ
  obtain ⟨hx, hb, hml, ho, ht, hn, hK, hlk, hret, hH, hA, hfr, hlo, hrc, hrs⟩ := K
  intro H locs ls hP hD hS hl
  obtain ⟨C, T, N, ty, hc, hj, hlk2, hws, hty, hnm, hfin, hd⟩ := fl
  have he : (zw g ad sh μ)[k]? = some (ad k, .inr (ci, fs.mapIdx (fun i t => zfv ad t (μ k i)))) := zw_at hs
  have e2 : (zw g ad sh μ).set k (ad k, .inr (ci, (fs.mapIdx (fun i t => zfv ad t (μ k i))).set j (.long (zl z)))) = zw g ad sh (zup μ k (zu1 (μ k) j z)) := by
    rw [← zw_set hs]
    exact congrArg (fun q => (zw g ad sh μ).set k (ad k, .inr (ci, q))) (zfs_set hf (μ k) z)
  have hl2 : j < (fs.mapIdx (fun i t => zfv ad t (μ k i))).length := by rw [List.length_mapIdx]; exact (List.getElem?_eq_some_iff.mp hf).1
  rcases hlk2 with h | ⟨host, h⟩
  · exact va_put hx hb ht hws ty hty hnm ho hK hP hD hS k he hc j hj (ht _ h) (fun x h => h) hfin hd rfl rfl hl2 dg (fun H1 locs1 a1 a2 a3 => kk H1 locs1 ls (e2 ▸ a1) (e2 ▸ a2) a3 hl)
  · exact va_putN hx hb ht hws ty hty hnm ho hK hP hD hS k he hc j hj (va_Nw.use rfl (hn _ h)) (fun x h => h) hfin hd rfl rfl hl2 dg (fun H1 locs1 a1 a2 a3 => kk H1 locs1 ls (e2 ▸ a1) (e2 ▸ a2) a3 hl)
theorem zu1_upd (f : Nat → Int) (j : Nat) (z : Int) : upd (fun i => zi (f i)) j (zi z) = fun i => zi (zu1 f j z i) := by
  funext q
  by_cases h : q = j
  · subst h; simp [upd, zu1]
  · simp [upd, zu1, h]
theorem z_iald {χ : zX} {cc : ByteArray} {own : String} {nL d : Nat} {ret : Option FieldType} {ad : Nat → Nat} {sh : List zE} {n1 n2 pc : Nat} {lv : List (Nat × Value)} {st : List Value} {μ : zMem} {k n : Nat} {i v : Int} (K : zOk χ cc own nL d ret) (dg : decode cc pc = .ok (.iaload, 1)) (j : Nat) (hs : sh[k]? = some (.inl (false, n))) (hn0 : n ≤ 100000) (hj : i = (j : Int)) (h1 : j < n) (hv : μ k j = v)
    (kk : zV χ nL ad sh n1 n2 (pc + 1) lv (.int (zi v) :: st) μ) : zV χ nL ad sh n1 n2 pc lv (.int (zi i) :: .ref (ad k) :: st) μ := by
  obtain ⟨p, l, e, R, s, m, args, below, meth, c, g, A, H0, Post, rc, rs⟩ := χ
  obtain ⟨hx, hb, hml, ho, ht, hn, hK, hlk, hret, hH, hA, hfr, hlo, hrc, hrs⟩ := K
  intro H locs ls hP hD hS hl
  have he : (zw g ad sh μ)[k]? = some (ad k, .inl (g.2.1, n, .inl (fun j => zi (μ k j)))) := zw_at hs
  subst hv
  refine va_iald hx hb hK hP k 0 he rfl (zi_in hj h1 hn0) dg ?_
  rw [zi_clamp hj (by omega)]
  exact kk H locs ls hP hD hS hl
theorem z_zald {χ : zX} {cc : ByteArray} {own : String} {nL d : Nat} {ret : Option FieldType} {ad : Nat → Nat} {sh : List zE} {n1 n2 pc : Nat} {lv : List (Nat × Value)} {st : List Value} {μ : zMem} {k n : Nat} {i v : Int} (K : zOk χ cc own nL d ret) (dg : decode cc pc = .ok (.baload, 1)) (j : Nat) (hs : sh[k]? = some (.inl (true, n))) (hn0 : n ≤ 100000) (hj : i = (j : Int)) (h1 : j < n) (hv : μ k j = v)
    (kk : zV χ nL ad sh n1 n2 (pc + 1) lv (.int (zi v) :: st) μ) : zV χ nL ad sh n1 n2 pc lv (.int (zi i) :: .ref (ad k) :: st) μ := by
  obtain ⟨p, l, e, R, s, m, args, below, meth, c, g, A, H0, Post, rc, rs⟩ := χ
  obtain ⟨hx, hb, hml, ho, ht, hn, hK, hlk, hret, hH, hA, hfr, hlo, hrc, hrs⟩ := K
  intro H locs ls hP hD hS hl
  have he : (zw g ad sh μ)[k]? = some (ad k, .inl (g.2.2, n, .inl (fun j => zi (μ k j)))) := zw_at hs
  subst hv
  refine va_zald hx hb hK hP k 1 he rfl (zi_in hj h1 hn0) dg ?_
  rw [zi_clamp hj (by omega)]
  exact kk H locs ls hP hD hS hl
theorem z_iast {χ : zX} {cc : ByteArray} {own : String} {nL d : Nat} {ret : Option FieldType} {ad : Nat → Nat} {sh : List zE} {n1 n2 pc : Nat} {lv : List (Nat × Value)} {st : List Value} {μ : zMem} {k n : Nat} {i z : Int} (K : zOk χ cc own nL d ret) (dg : decode cc pc = .ok (.iastore, 1)) (j : Nat) (hs : sh[k]? = some (.inl (false, n))) (hn0 : n ≤ 100000) (hj : i = (j : Int)) (h1 : j < n)
    (kk : zV χ nL ad sh n1 n2 (pc + 1) lv st (zup μ k (zu1 (μ k) j z))) : zV χ nL ad sh n1 n2 pc lv (.int (zi z) :: .int (zi i) :: .ref (ad k) :: st) μ := by
  obtain ⟨p, l, e, R, s, m, args, below, meth, c, g, A, H0, Post, rc, rs⟩ := χ
  obtain ⟨hx, hb, hml, ho, ht, hn, hK, hlk, hret, hH, hA, hfr, hlo, hrc, hrs⟩ := K
  intro H locs ls hP hD hS hl
  have he : (zw g ad sh μ)[k]? = some (ad k, .inl (g.2.1, n, .inl (fun j => zi (μ k j)))) := zw_at hs
  have e2 : (zw g ad sh μ).set k (ad k, .inl (g.2.1, n, .inl (upd (fun j => zi (μ k j)) (zi i).toNatClampNeg (zi z)))) = zw g ad sh (zup μ k (zu1 (μ k) j z)) := by
    rw [← zw_set hs, zi_clamp hj (by omega), zu1_upd]
    rfl
  exact va_iast hx hb hK hP hD hS k 0 he rfl (zi_in hj h1 hn0) dg (fun H1 locs1 a1 a2 a3 => kk H1 locs1 ls (e2 ▸ a1) (e2 ▸ a2) a3 hl)
theorem z_zast {χ : zX} {cc : ByteArray} {own : String} {nL d : Nat} {ret : Option FieldType} {ad : Nat → Nat} {sh : List zE} {n1 n2 pc : Nat} {lv : List (Nat × Value)} {st : List Value} {μ : zMem} {k n : Nat} {i z : Int} (K : zOk χ cc own nL d ret) (dg : decode cc pc = .ok (.bastore, 1)) (j : Nat) (hs : sh[k]? = some (.inl (true, n))) (hn0 : n ≤ 100000) (hj : i = (j : Int)) (h1 : j < n) (hz : z = 0 ∨ z = 1)
    (kk : zV χ nL ad sh n1 n2 (pc + 1) lv st (zup μ k (zu1 (μ k) j z))) : zV χ nL ad sh n1 n2 pc lv (.int (zi z) :: .int (zi i) :: .ref (ad k) :: st) μ := by
  obtain ⟨p, l, e, R, s, m, args, below, meth, c, g, A, H0, Post, rc, rs⟩ := χ
  obtain ⟨hx, hb, hml, ho, ht, hn, hK, hlk, hret, hH, hA, hfr, hlo, hrc, hrs⟩ := K
  intro H locs ls hP hD hS hl
  have he : (zw g ad sh μ)[k]? = some (ad k, .inl (g.2.2, n, .inl (fun j => zi (μ k j)))) := zw_at hs
  have hb9 : vp_nar .boolean (zi z) = zi z := by rcases hz with rfl | rfl <;> rfl
  have e2 : (zw g ad sh μ).set k (ad k, .inl (g.2.2, n, .inl (upd (fun j => zi (μ k j)) (zi i).toNatClampNeg (vp_nar .boolean (zi z))))) = zw g ad sh (zup μ k (zu1 (μ k) j z)) := by
    rw [← zw_set hs, zi_clamp hj (by omega), hb9, zu1_upd]
    rfl
  exact va_zast hx hb hK hP hD hS k 1 he rfl (zi_in hj h1 hn0) dg (fun H1 locs1 a1 a2 a3 => kk H1 locs1 ls (e2 ▸ a1) (e2 ▸ a2) a3 hl)
theorem z_iret {χ : zX} {cc : ByteArray} {own : String} {nL d : Nat} {ret : Option FieldType} {ad : Nat → Nat} {sh : List zE} {pc : Nat} {lv : List (Nat × Value)} {st : List Value} {μ : zMem} {x : Int32} {Po : Option Value → zMem → Prop} (K : zOk χ cc own nL d ret) (T : zRet χ ad sh Po) (hR : ret = some .int) (dg : decode cc pc = .ok (.ireturn, 1)) (h : Po (some (.int x)) μ) : zV χ nL ad sh 0 0 pc lv [.int x] μ := by
  obtain ⟨p, l, e, R, s, m, args, below, meth, c, g, A, H0, Post, rc, rs⟩ := χ
  obtain ⟨hx, hb, hml, ho, ht, hn, hK, hlk, hret, hH, hA, hfr, hlo, hrc, hrs⟩ := K
  intro H locs ls hP hD hS hl
  obtain ⟨hr1, hr2, hr3⟩ := T
  subst hr1; subst hr2; subst hH
  exact W.iret hx hb (hret.trans hR) (fun t ht9 hW => ⟨⟨_, ad, sh, μ, rfl, hr3 _ _ h, by rw [ht9]; exact hP, hD⟩, hS.F ht9⟩) hS.2.2 dg hlk
theorem z_zret {χ : zX} {cc : ByteArray} {own : String} {nL d : Nat} {ret : Option FieldType} {ad : Nat → Nat} {sh : List zE} {pc : Nat} {lv : List (Nat × Value)} {st : List Value} {μ : zMem} {z : Int} {Po : Option Value → zMem → Prop} (K : zOk χ cc own nL d ret) (T : zRet χ ad sh Po) (hR : ret = some .boolean) (dg : decode cc pc = .ok (.ireturn, 1)) (hz : z = 0 ∨ z = 1) (h : Po (some (.int (zi z))) μ) : zV χ nL ad sh 0 0 pc lv [.int (zi z)] μ := by
  obtain ⟨p, l, e, R, s, m, args, below, meth, c, g, A, H0, Post, rc, rs⟩ := χ
  obtain ⟨hx, hb, hml, ho, ht, hn, hK, hlk, hret, hH, hA, hfr, hlo, hrc, hrs⟩ := K
  intro H locs ls hP hD hS hl
  obtain ⟨hr1, hr2, hr3⟩ := T
  subst hr1; subst hr2; subst hH
  exact W.zret hx hb (hret.trans hR) (by rcases hz with rfl | rfl <;> rfl) (fun t ht9 hW => ⟨⟨_, ad, sh, μ, rfl, hr3 _ _ h, by rw [ht9]; exact hP, hD⟩, hS.F ht9⟩) hS.2.2 dg hlk
theorem z_lret {χ : zX} {cc : ByteArray} {own : String} {nL d : Nat} {ret : Option FieldType} {ad : Nat → Nat} {sh : List zE} {pc : Nat} {lv : List (Nat × Value)} {st : List Value} {μ : zMem} {x : Int64} {Po : Option Value → zMem → Prop} (K : zOk χ cc own nL d ret) (T : zRet χ ad sh Po) (hR : ret = some .long) (dg : decode cc pc = .ok (.lreturn, 1)) (h : Po (some (.long x)) μ) : zV χ nL ad sh 0 0 pc lv [.long x] μ := by
  obtain ⟨p, l, e, R, s, m, args, below, meth, c, g, A, H0, Post, rc, rs⟩ := χ
  obtain ⟨hx, hb, hml, ho, ht, hn, hK, hlk, hret, hH, hA, hfr, hlo, hrc, hrs⟩ := K
  intro H locs ls hP hD hS hl
  obtain ⟨hr1, hr2, hr3⟩ := T
  subst hr1; subst hr2; subst hH
  exact W.lret hx hb (hret.trans hR) (fun t ht9 hW => ⟨⟨_, ad, sh, μ, rfl, hr3 _ _ h, by rw [ht9]; exact hP, hD⟩, hS.F ht9⟩) hS.2.2 dg hlk
theorem z_vret {χ : zX} {cc : ByteArray} {own : String} {nL d : Nat} {ret : Option FieldType} {ad : Nat → Nat} {sh : List zE} {pc : Nat} {lv : List (Nat × Value)} {st : List Value} {μ : zMem}  {Po : Option Value → zMem → Prop} (K : zOk χ cc own nL d ret) (T : zRet χ ad sh Po) (hR : ret = none) (dg : decode cc pc = .ok (.return_, 1)) (h : Po (none) μ) : zV χ nL ad sh 0 0 pc lv [] μ := by
  obtain ⟨p, l, e, R, s, m, args, below, meth, c, g, A, H0, Post, rc, rs⟩ := χ
  obtain ⟨hx, hb, hml, ho, ht, hn, hK, hlk, hret, hH, hA, hfr, hlo, hrc, hrs⟩ := K
  intro H locs ls hP hD hS hl
  obtain ⟨hr1, hr2, hr3⟩ := T
  subst hr1; subst hr2; subst hH
  exact W.vret hx hb (hret.trans hR) (fun t ht9 hW => ⟨⟨_, ad, sh, μ, rfl, hr3 _ _ h, by rw [ht9]; exact hP, hD⟩, hS.F ht9⟩) hS.2.2 dg hlk
end
section
-- calls
def zCd (y : MethodName) (cc : ByteArray) (maxL : Nat) (ret : Option FieldType) (n : Nat) : Prop := Cond.code y cc maxL ret ∈ lw_g ∧ Cond.initialized y.cls ∈ lw_g ∧ (y.cls ≠ "java/lang/invoke/MethodHandle" ∧ y.cls ≠ "java/lang/invoke/VarHandle" ∧ (parseMethodDescriptor y.desc).map (fun d => d.parameters.length) = some n) ∧ maxL ≤ 17
def zLk (own : String) (idx : Nat) (y : MethodName) : Prop := Cond.methodLink own idx y ∈ lw_g ∨ ∃ host, Cond.methodLinkNest own idx y host ∈ lw_n
def zLv (own : String) (idx : Nat) (y : MethodName) : Prop := Cond.instanceMethod y ∈ lw_g ∧ Cond.selects y.cls y y ∈ lw_g ∧ zLk own idx y
def zLs (own : String) (idx : Nat) (y : MethodName) : Prop := Cond.static y ∈ lw_g ∧ zLk own idx y
section ZC
variable {p : Program} {l : Launch} {e : Env} {R : Room} {s : State} {m : MethodId} {args : Array Value} {below : List Frame} {meth : Method} {c : Code} {H : Heap} {locs : List Loc} {cells slots : Nat} {Q : State → Prop}
theorem z_cont {pc : Nat} {ls : Array Slot} {st0 rest : List Value} {a : Array Value} {A0 A1 : Nat → Prop} {H0 : Heap} {g : zG} {Po : Option Value → (Nat → Nat) → List zE → zMem → Prop} {mc ms : Nat}
    (hr : va_Run p l e R s m args below meth c H locs cells slots mc ms (F0 m pc ls st0) rest (zQ g A1 Po a) A1) (hS : va_S A0 H0 H locs) (hA : ∀ q, A1 q → A0 q)
    (kk : ∀ (v : Option Value) (ad : Nat → Nat) (sh : List zE) (μ : zMem) (H1 : Heap) (locs1 : List Loc), Po v ad sh μ → va_P g.1 vwCl (zw g ad sh μ) H1 → va_D A1 (zw g ad sh μ) → va_S A0 H0 H1 locs1 →
      W p l e R s m args below meth c H1 locs1 (cells + mc) (slots + ms) Q (F0 m (pc + 3) ls (v.toList ++ rest))) : W p l e R s m args below meth c H locs cells slots Q (F0 m pc ls st0) := by
  intro T hT X
  obtain ⟨v, st₀, t, T', L, h0, X', hL, e1, e2, ⟨⟨v', ad, sh, μ, hv, hp, hb, hd⟩, hz, hk⟩, st⟩ := hr T hT X
  cases hv
  rw [h0] at hz hk
  obtain ⟨t2, a1, b1⟩ := kk v ad sh μ T'.heap (locs ++ L) hp (by rw [e1]; exact hb) hd
    ⟨Nat.le_trans hS.1 (by rw [e1]; exact hz), fun q h1 h2 => by rw [e1, hk q (Nat.lt_of_lt_of_le h1 hS.1) (fun z => h2 (hA q z))]; exact hS.2.1 q h1 h2, fun q hq => by
      rcases List.mem_append.mp hq with h | h
      · exact hS.2.2 q h
      · exact hA _ (hL q h)⟩ T' rfl X'
  exact ⟨t2, st t2 a1, b1⟩
end ZC
theorem zA_sub {A : Nat → Prop} {g : zG} {ad : Nat → Nat} {sh : List zE} {μ : zMem} {H0 H : Heap} {locs : List Loc} (hD : va_D A (zw g ad sh μ)) (hS : va_S A H0 H locs) (hA : ∀ q, H0.size ≤ q → A q) : ∀ q, zA ad sh.length H.size q → A q := by
  intro q h
  rcases h with ⟨k, h1, rfl⟩ | h
  · exact zD_at hD h1
  · exact hA q (Nat.le_trans hS.1 h)
theorem zU_of {s U : State} {H : Heap} {g : zG} {ad : Nat → Nat} {sh : List zE} {μ : zMem} {A : Nat → Prop} (hU : U.heap = H) (hW : s.WarmedH U.vm) (hP : va_P g.1 vwCl (zw g ad sh μ) H) (hD : va_D A (zw g ad sh μ)) (hK : va_K g.1 vwCl (zT g) s) (hn : ∀ w ∈ lw_n, va_Nw w s) : zU g ad sh μ U :=
  ⟨by rw [hU]; exact hP, va_K.moved hW.alike hK, hD.weaken (fun _ _ _ _ => trivial), zn_warm hW hn⟩
set_option maxHeartbeats 4000000 in
theorem z_callV {χ : zX} {cc : ByteArray} {own : String} {nL d : Nat} {ret : Option FieldType} {ad : Nat → Nat} {sh : List zE} {n1 n2 pc : Nat} {lv : List (Nat × Value)} {st : List Value} {μ : zMem} (K : zOk χ cc own nL d ret) {l : Launch} {g : zG} (hl1 : χ.2.1 = l) (hg1 : χ.2.2.2.2.2.2.2.2.2.2.1 = g)
    {y : MethodName} {cc' : ByteArray} {maxL' : Nat} {ret' : Option FieldType} {d' idx n kb ci N : Nat} {T : u_T} {fs : List zF} {As rest : List Value} {Po : Option Value → zMem → Prop}
    (C : zCon l g y cc' maxL' ret' d' ad sh (.ref (ad kb) :: As) μ Po) (hd : d' < d) (lk : zLv own idx y) (cd : zCd y cc' maxL' ret' n) (hs : sh[kb]? = some (.inr (ci, fs))) (hc : vwCl[ci]? = some (y.cls, T, N))
    (hn1 : As.length = n) (hst : st = As.reverse ++ .ref (ad kb) :: rest) (hr8 : (rest.map fun v => v.category).sum ≤ 8) (dg : decode cc pc = .ok (.invokevirtual idx, 3)) (h12 : n1 = 0 ∧ n2 = 0)
    (kk : ∀ v μ', Po v μ' → zV χ nL ad sh n1 n2 (pc + 3) lv (v.toList ++ rest) μ') : zV χ nL ad sh n1 n2 pc lv st μ := by
  obtain ⟨p, l, e, R, s, m, args, below, meth, c, g, A, H0, Post, rc, rs⟩ := χ
  obtain ⟨hx, hb, hml, ho, ht, hn, hK, hlk, hret, hH, hA, hfr, hlo, hrc, hrs⟩ := K
  subst hl1; subst hg1; subst hst
  obtain ⟨hn10, hn20⟩ := h12
  subst hn10; subst hn20
  intro H locs ls hP hD hS hl
  obtain ⟨hcd, hini, hdd, hml'⟩ := cd
  obtain ⟨hinst, hsel, hlnk⟩ := lk
  have hR : ({ frames := d', cells := 0, slots := 0, locals := 36 * d' } : Room).frames + 1 ≤ R.frames ∧ 8 + (maxL' + 11) + ({ frames := d', cells := 0, slots := 0, locals := 36 * d' } : Room).locals ≤ R.locals := by
    constructor
    · show d' + 1 ≤ _; omega
    · show 8 + (maxL' + 11) + 36 * d' ≤ _; omega
  have hp : PreV s H y.cls (ad kb) (va_Pc (.ref (ad kb) :: As) (fun U => U.heap.size = H.size ∧ zU g ad sh μ U)) As := ⟨zU_blind, va_recv hK hP hc (zw_at hs), fun U hU hW => ⟨rfl, by rw [hU], zU_of hU hW hP hD hK hn⟩⟩
  have hrun : va_Run p l e R s m args below meth c H locs 0 0 0 0 (F0 m pc ls (As.reverse ++ .ref (ad kb) :: rest)) rest (zQ g (zA ad sh.length H.size) (fun v ad' sh' μ' => ad' = ad ∧ sh' = sh ∧ Po v μ') (Value.ref (ad kb) :: As).toArray) (zA ad sh.length H.size) := by
    rcases hlnk with h | ⟨host, h⟩
    · exact va_runV ⟨hx, hb, hml, ho, ht⟩ (C H.size) ⟨callB_of n ht (zg_good hcd) rfl rfl rfl (ht _ hini) (ht _ h) hdd hR, ht _ hinst, ht _ hsel⟩ hp rfl hn1 hl.1 rfl (lv_room hr8) dg ⟨Nat.zero_le _, Nat.zero_le _⟩
    · exact va_runVN ⟨hx, hb, hml, ho, ht⟩ (C H.size) ⟨va_cnB n ht (zg_good hcd) rfl rfl rfl (hn _ h) (ht _ hini) hdd hR, ht _ hinst, ht _ hsel⟩ hp rfl hn1 hl.1 rfl (lv_room hr8) dg ⟨Nat.zero_le _, Nat.zero_le _⟩
  refine z_cont hrun hS (zA_sub hD hS hA) (fun v ad' sh' μ' H1 locs1 hpo hP1 hD1 hS1 => ?_)
  obtain ⟨rfl, rfl, hpo⟩ := hpo
  exact kk v μ' hpo H1 locs1 ls hP1 (hD1.weaken (fun k q _ h => zA_sub hD hS hA _ h)) hS1 hl
set_option maxHeartbeats 4000000 in
theorem z_callS {χ : zX} {cc : ByteArray} {own : String} {nL d : Nat} {ret : Option FieldType} {ad : Nat → Nat} {sh : List zE} {n1 n2 pc : Nat} {lv : List (Nat × Value)} {st : List Value} {μ : zMem} (K : zOk χ cc own nL d ret) {l : Launch} {g : zG} (hl1 : χ.2.1 = l) (hg1 : χ.2.2.2.2.2.2.2.2.2.2.1 = g)
    {y : MethodName} {cc' : ByteArray} {maxL' : Nat} {ret' : Option FieldType} {d' idx n : Nat} {As rest : List Value} {Po : Option Value → zMem → Prop}
    (C : zCon l g y cc' maxL' ret' d' ad sh As μ Po) (hd : d' < d) (lk : zLs own idx y) (cd : zCd y cc' maxL' ret' n)
    (hn1 : As.length = n) (hst : st = As.reverse ++ rest) (hr8 : (rest.map fun v => v.category).sum ≤ 8) (dg : decode cc pc = .ok (.invokestatic idx, 3)) (h12 : n1 = 0 ∧ n2 = 0)
    (kk : ∀ v μ', Po v μ' → zV χ nL ad sh n1 n2 (pc + 3) lv (v.toList ++ rest) μ') : zV χ nL ad sh n1 n2 pc lv st μ := by
  obtain ⟨p, l, e, R, s, m, args, below, meth, c, g, A, H0, Post, rc, rs⟩ := χ
  obtain ⟨hx, hb, hml, ho, ht, hn, hK, hlk, hret, hH, hA, hfr, hlo, hrc, hrs⟩ := K
  subst hl1; subst hg1; subst hst
  obtain ⟨hn10, hn20⟩ := h12
  subst hn10; subst hn20
  intro H locs ls hP hD hS hl
  obtain ⟨hcd, hini, hdd, hml'⟩ := cd
  obtain ⟨hstt, hlnk⟩ := lk
  have hR : ({ frames := d', cells := 0, slots := 0, locals := 36 * d' } : Room).frames + 1 ≤ R.frames ∧ 8 + (maxL' + 11) + ({ frames := d', cells := 0, slots := 0, locals := 36 * d' } : Room).locals ≤ R.locals := by
    constructor
    · show d' + 1 ≤ _; omega
    · show 8 + (maxL' + 11) + 36 * d' ≤ _; omega
  have hp : PreS s H (va_Pc As (fun U => U.heap.size = H.size ∧ zU g ad sh μ U)) As := ⟨zU_blind, fun U hU hW => ⟨rfl, by rw [hU], zU_of hU hW hP hD hK hn⟩⟩
  have hrun : va_Run p l e R s m args below meth c H locs 0 0 0 0 (F0 m pc ls (As.reverse ++ rest)) rest (zQ g (zA ad sh.length H.size) (fun v ad' sh' μ' => ad' = ad ∧ sh' = sh ∧ Po v μ') As.toArray) (zA ad sh.length H.size) := by
    rcases hlnk with h | ⟨host, h⟩
    · exact va_runS ⟨hx, hb, hml, ho, ht⟩ (C H.size) ⟨callB_of n ht (zg_good hcd) rfl rfl rfl (ht _ hini) (ht _ h) hdd hR, ht _ hstt⟩ hp rfl hn1 hl.1 rfl (lv_room hr8) dg ⟨Nat.zero_le _, Nat.zero_le _⟩
    · exact va_runSN ⟨hx, hb, hml, ho, ht⟩ (C H.size) ⟨va_cnB n ht (zg_good hcd) rfl rfl rfl (hn _ h) (ht _ hini) hdd hR, ht _ hstt, trivial⟩ hp rfl hn1 hl.1 rfl (lv_room hr8) dg ⟨Nat.zero_le _, Nat.zero_le _⟩
  refine z_cont hrun hS (zA_sub hD hS hA) (fun v ad' sh' μ' H1 locs1 hpo hP1 hD1 hS1 => ?_)
  obtain ⟨rfl, rfl, hpo⟩ := hpo
  exact kk v μ' hpo H1 locs1 ls hP1 (hD1.weaken (fun k q _ h => zA_sub hD hS hA _ h)) hS1 hl
-- Math and System
def zcpy (f g : Nat → Int) (sp dp n : Nat) : Nat → Int := fun k => if dp ≤ k ∧ k < dp + n then f (sp + (k - dp)) else g k
theorem zcpy_va (f g : Nat → Int) (sp dp n : Nat) : va_cpy (fun j => zi (f j)) (fun j => zi (g j)) sp dp n = fun j => zi (zcpy f g sp dp n j) := by
  funext k
  unfold va_cpy zcpy
  split <;> rfl
set_option maxHeartbeats 4000000 in
theorem z_copy {χ : zX} {cc : ByteArray} {own : String} {nL d : Nat} {ret : Option FieldType} {ad : Nat → Nat} {sh : List zE} {n1 n2 pc : Nat} {lv : List (Nat × Value)} {st : List Value} {μ : zMem} (K : zOk χ cc own nL d ret)
    {idx k0 k1 m0 m1 : Nat} {sp dp n : Int} (dg : decode cc pc = .ok (.invokestatic idx, 3)) (lk : Cond.methodLink own idx arraycopyName ∈ lw_g ∧ Cond.native arraycopyName ∈ lw_g ∧ Cond.static arraycopyName ∈ lw_g ∧ Cond.initialized "java/lang/System" ∈ lw_g) (hd : 1 ≤ d)
    (hs0 : sh[k0]? = some (.inl (false, m0))) (hs1 : sh[k1]? = some (.inl (false, m1))) (sp' dp' n' : Nat) (e1 : sp = (sp' : Int)) (e2 : dp = (dp' : Int)) (e3 : n = (n' : Int)) (b0 : sp' + n' ≤ m0 ∧ m0 ≤ 100000) (b1 : dp' + n' ≤ m1 ∧ m1 ≤ 100000) (hr8 : (st.map fun v => v.category).sum ≤ 8)
    (kk : zV χ nL ad sh n1 n2 (pc + 3) lv st (zup μ k1 (zcpy (μ k0) (μ k1) sp' dp' n'))) : zV χ nL ad sh n1 n2 pc lv (.int (zi n) :: .int (zi dp) :: .ref (ad k1) :: .int (zi sp) :: .ref (ad k0) :: st) μ := by
  obtain ⟨p, l, e, R, s, m, args, below, meth, c, g, A, H0, Post, rc, rs⟩ := χ
  obtain ⟨hx, hb, hml, ho, ht, hn, hK, hlk, hret, hH, hA, hfr, hlo, hrc, hrs⟩ := K
  intro H locs ls hP hD hS hl
  have he0 : (zw g ad sh μ)[k0]? = some (ad k0, .inl (g.2.1, m0, .inl (fun j => zi (μ k0 j)))) := zw_at hs0
  have he1 : (zw g ad sh μ)[k1]? = some (ad k1, .inl (g.2.1, m1, .inl (fun j => zi (μ k1 j)))) := zw_at hs1
  have f1 : (zi sp).toNatClampNeg = sp' := zi_clamp e1 (by omega)
  have f2 : (zi dp).toNatClampNeg = dp' := zi_clamp e2 (by omega)
  have f3 : (zi n).toNatClampNeg = n' := zi_clamp e3 (by omega)
  have nn : ∀ (z : Int) (j : Nat), z = (j : Int) → j ≤ 100000 → ¬ zi z < 0 := fun z j h h2 => by
    subst h
    rw [zi_nat]
    exact nI_pos (by omega)
  have e9 : (zw g ad sh μ).set k1 (ad k1, .inl (g.2.1, m1, .inl (va_cpy (fun j => zi (μ k0 j)) (fun j => zi (μ k1 j)) (zi sp).toNatClampNeg (zi dp).toNatClampNeg (zi n).toNatClampNeg))) = zw g ad sh (zup μ k1 (zcpy (μ k0) (μ k1) sp' dp' n')) := by
    rw [← zw_set hs1, f1, f2, f3, zcpy_va]
    rfl
  have hw : nativeFrameWords "java/lang/System" "arraycopy" 5 = 7 := by decide
  refine va_copyi hx hb (by rw [hml]; exact hl.1.symm) ho (ht _ lk.1) (ht _ lk.2.1) (ht _ lk.2.2.1) (ht _ lk.2.2.2) hK hP hD hS k0 k1 0 0 he0 he1 rfl rfl rfl (nn _ _ e1 (by omega)) (nn _ _ e2 (by omega)) (nn _ _ e3 (by omega)) (by rw [f1, f3]; omega) (by rw [f2, f3]; omega) (fun _ _ => rfl) (by omega) (by rw [hw]; omega) dg (fun H1 locs1 a1 a2 a3 => kk H1 locs1 ls (e9 ▸ a1) (e9 ▸ a2) a3 hl)
def zLm (own : String) (idx : Nat) (y : MethodName) (cc : ByteArray) (n : Nat) : Prop := Cond.methodLink own idx y ∈ lw_g ∧ Cond.static y ∈ lw_g ∧ Cond.initialized "java/lang/Math" ∈ lw_g ∧ Cond.code y cc n (some .int) ∈ lw_g
theorem z_max {χ : zX} {cc : ByteArray} {own : String} {nL d : Nat} {ret : Option FieldType} {ad : Nat → Nat} {sh : List zE} {pc : Nat} {lv : List (Nat × Value)} {st : List Value} {μ : zMem} (K : zOk χ cc own nL d ret)
    {idx : Nat} {a b : Int} (dg : decode cc pc = .ok (.invokestatic idx, 3)) (lk : zLm own idx Lib.Math.max.name Lib.Math.max.code 2) (hd : 1 ≤ d) (ha : zR a) (hb2 : zR b) (hr8 : (st.map fun v => v.category).sum ≤ 8)
    (kk : zV χ nL ad sh 0 0 (pc + 3) lv (.int (zi (max a b)) :: st) μ) : zV χ nL ad sh 0 0 pc lv (.int (zi b) :: .int (zi a) :: st) μ := by
  obtain ⟨p, l, e, R, s, m, args, below, meth, c, g, A, H0, Post, rc, rs⟩ := χ
  obtain ⟨hx, hb, hml, ho, ht, hn, hK, hlk, hret, hH, hA, hfr, hlo, hrc, hrs⟩ := K
  intro H locs ls hP hD hS hl
  have hq : (if zi a < zi b then zi b else zi a) = zi (max a b) := by
    rw [Int.max_def]
    by_cases h : a < b
    · rw [if_pos ((zi_lt ha hb2).mpr h), if_pos (by omega)]
    · rw [if_neg (fun q => h ((zi_lt ha hb2).mp q))]
      by_cases h2 : a ≤ b
      · rw [if_pos h2, show a = b by omega]
      · rw [if_neg h2]
  exact va_mmax hx hb (by rw [hml]; exact hl.1.symm) ho (ht _ lk.1) (ht _ lk.2.1) (ht _ lk.2.2.1) (ht _ lk.2.2.2) (by omega) (by omega) (Nat.zero_le _) (Nat.zero_le _) dg (by rw [hq]; exact kk H locs ls hP hD hS hl)
theorem z_min {χ : zX} {cc : ByteArray} {own : String} {nL d : Nat} {ret : Option FieldType} {ad : Nat → Nat} {sh : List zE} {pc : Nat} {lv : List (Nat × Value)} {st : List Value} {μ : zMem} (K : zOk χ cc own nL d ret)
    {idx : Nat} {a b : Int} (dg : decode cc pc = .ok (.invokestatic idx, 3)) (lk : zLm own idx Lib.Math.min.name Lib.Math.min.code 2) (hd : 1 ≤ d) (ha : zR a) (hb2 : zR b) (hr8 : (st.map fun v => v.category).sum ≤ 8)
    (kk : zV χ nL ad sh 0 0 (pc + 3) lv (.int (zi (min a b)) :: st) μ) : zV χ nL ad sh 0 0 pc lv (.int (zi b) :: .int (zi a) :: st) μ := by
  obtain ⟨p, l, e, R, s, m, args, below, meth, c, g, A, H0, Post, rc, rs⟩ := χ
  obtain ⟨hx, hb, hml, ho, ht, hn, hK, hlk, hret, hH, hA, hfr, hlo, hrc, hrs⟩ := K
  intro H locs ls hP hD hS hl
  have h1 : min a b = if b < a then b else a := by
    rw [Int.min_def]
    split <;> split <;> omega
  exact va_mmin hx hb (by rw [hml]; exact hl.1.symm) ho (ht _ lk.1) (ht _ lk.2.1) (ht _ lk.2.2.1) (ht _ lk.2.2.2) (by omega) (by omega) (Nat.zero_le _) (Nat.zero_le _) dg (by
    have h2 := kk H locs ls hP hD hS hl
    rw [h1] at h2
    by_cases h : b < a
    · have h3 := (zi_lt hb2 ha).mpr h
      simp only [h, h3, if_true, if_pos] at h2 ⊢
      exact h2
    · have h3 : ¬ zi b < zi a := fun q => h ((zi_lt hb2 ha).mp q)
      simp only [h, h3, if_false, if_neg] at h2 ⊢
      first | exact h2 | (simp only [gt_iff_lt, h3, if_false] ; exact h2))
theorem z_abs {χ : zX} {cc : ByteArray} {own : String} {nL d : Nat} {ret : Option FieldType} {ad : Nat → Nat} {sh : List zE} {pc : Nat} {lv : List (Nat × Value)} {st : List Value} {μ : zMem} (K : zOk χ cc own nL d ret)
    {idx : Nat} {a : Int} (dg : decode cc pc = .ok (.invokestatic idx, 3)) (lk : zLm own idx Lib.Math.abs.name Lib.Math.abs.code 1) (hd : 1 ≤ d) (ha : zR a) (hr8 : (st.map fun v => v.category).sum ≤ 8)
    (kk : zV χ nL ad sh 0 0 (pc + 3) lv (.int (zi (a.natAbs : Int)) :: st) μ) : zV χ nL ad sh 0 0 pc lv (.int (zi a) :: st) μ := by
  obtain ⟨p, l, e, R, s, m, args, below, meth, c, g, A, H0, Post, rc, rs⟩ := χ
  obtain ⟨hx, hb, hml, ho, ht, hn, hK, hlk, hret, hH, hA, hfr, hlo, hrc, hrs⟩ := K
  intro H locs ls hP hD hS hl
  have hz : zR 0 := ⟨by decide, by decide⟩
  have hq : (if 0 ≤ zi a then zi a else 0 - zi a) = zi (a.natAbs : Int) := by
    rw [show (0 : Int32) = zi 0 from rfl]
    by_cases h : 0 ≤ a
    · rw [if_pos ((zi_le hz ha).mpr h)]
      exact congrArg zi (by omega)
    · rw [if_neg (fun q => h ((zi_le hz ha).mp q)), zi_sub]
      exact congrArg zi (by omega)
  exact va_mabs hx hb (by rw [hml]; exact hl.1.symm) ho (ht _ lk.1) (ht _ lk.2.1) (ht _ lk.2.2.1) (ht _ lk.2.2.2) (by omega) (by omega) (Nat.zero_le _) (Nat.zero_le _) dg (by rw [hq]; exact kk H locs ls hP hD hS hl)
end
section
theorem zws_in (ws : List Cond) (ps : List Nat) (hp : ws = ps.filterMap (fun i => lw_tbl[i]?)) (h : ws.all goodWord = true) : ∀ w ∈ ws, w ∈ lw_g := by
  intro w hw
  have h1 := List.all_eq_true.mp h w hw
  rw [hp] at hw
  obtain ⟨i, -, hi⟩ := List.mem_filterMap.mp hw
  exact zg_in i hi h1
theorem in_X0 : ∀ w ∈ u_ws RX0 TX0 1, w ∈ lw_g := zws_in _ [254] (by decide +kernel) (by decide +kernel)
theorem in_X1 : ∀ w ∈ u_ws RX1 TX1 3, w ∈ lw_g := zws_in _ [153, 155, 157] (by decide +kernel) (by decide +kernel)
theorem in_X2 : ∀ w ∈ u_ws RX2 TX2 8, w ∈ lw_g := zws_in _ [177, 179, 181, 183, 185, 187, 189, 191] (by decide +kernel) (by decide +kernel)
theorem in_X3 : ∀ w ∈ u_ws RX3 TX3 3, w ∈ lw_g := zws_in _ [220, 222, 224] (by decide +kernel) (by decide +kernel)
theorem in_X4 : ∀ w ∈ u_ws RX4 TX4 9, w ∈ lw_g := zws_in _ [109, 111, 113, 115, 117, 119, 121, 123, 125] (by decide +kernel) (by decide +kernel)
theorem in_X5 : ∀ w ∈ u_ws RX5 TX5 3, w ∈ lw_g := zws_in _ [133, 135, 137] (by decide +kernel) (by decide +kernel)
theorem in_X6 : ∀ w ∈ u_ws RX6 TX6 2, w ∈ lw_g := zws_in _ [211, 213] (by decide +kernel) (by decide +kernel)
theorem in_X7 : ∀ w ∈ u_ws RX7 TX7 3, w ∈ lw_g := zws_in _ [239, 241, 243] (by decide +kernel) (by decide +kernel)
theorem in_X8 : ∀ w ∈ u_ws RX8 TX8 10, w ∈ lw_g := zws_in _ [267, 269, 271, 273, 275, 277, 279, 281, 283, 285] (by decide +kernel) (by decide +kernel)
theorem in_X9 : ∀ w ∈ u_ws RX9 TX9 34, w ∈ lw_g := zws_in _ [768, 770, 772, 774, 776, 778, 780, 782, 784, 786, 788, 790, 792, 794, 796, 798, 800, 802, 804, 806, 808, 810, 812, 814, 816, 818, 820, 822, 824, 826, 828, 830, 832, 834] (by decide +kernel) (by decide +kernel)
theorem fl_X4_30 : zFl RX4 30 4 0 := ⟨RX4, TX4, 9, rfl, by decide, (Or.inl (zg_in 76 (by decide +kernel) rfl)), in_X4⟩
theorem fp_X4_30 : zFp RX4 30 4 0 .int := ⟨RX4, TX4, 9, tyX4, rfl, by decide, (Or.inl (zg_in 76 (by decide +kernel) rfl)), in_X4, tyX4_ok, nmX4, rfl, by decide +kernel⟩
theorem fl_X1_22 : zFl RX1 22 4 0 := ⟨RX4, TX4, 9, rfl, by decide, (Or.inr ⟨_, zn_in (w := .fieldLinkNest RX1 22 "PigeonMail$Plan" "letters" "I" "PigeonMail") 77 (by decide +kernel) rfl⟩), in_X4⟩
theorem fp_X1_22 : zFp RX1 22 4 0 .int := ⟨RX4, TX4, 9, tyX4, rfl, by decide, (Or.inr ⟨_, zn_in (w := .fieldLinkNest RX1 22 "PigeonMail$Plan" "letters" "I" "PigeonMail") 77 (by decide +kernel) rfl⟩), in_X4, tyX4_ok, nmX4, rfl, by decide +kernel⟩
theorem fl_X8_95 : zFl RX8 95 4 0 := ⟨RX4, TX4, 9, rfl, by decide, (Or.inr ⟨_, zn_in (w := .fieldLinkNest RX8 95 "PigeonMail$Plan" "letters" "I" "PigeonMail") 78 (by decide +kernel) rfl⟩), in_X4⟩
theorem fp_X8_95 : zFp RX8 95 4 0 .int := ⟨RX4, TX4, 9, tyX4, rfl, by decide, (Or.inr ⟨_, zn_in (w := .fieldLinkNest RX8 95 "PigeonMail$Plan" "letters" "I" "PigeonMail") 78 (by decide +kernel) rfl⟩), in_X4, tyX4_ok, nmX4, rfl, by decide +kernel⟩
theorem fl_X5_47 : zFl RX5 47 4 0 := ⟨RX4, TX4, 9, rfl, by decide, (Or.inr ⟨_, zn_in (w := .fieldLinkNest RX5 47 "PigeonMail$Plan" "letters" "I" "PigeonMail") 79 (by decide +kernel) rfl⟩), in_X4⟩
theorem fp_X5_47 : zFp RX5 47 4 0 .int := ⟨RX4, TX4, 9, tyX4, rfl, by decide, (Or.inr ⟨_, zn_in (w := .fieldLinkNest RX5 47 "PigeonMail$Plan" "letters" "I" "PigeonMail") 79 (by decide +kernel) rfl⟩), in_X4, tyX4_ok, nmX4, rfl, by decide +kernel⟩
theorem fl_X2_94 : zFl RX2 94 4 0 := ⟨RX4, TX4, 9, rfl, by decide, (Or.inr ⟨_, zn_in (w := .fieldLinkNest RX2 94 "PigeonMail$Plan" "letters" "I" "PigeonMail") 80 (by decide +kernel) rfl⟩), in_X4⟩
theorem fp_X2_94 : zFp RX2 94 4 0 .int := ⟨RX4, TX4, 9, tyX4, rfl, by decide, (Or.inr ⟨_, zn_in (w := .fieldLinkNest RX2 94 "PigeonMail$Plan" "letters" "I" "PigeonMail") 80 (by decide +kernel) rfl⟩), in_X4, tyX4_ok, nmX4, rfl, by decide +kernel⟩
theorem fl_X4_34 : zFl RX4 34 4 1 := ⟨RX4, TX4, 9, rfl, by decide, (Or.inl (zg_in 81 (by decide +kernel) rfl)), in_X4⟩
theorem fp_X4_34 : zFp RX4 34 4 1 .int := ⟨RX4, TX4, 9, tyX4, rfl, by decide, (Or.inl (zg_in 81 (by decide +kernel) rfl)), in_X4, tyX4_ok, nmX4, rfl, by decide +kernel⟩
theorem fl_X1_31 : zFl RX1 31 4 1 := ⟨RX4, TX4, 9, rfl, by decide, (Or.inr ⟨_, zn_in (w := .fieldLinkNest RX1 31 "PigeonMail$Plan" "clerks" "I" "PigeonMail") 82 (by decide +kernel) rfl⟩), in_X4⟩
theorem fp_X1_31 : zFp RX1 31 4 1 .int := ⟨RX4, TX4, 9, tyX4, rfl, by decide, (Or.inr ⟨_, zn_in (w := .fieldLinkNest RX1 31 "PigeonMail$Plan" "clerks" "I" "PigeonMail") 82 (by decide +kernel) rfl⟩), in_X4, tyX4_ok, nmX4, rfl, by decide +kernel⟩
theorem fl_X2_59 : zFl RX2 59 4 1 := ⟨RX4, TX4, 9, rfl, by decide, (Or.inr ⟨_, zn_in (w := .fieldLinkNest RX2 59 "PigeonMail$Plan" "clerks" "I" "PigeonMail") 83 (by decide +kernel) rfl⟩), in_X4⟩
theorem fp_X2_59 : zFp RX2 59 4 1 .int := ⟨RX4, TX4, 9, tyX4, rfl, by decide, (Or.inr ⟨_, zn_in (w := .fieldLinkNest RX2 59 "PigeonMail$Plan" "clerks" "I" "PigeonMail") 83 (by decide +kernel) rfl⟩), in_X4, tyX4_ok, nmX4, rfl, by decide +kernel⟩
theorem fl_X8_99 : zFl RX8 99 4 1 := ⟨RX4, TX4, 9, rfl, by decide, (Or.inr ⟨_, zn_in (w := .fieldLinkNest RX8 99 "PigeonMail$Plan" "clerks" "I" "PigeonMail") 84 (by decide +kernel) rfl⟩), in_X4⟩
theorem fp_X8_99 : zFp RX8 99 4 1 .int := ⟨RX4, TX4, 9, tyX4, rfl, by decide, (Or.inr ⟨_, zn_in (w := .fieldLinkNest RX8 99 "PigeonMail$Plan" "clerks" "I" "PigeonMail") 84 (by decide +kernel) rfl⟩), in_X4, tyX4_ok, nmX4, rfl, by decide +kernel⟩
theorem fl_X5_50 : zFl RX5 50 4 1 := ⟨RX4, TX4, 9, rfl, by decide, (Or.inr ⟨_, zn_in (w := .fieldLinkNest RX5 50 "PigeonMail$Plan" "clerks" "I" "PigeonMail") 85 (by decide +kernel) rfl⟩), in_X4⟩
theorem fp_X5_50 : zFp RX5 50 4 1 .int := ⟨RX4, TX4, 9, tyX4, rfl, by decide, (Or.inr ⟨_, zn_in (w := .fieldLinkNest RX5 50 "PigeonMail$Plan" "clerks" "I" "PigeonMail") 85 (by decide +kernel) rfl⟩), in_X4, tyX4_ok, nmX4, rfl, by decide +kernel⟩
theorem fl_X4_37 : zFl RX4 37 4 2 := ⟨RX4, TX4, 9, rfl, by decide, (Or.inl (zg_in 86 (by decide +kernel) rfl)), in_X4⟩
theorem fp_X4_37 : zFp RX4 37 4 2 .int := ⟨RX4, TX4, 9, tyX4, rfl, by decide, (Or.inl (zg_in 86 (by decide +kernel) rfl)), in_X4, tyX4_ok, nmX4, rfl, by decide +kernel⟩
theorem fl_X1_37 : zFl RX1 37 4 2 := ⟨RX4, TX4, 9, rfl, by decide, (Or.inr ⟨_, zn_in (w := .fieldLinkNest RX1 37 "PigeonMail$Plan" "grain" "I" "PigeonMail") 87 (by decide +kernel) rfl⟩), in_X4⟩
theorem fp_X1_37 : zFp RX1 37 4 2 .int := ⟨RX4, TX4, 9, tyX4, rfl, by decide, (Or.inr ⟨_, zn_in (w := .fieldLinkNest RX1 37 "PigeonMail$Plan" "grain" "I" "PigeonMail") 87 (by decide +kernel) rfl⟩), in_X4, tyX4_ok, nmX4, rfl, by decide +kernel⟩
theorem fl_X5_40 : zFl RX5 40 4 2 := ⟨RX4, TX4, 9, rfl, by decide, (Or.inr ⟨_, zn_in (w := .fieldLinkNest RX5 40 "PigeonMail$Plan" "grain" "I" "PigeonMail") 88 (by decide +kernel) rfl⟩), in_X4⟩
theorem fp_X5_40 : zFp RX5 40 4 2 .int := ⟨RX4, TX4, 9, tyX4, rfl, by decide, (Or.inr ⟨_, zn_in (w := .fieldLinkNest RX5 40 "PigeonMail$Plan" "grain" "I" "PigeonMail") 88 (by decide +kernel) rfl⟩), in_X4, tyX4_ok, nmX4, rfl, by decide +kernel⟩
theorem fl_X4_9 : zFl RX4 9 4 3 := ⟨RX4, TX4, 9, rfl, by decide, (Or.inl (zg_in 89 (by decide +kernel) rfl)), in_X4⟩
theorem fl_X1_28 : zFl RX1 28 4 3 := ⟨RX4, TX4, 9, rfl, by decide, (Or.inr ⟨_, zn_in (w := .fieldLinkNest RX1 28 "PigeonMail$Plan" "homes" "[I" "PigeonMail") 90 (by decide +kernel) rfl⟩), in_X4⟩
theorem fl_X5_53 : zFl RX5 53 4 3 := ⟨RX4, TX4, 9, rfl, by decide, (Or.inr ⟨_, zn_in (w := .fieldLinkNest RX5 53 "PigeonMail$Plan" "homes" "[I" "PigeonMail") 91 (by decide +kernel) rfl⟩), in_X4⟩
theorem fl_X4_15 : zFl RX4 15 4 4 := ⟨RX4, TX4, 9, rfl, by decide, (Or.inl (zg_in 92 (by decide +kernel) rfl)), in_X4⟩
theorem fl_X8_128 : zFl RX8 128 4 4 := ⟨RX4, TX4, 9, rfl, by decide, (Or.inr ⟨_, zn_in (w := .fieldLinkNest RX8 128 "PigeonMail$Plan" "waits" "[I" "PigeonMail") 93 (by decide +kernel) rfl⟩), in_X4⟩
theorem fl_X5_64 : zFl RX5 64 4 4 := ⟨RX4, TX4, 9, rfl, by decide, (Or.inr ⟨_, zn_in (w := .fieldLinkNest RX5 64 "PigeonMail$Plan" "waits" "[I" "PigeonMail") 94 (by decide +kernel) rfl⟩), in_X4⟩
theorem fl_X4_18 : zFl RX4 18 4 5 := ⟨RX4, TX4, 9, rfl, by decide, (Or.inl (zg_in 95 (by decide +kernel) rfl)), in_X4⟩
theorem fl_X8_132 : zFl RX8 132 4 5 := ⟨RX4, TX4, 9, rfl, by decide, (Or.inr ⟨_, zn_in (w := .fieldLinkNest RX8 132 "PigeonMail$Plan" "kinds" "[I" "PigeonMail") 96 (by decide +kernel) rfl⟩), in_X4⟩
theorem fl_X5_67 : zFl RX5 67 4 5 := ⟨RX4, TX4, 9, rfl, by decide, (Or.inr ⟨_, zn_in (w := .fieldLinkNest RX5 67 "PigeonMail$Plan" "kinds" "[I" "PigeonMail") 97 (by decide +kernel) rfl⟩), in_X4⟩
theorem fl_X1_61 : zFl RX1 61 4 5 := ⟨RX4, TX4, 9, rfl, by decide, (Or.inr ⟨_, zn_in (w := .fieldLinkNest RX1 61 "PigeonMail$Plan" "kinds" "[I" "PigeonMail") 98 (by decide +kernel) rfl⟩), in_X4⟩
theorem fl_X4_21 : zFl RX4 21 4 6 := ⟨RX4, TX4, 9, rfl, by decide, (Or.inl (zg_in 99 (by decide +kernel) rfl)), in_X4⟩
theorem fl_X5_70 : zFl RX5 70 4 6 := ⟨RX4, TX4, 9, rfl, by decide, (Or.inr ⟨_, zn_in (w := .fieldLinkNest RX5 70 "PigeonMail$Plan" "alone" "[I" "PigeonMail") 100 (by decide +kernel) rfl⟩), in_X4⟩
theorem fl_X1_58 : zFl RX1 58 4 6 := ⟨RX4, TX4, 9, rfl, by decide, (Or.inr ⟨_, zn_in (w := .fieldLinkNest RX1 58 "PigeonMail$Plan" "alone" "[I" "PigeonMail") 101 (by decide +kernel) rfl⟩), in_X4⟩
theorem fl_X4_24 : zFl RX4 24 4 7 := ⟨RX4, TX4, 9, rfl, by decide, (Or.inl (zg_in 102 (by decide +kernel) rfl)), in_X4⟩
theorem fl_X1_34 : zFl RX1 34 4 7 := ⟨RX4, TX4, 9, rfl, by decide, (Or.inr ⟨_, zn_in (w := .fieldLinkNest RX1 34 "PigeonMail$Plan" "posts" "[I" "PigeonMail") 103 (by decide +kernel) rfl⟩), in_X4⟩
theorem fl_X5_77 : zFl RX5 77 4 7 := ⟨RX4, TX4, 9, rfl, by decide, (Or.inr ⟨_, zn_in (w := .fieldLinkNest RX5 77 "PigeonMail$Plan" "posts" "[I" "PigeonMail") 104 (by decide +kernel) rfl⟩), in_X4⟩
theorem fl_X4_27 : zFl RX4 27 4 8 := ⟨RX4, TX4, 9, rfl, by decide, (Or.inl (zg_in 105 (by decide +kernel) rfl)), in_X4⟩
theorem fl_X5_80 : zFl RX5 80 4 8 := ⟨RX4, TX4, 9, rfl, by decide, (Or.inr ⟨_, zn_in (w := .fieldLinkNest RX5 80 "PigeonMail$Plan" "answers" "[I" "PigeonMail") 106 (by decide +kernel) rfl⟩), in_X4⟩
theorem fl_X8_150 : zFl RX8 150 4 8 := ⟨RX4, TX4, 9, rfl, by decide, (Or.inr ⟨_, zn_in (w := .fieldLinkNest RX8 150 "PigeonMail$Plan" "answers" "[I" "PigeonMail") 107 (by decide +kernel) rfl⟩), in_X4⟩
theorem fl_X1_96 : zFl RX1 96 4 8 := ⟨RX4, TX4, 9, rfl, by decide, (Or.inr ⟨_, zn_in (w := .fieldLinkNest RX1 96 "PigeonMail$Plan" "answers" "[I" "PigeonMail") 108 (by decide +kernel) rfl⟩), in_X4⟩
theorem fl_X5_9 : zFl RX5 9 5 0 := ⟨RX5, TX5, 3, rfl, by decide, (Or.inl (zg_in 129 (by decide +kernel) rfl)), in_X5⟩
theorem fl_X5_22 : zFl RX5 22 5 1 := ⟨RX5, TX5, 3, rfl, by decide, (Or.inl (zg_in 130 (by decide +kernel) rfl)), in_X5⟩
theorem fp_X5_22 : zFp RX5 22 5 1 .int := ⟨RX5, TX5, 3, tyX5, rfl, by decide, (Or.inl (zg_in 130 (by decide +kernel) rfl)), in_X5, tyX5_ok, nmX5, rfl, by decide +kernel⟩
theorem fl_X8_118 : zFl RX8 118 5 1 := ⟨RX5, TX5, 3, rfl, by decide, (Or.inr ⟨_, zn_in (w := .fieldLinkNest RX8 118 "PigeonMail$Script" "length" "I" "PigeonMail") 131 (by decide +kernel) rfl⟩), in_X5⟩
theorem fp_X8_118 : zFp RX8 118 5 1 .int := ⟨RX5, TX5, 3, tyX5, rfl, by decide, (Or.inr ⟨_, zn_in (w := .fieldLinkNest RX8 118 "PigeonMail$Script" "length" "I" "PigeonMail") 131 (by decide +kernel) rfl⟩), in_X5, tyX5_ok, nmX5, rfl, by decide +kernel⟩
theorem fl_X5_18 : zFl RX5 18 5 2 := ⟨RX5, TX5, 3, rfl, by decide, (Or.inl (zg_in 132 (by decide +kernel) rfl)), in_X5⟩
theorem fl_X1_18 : zFl RX1 18 1 0 := ⟨RX1, TX1, 3, rfl, by decide, (Or.inl (zg_in 148 (by decide +kernel) rfl)), in_X1⟩
theorem fl_X1_11 : zFl RX1 11 1 1 := ⟨RX1, TX1, 3, rfl, by decide, (Or.inl (zg_in 149 (by decide +kernel) rfl)), in_X1⟩
theorem fl_X6_25 : zFl RX6 25 1 1 := ⟨RX1, TX1, 3, rfl, by decide, (Or.inr ⟨_, zn_in (w := .fieldLinkNest RX6 25 "PigeonMail$Hall" "cells" "[I" "PigeonMail") 150 (by decide +kernel) rfl⟩), in_X1⟩
theorem fl_X1_15 : zFl RX1 15 1 2 := ⟨RX1, TX1, 3, rfl, by decide, (Or.inl (zg_in 151 (by decide +kernel) rfl)), in_X1⟩
theorem fl_X2_145 : zFl RX2 145 1 2 := ⟨RX1, TX1, 3, rfl, by decide, (Or.inr ⟨_, zn_in (w := .fieldLinkNest RX2 145 "PigeonMail$Hall" "answeredBy" "[I" "PigeonMail") 152 (by decide +kernel) rfl⟩), in_X1⟩
theorem fl_X2_24 : zFl RX2 24 2 0 := ⟨RX2, TX2, 8, rfl, by decide, (Or.inl (zg_in 168 (by decide +kernel) rfl)), in_X2⟩
theorem fl_X2_28 : zFl RX2 28 2 1 := ⟨RX2, TX2, 8, rfl, by decide, (Or.inl (zg_in 169 (by decide +kernel) rfl)), in_X2⟩
theorem fl_X2_37 : zFl RX2 37 2 2 := ⟨RX2, TX2, 8, rfl, by decide, (Or.inl (zg_in 170 (by decide +kernel) rfl)), in_X2⟩
theorem fl_X2_9 : zFl RX2 9 2 3 := ⟨RX2, TX2, 8, rfl, by decide, (Or.inl (zg_in 171 (by decide +kernel) rfl)), in_X2⟩
theorem fl_X2_15 : zFl RX2 15 2 4 := ⟨RX2, TX2, 8, rfl, by decide, (Or.inl (zg_in 172 (by decide +kernel) rfl)), in_X2⟩
theorem fl_X2_18 : zFl RX2 18 2 5 := ⟨RX2, TX2, 8, rfl, by decide, (Or.inl (zg_in 173 (by decide +kernel) rfl)), in_X2⟩
theorem fl_X2_21 : zFl RX2 21 2 6 := ⟨RX2, TX2, 8, rfl, by decide, (Or.inl (zg_in 174 (by decide +kernel) rfl)), in_X2⟩
theorem fl_X2_160 : zFl RX2 160 2 7 := ⟨RX2, TX2, 8, rfl, by decide, (Or.inl (zg_in 175 (by decide +kernel) rfl)), in_X2⟩
theorem fp_X2_160 : zFp RX2 160 2 7 .long := ⟨RX2, TX2, 8, tyX2, rfl, by decide, (Or.inl (zg_in 175 (by decide +kernel) rfl)), in_X2, tyX2_ok, nmX2, rfl, by decide +kernel⟩
theorem fl_X8_243 : zFl RX8 243 2 7 := ⟨RX2, TX2, 8, rfl, by decide, (Or.inr ⟨_, zn_in (w := .fieldLinkNest RX8 243 "PigeonMail$Outlook" "seedBehind" "J" "PigeonMail") 176 (by decide +kernel) rfl⟩), in_X2⟩
theorem fp_X8_243 : zFp RX8 243 2 7 .long := ⟨RX2, TX2, 8, tyX2, rfl, by decide, (Or.inr ⟨_, zn_in (w := .fieldLinkNest RX8 243 "PigeonMail$Outlook" "seedBehind" "J" "PigeonMail") 176 (by decide +kernel) rfl⟩), in_X2, tyX2_ok, nmX2, rfl, by decide +kernel⟩
theorem fl_X6_13 : zFl RX6 13 6 0 := ⟨RX6, TX6, 2, rfl, by decide, (Or.inl (zg_in 209 (by decide +kernel) rfl)), in_X6⟩
theorem fl_X6_21 : zFl RX6 21 6 1 := ⟨RX6, TX6, 2, rfl, by decide, (Or.inl (zg_in 210 (by decide +kernel) rfl)), in_X6⟩
theorem fl_X3_14 : zFl RX3 14 3 0 := ⟨RX3, TX3, 3, rfl, by decide, (Or.inl (zg_in 216 (by decide +kernel) rfl)), in_X3⟩
theorem fl_X3_20 : zFl RX3 20 3 1 := ⟨RX3, TX3, 3, rfl, by decide, (Or.inl (zg_in 217 (by decide +kernel) rfl)), in_X3⟩
theorem fp_X3_20 : zFp RX3 20 3 1 .int := ⟨RX3, TX3, 3, tyX3, rfl, by decide, (Or.inl (zg_in 217 (by decide +kernel) rfl)), in_X3, tyX3_ok, nmX3, rfl, by decide +kernel⟩
theorem fl_X3_24 : zFl RX3 24 3 2 := ⟨RX3, TX3, 3, rfl, by decide, (Or.inl (zg_in 218 (by decide +kernel) rfl)), in_X3⟩
theorem fp_X3_24 : zFp RX3 24 3 2 .int := ⟨RX3, TX3, 3, tyX3, rfl, by decide, (Or.inl (zg_in 218 (by decide +kernel) rfl)), in_X3, tyX3_ok, nmX3, rfl, by decide +kernel⟩
theorem fl_X8_114 : zFl RX8 114 3 2 := ⟨RX3, TX3, 3, rfl, by decide, (Or.inr ⟨_, zn_in (w := .fieldLinkNest RX8 114 "PigeonMail$Past" "count" "I" "PigeonMail") 219 (by decide +kernel) rfl⟩), in_X3⟩
theorem fp_X8_114 : zFp RX8 114 3 2 .int := ⟨RX3, TX3, 3, tyX3, rfl, by decide, (Or.inr ⟨_, zn_in (w := .fieldLinkNest RX8 114 "PigeonMail$Past" "count" "I" "PigeonMail") 219 (by decide +kernel) rfl⟩), in_X3, tyX3_ok, nmX3, rfl, by decide +kernel⟩
theorem fl_X7_9 : zFl RX7 9 7 0 := ⟨RX7, TX7, 3, rfl, by decide, (Or.inl (zg_in 235 (by decide +kernel) rfl)), in_X7⟩
theorem fl_X7_15 : zFl RX7 15 7 1 := ⟨RX7, TX7, 3, rfl, by decide, (Or.inl (zg_in 236 (by decide +kernel) rfl)), in_X7⟩
theorem fl_X7_19 : zFl RX7 19 7 2 := ⟨RX7, TX7, 3, rfl, by decide, (Or.inl (zg_in 237 (by decide +kernel) rfl)), in_X7⟩
theorem fp_X7_19 : zFp RX7 19 7 2 .int := ⟨RX7, TX7, 3, tyX7, rfl, by decide, (Or.inl (zg_in 237 (by decide +kernel) rfl)), in_X7, tyX7_ok, nmX7, rfl, by decide +kernel⟩
theorem fl_X8_117 : zFl RX8 117 7 2 := ⟨RX7, TX7, 3, rfl, by decide, (Or.inr ⟨_, zn_in (w := .fieldLinkNest RX8 117 "PigeonMail$Told" "count" "I" "PigeonMail") 238 (by decide +kernel) rfl⟩), in_X7⟩
theorem fp_X8_117 : zFp RX8 117 7 2 .int := ⟨RX7, TX7, 3, tyX7, rfl, by decide, (Or.inr ⟨_, zn_in (w := .fieldLinkNest RX8 117 "PigeonMail$Told" "count" "I" "PigeonMail") 238 (by decide +kernel) rfl⟩), in_X7, tyX7_ok, nmX7, rfl, by decide +kernel⟩
theorem fl_X0_9 : zFl RX0 9 0 0 := ⟨RX0, TX0, 1, rfl, by decide, (Or.inl (zg_in 253 (by decide +kernel) rfl)), in_X0⟩
theorem fl_X8_10 : zFl RX8 10 8 0 := ⟨RX8, TX8, 10, rfl, by decide, (Or.inl (zg_in 257 (by decide +kernel) rfl)), in_X8⟩
theorem fl_X8_19 : zFl RX8 19 8 1 := ⟨RX8, TX8, 10, rfl, by decide, (Or.inl (zg_in 258 (by decide +kernel) rfl)), in_X8⟩
theorem fl_X8_28 : zFl RX8 28 8 2 := ⟨RX8, TX8, 10, rfl, by decide, (Or.inl (zg_in 259 (by decide +kernel) rfl)), in_X8⟩
theorem fl_X8_37 : zFl RX8 37 8 3 := ⟨RX8, TX8, 10, rfl, by decide, (Or.inl (zg_in 260 (by decide +kernel) rfl)), in_X8⟩
theorem fl_X8_44 : zFl RX8 44 8 4 := ⟨RX8, TX8, 10, rfl, by decide, (Or.inl (zg_in 261 (by decide +kernel) rfl)), in_X8⟩
theorem fl_X8_53 : zFl RX8 53 8 5 := ⟨RX8, TX8, 10, rfl, by decide, (Or.inl (zg_in 262 (by decide +kernel) rfl)), in_X8⟩
theorem fl_X8_57 : zFl RX8 57 8 6 := ⟨RX8, TX8, 10, rfl, by decide, (Or.inl (zg_in 263 (by decide +kernel) rfl)), in_X8⟩
theorem fl_X8_64 : zFl RX8 64 8 7 := ⟨RX8, TX8, 10, rfl, by decide, (Or.inl (zg_in 264 (by decide +kernel) rfl)), in_X8⟩
theorem fl_X8_71 : zFl RX8 71 8 8 := ⟨RX8, TX8, 10, rfl, by decide, (Or.inl (zg_in 265 (by decide +kernel) rfl)), in_X8⟩
theorem fl_X8_236 : zFl RX8 236 8 9 := ⟨RX8, TX8, 10, rfl, by decide, (Or.inl (zg_in 266 (by decide +kernel) rfl)), in_X8⟩
theorem fp_X8_236 : zFp RX8 236 8 9 .long := ⟨RX8, TX8, 10, tyX8, rfl, by decide, (Or.inl (zg_in 266 (by decide +kernel) rfl)), in_X8, tyX8_ok, nmX8, rfl, by decide +kernel⟩
theorem fl_X9_59 : zFl RX9 59 9 0 := ⟨RX9, TX9, 34, rfl, by decide, (Or.inl (zg_in 734 (by decide +kernel) rfl)), in_X9⟩
theorem fp_X9_59 : zFp RX9 59 9 0 .int := ⟨RX9, TX9, 34, tyX9, rfl, by decide, (Or.inl (zg_in 734 (by decide +kernel) rfl)), in_X9, tyX9_ok, nmX9, rfl, by decide +kernel⟩
theorem fl_X9_7 : zFl RX9 7 9 1 := ⟨RX9, TX9, 34, rfl, by decide, (Or.inl (zg_in 735 (by decide +kernel) rfl)), in_X9⟩
theorem fl_X9_75 : zFl RX9 75 9 2 := ⟨RX9, TX9, 34, rfl, by decide, (Or.inl (zg_in 736 (by decide +kernel) rfl)), in_X9⟩
theorem fp_X9_75 : zFp RX9 75 9 2 .int := ⟨RX9, TX9, 34, tyX9, rfl, by decide, (Or.inl (zg_in 736 (by decide +kernel) rfl)), in_X9, tyX9_ok, nmX9, rfl, by decide +kernel⟩
theorem fl_X9_78 : zFl RX9 78 9 3 := ⟨RX9, TX9, 34, rfl, by decide, (Or.inl (zg_in 737 (by decide +kernel) rfl)), in_X9⟩
theorem fp_X9_78 : zFp RX9 78 9 3 .int := ⟨RX9, TX9, 34, tyX9, rfl, by decide, (Or.inl (zg_in 737 (by decide +kernel) rfl)), in_X9, tyX9_ok, nmX9, rfl, by decide +kernel⟩
theorem fl_X9_63 : zFl RX9 63 9 4 := ⟨RX9, TX9, 34, rfl, by decide, (Or.inl (zg_in 738 (by decide +kernel) rfl)), in_X9⟩
theorem fp_X9_63 : zFp RX9 63 9 4 .int := ⟨RX9, TX9, 34, tyX9, rfl, by decide, (Or.inl (zg_in 738 (by decide +kernel) rfl)), in_X9, tyX9_ok, nmX9, rfl, by decide +kernel⟩
theorem fl_X9_13 : zFl RX9 13 9 5 := ⟨RX9, TX9, 34, rfl, by decide, (Or.inl (zg_in 739 (by decide +kernel) rfl)), in_X9⟩
theorem fl_X9_16 : zFl RX9 16 9 6 := ⟨RX9, TX9, 34, rfl, by decide, (Or.inl (zg_in 740 (by decide +kernel) rfl)), in_X9⟩
theorem fl_X9_70 : zFl RX9 70 9 7 := ⟨RX9, TX9, 34, rfl, by decide, (Or.inl (zg_in 741 (by decide +kernel) rfl)), in_X9⟩
theorem fp_X9_70 : zFp RX9 70 9 7 .int := ⟨RX9, TX9, 34, tyX9, rfl, by decide, (Or.inl (zg_in 741 (by decide +kernel) rfl)), in_X9, tyX9_ok, nmX9, rfl, by decide +kernel⟩
theorem fl_X9_19 : zFl RX9 19 9 8 := ⟨RX9, TX9, 34, rfl, by decide, (Or.inl (zg_in 742 (by decide +kernel) rfl)), in_X9⟩
theorem fl_X9_102 : zFl RX9 102 9 9 := ⟨RX9, TX9, 34, rfl, by decide, (Or.inl (zg_in 743 (by decide +kernel) rfl)), in_X9⟩
theorem fp_X9_102 : zFp RX9 102 9 9 .int := ⟨RX9, TX9, 34, tyX9, rfl, by decide, (Or.inl (zg_in 743 (by decide +kernel) rfl)), in_X9, tyX9_ok, nmX9, rfl, by decide +kernel⟩
theorem fl_X9_81 : zFl RX9 81 9 10 := ⟨RX9, TX9, 34, rfl, by decide, (Or.inl (zg_in 744 (by decide +kernel) rfl)), in_X9⟩
theorem fp_X9_81 : zFp RX9 81 9 10 .int := ⟨RX9, TX9, 34, tyX9, rfl, by decide, (Or.inl (zg_in 744 (by decide +kernel) rfl)), in_X9, tyX9_ok, nmX9, rfl, by decide +kernel⟩
theorem fl_X9_22 : zFl RX9 22 9 11 := ⟨RX9, TX9, 34, rfl, by decide, (Or.inl (zg_in 745 (by decide +kernel) rfl)), in_X9⟩
theorem fl_X9_92 : zFl RX9 92 9 12 := ⟨RX9, TX9, 34, rfl, by decide, (Or.inl (zg_in 746 (by decide +kernel) rfl)), in_X9⟩
theorem fp_X9_92 : zFp RX9 92 9 12 .int := ⟨RX9, TX9, 34, tyX9, rfl, by decide, (Or.inl (zg_in 746 (by decide +kernel) rfl)), in_X9, tyX9_ok, nmX9, rfl, by decide +kernel⟩
theorem fl_X9_25 : zFl RX9 25 9 13 := ⟨RX9, TX9, 34, rfl, by decide, (Or.inl (zg_in 747 (by decide +kernel) rfl)), in_X9⟩
theorem fl_X9_28 : zFl RX9 28 9 14 := ⟨RX9, TX9, 34, rfl, by decide, (Or.inl (zg_in 748 (by decide +kernel) rfl)), in_X9⟩
theorem fl_X9_31 : zFl RX9 31 9 15 := ⟨RX9, TX9, 34, rfl, by decide, (Or.inl (zg_in 749 (by decide +kernel) rfl)), in_X9⟩
theorem fl_X9_34 : zFl RX9 34 9 16 := ⟨RX9, TX9, 34, rfl, by decide, (Or.inl (zg_in 750 (by decide +kernel) rfl)), in_X9⟩
theorem fl_X9_112 : zFl RX9 112 9 17 := ⟨RX9, TX9, 34, rfl, by decide, (Or.inl (zg_in 751 (by decide +kernel) rfl)), in_X9⟩
theorem fp_X9_112 : zFp RX9 112 9 17 .int := ⟨RX9, TX9, 34, tyX9, rfl, by decide, (Or.inl (zg_in 751 (by decide +kernel) rfl)), in_X9, tyX9_ok, nmX9, rfl, by decide +kernel⟩
theorem fl_X9_37 : zFl RX9 37 9 18 := ⟨RX9, TX9, 34, rfl, by decide, (Or.inl (zg_in 752 (by decide +kernel) rfl)), in_X9⟩
theorem fl_X9_40 : zFl RX9 40 9 19 := ⟨RX9, TX9, 34, rfl, by decide, (Or.inl (zg_in 753 (by decide +kernel) rfl)), in_X9⟩
theorem fl_X9_161 : zFl RX9 161 9 20 := ⟨RX9, TX9, 34, rfl, by decide, (Or.inl (zg_in 754 (by decide +kernel) rfl)), in_X9⟩
theorem fp_X9_161 : zFp RX9 161 9 20 .int := ⟨RX9, TX9, 34, tyX9, rfl, by decide, (Or.inl (zg_in 754 (by decide +kernel) rfl)), in_X9, tyX9_ok, nmX9, rfl, by decide +kernel⟩
theorem fl_X9_44 : zFl RX9 44 9 21 := ⟨RX9, TX9, 34, rfl, by decide, (Or.inl (zg_in 755 (by decide +kernel) rfl)), in_X9⟩
theorem fl_X9_47 : zFl RX9 47 9 22 := ⟨RX9, TX9, 34, rfl, by decide, (Or.inl (zg_in 756 (by decide +kernel) rfl)), in_X9⟩
theorem fl_X9_258 : zFl RX9 258 9 23 := ⟨RX9, TX9, 34, rfl, by decide, (Or.inl (zg_in 757 (by decide +kernel) rfl)), in_X9⟩
theorem fp_X9_258 : zFp RX9 258 9 23 .long := ⟨RX9, TX9, 34, tyX9, rfl, by decide, (Or.inl (zg_in 757 (by decide +kernel) rfl)), in_X9, tyX9_ok, nmX9, rfl, by decide +kernel⟩
theorem fl_X9_141 : zFl RX9 141 9 24 := ⟨RX9, TX9, 34, rfl, by decide, (Or.inl (zg_in 758 (by decide +kernel) rfl)), in_X9⟩
theorem fp_X9_141 : zFp RX9 141 9 24 .int := ⟨RX9, TX9, 34, tyX9, rfl, by decide, (Or.inl (zg_in 758 (by decide +kernel) rfl)), in_X9, tyX9_ok, nmX9, rfl, by decide +kernel⟩
theorem fl_X9_50 : zFl RX9 50 9 25 := ⟨RX9, TX9, 34, rfl, by decide, (Or.inl (zg_in 759 (by decide +kernel) rfl)), in_X9⟩
theorem fl_X9_207 : zFl RX9 207 9 26 := ⟨RX9, TX9, 34, rfl, by decide, (Or.inl (zg_in 760 (by decide +kernel) rfl)), in_X9⟩
theorem fp_X9_207 : zFp RX9 207 9 26 .int := ⟨RX9, TX9, 34, tyX9, rfl, by decide, (Or.inl (zg_in 760 (by decide +kernel) rfl)), in_X9, tyX9_ok, nmX9, rfl, by decide +kernel⟩
theorem fl_X9_204 : zFl RX9 204 9 27 := ⟨RX9, TX9, 34, rfl, by decide, (Or.inl (zg_in 761 (by decide +kernel) rfl)), in_X9⟩
theorem fp_X9_204 : zFp RX9 204 9 27 .int := ⟨RX9, TX9, 34, tyX9, rfl, by decide, (Or.inl (zg_in 761 (by decide +kernel) rfl)), in_X9, tyX9_ok, nmX9, rfl, by decide +kernel⟩
theorem fl_X9_238 : zFl RX9 238 9 28 := ⟨RX9, TX9, 34, rfl, by decide, (Or.inl (zg_in 762 (by decide +kernel) rfl)), in_X9⟩
theorem fp_X9_238 : zFp RX9 238 9 28 .int := ⟨RX9, TX9, 34, tyX9, rfl, by decide, (Or.inl (zg_in 762 (by decide +kernel) rfl)), in_X9, tyX9_ok, nmX9, rfl, by decide +kernel⟩
theorem fl_X9_241 : zFl RX9 241 9 29 := ⟨RX9, TX9, 34, rfl, by decide, (Or.inl (zg_in 763 (by decide +kernel) rfl)), in_X9⟩
theorem fp_X9_241 : zFp RX9 241 9 29 .int := ⟨RX9, TX9, 34, tyX9, rfl, by decide, (Or.inl (zg_in 763 (by decide +kernel) rfl)), in_X9, tyX9_ok, nmX9, rfl, by decide +kernel⟩
theorem fl_X9_248 : zFl RX9 248 9 30 := ⟨RX9, TX9, 34, rfl, by decide, (Or.inl (zg_in 764 (by decide +kernel) rfl)), in_X9⟩
theorem fp_X9_248 : zFp RX9 248 9 30 .int := ⟨RX9, TX9, 34, tyX9, rfl, by decide, (Or.inl (zg_in 764 (by decide +kernel) rfl)), in_X9, tyX9_ok, nmX9, rfl, by decide +kernel⟩
theorem fl_X9_251 : zFl RX9 251 9 31 := ⟨RX9, TX9, 34, rfl, by decide, (Or.inl (zg_in 765 (by decide +kernel) rfl)), in_X9⟩
theorem fp_X9_251 : zFp RX9 251 9 31 .int := ⟨RX9, TX9, 34, tyX9, rfl, by decide, (Or.inl (zg_in 765 (by decide +kernel) rfl)), in_X9, tyX9_ok, nmX9, rfl, by decide +kernel⟩
theorem fl_X9_53 : zFl RX9 53 9 32 := ⟨RX9, TX9, 34, rfl, by decide, (Or.inl (zg_in 766 (by decide +kernel) rfl)), in_X9⟩
theorem fl_X9_56 : zFl RX9 56 9 33 := ⟨RX9, TX9, 34, rfl, by decide, (Or.inl (zg_in 767 (by decide +kernel) rfl)), in_X9⟩
theorem cd_X8_init : zCd yX8_init cX8_init 1 none 0 := ⟨(zg_in 60 (by decide +kernel) rfl), (zg_in 43 (by decide +kernel) rfl), ⟨by decide +kernel, by decide +kernel, by decide +kernel⟩, by decide⟩
theorem cd_X5_init : zCd yX5_init cX5_init 1 none 0 := ⟨(zg_in 68 (by decide +kernel) rfl), (zg_in 44 (by decide +kernel) rfl), ⟨by decide +kernel, by decide +kernel, by decide +kernel⟩, by decide⟩
theorem cd_X4_init : zCd yX4_init cX4_init 1 none 0 := ⟨(zg_in 74 (by decide +kernel) rfl), (zg_in 45 (by decide +kernel) rfl), ⟨by decide +kernel, by decide +kernel, by decide +kernel⟩, by decide⟩
theorem cd_X1_init : zCd yX1_init cX1_init 2 none 1 := ⟨(zg_in 146 (by decide +kernel) rfl), (zg_in 46 (by decide +kernel) rfl), ⟨by decide +kernel, by decide +kernel, by decide +kernel⟩, by decide⟩
theorem cd_X2_init : zCd yX2_init cX2_init 3 none 2 := ⟨(zg_in 164 (by decide +kernel) rfl), (zg_in 47 (by decide +kernel) rfl), ⟨by decide +kernel, by decide +kernel, by decide +kernel⟩, by decide⟩
theorem cd_X3_init : zCd yX3_init cX3_init 1 none 0 := ⟨(zg_in 198 (by decide +kernel) rfl), (zg_in 48 (by decide +kernel) rfl), ⟨by decide +kernel, by decide +kernel, by decide +kernel⟩, by decide⟩
theorem cd_X6_init : zCd yX6_init cX6_init 2 none 1 := ⟨(zg_in 204 (by decide +kernel) rfl), (zg_in 49 (by decide +kernel) rfl), ⟨by decide +kernel, by decide +kernel, by decide +kernel⟩, by decide⟩
theorem cd_X7_init : zCd yX7_init cX7_init 1 none 0 := ⟨(zg_in 233 (by decide +kernel) rfl), (zg_in 51 (by decide +kernel) rfl), ⟨by decide +kernel, by decide +kernel, by decide +kernel⟩, by decide⟩
theorem cd_X0_init : zCd yX0_init cX0_init 1 none 0 := ⟨(zg_in 251 (by decide +kernel) rfl), (zg_in 52 (by decide +kernel) rfl), ⟨by decide +kernel, by decide +kernel, by decide +kernel⟩, by decide⟩
theorem cd_X8_write : zCd yX8_write cX8_write 2 (some .int) 1 := ⟨(zg_in 291 (by decide +kernel) rfl), (zg_in 43 (by decide +kernel) rfl), ⟨by decide +kernel, by decide +kernel, by decide +kernel⟩, by decide⟩
theorem cd_X5_add : zCd yX5_add cX5_add 2 (some .int) 1 := ⟨(zg_in 295 (by decide +kernel) rfl), (zg_in 44 (by decide +kernel) rfl), ⟨by decide +kernel, by decide +kernel, by decide +kernel⟩, by decide⟩
theorem cd_X8_wipe : zCd yX8_wipe cX8_wipe 1 (some .int) 0 := ⟨(zg_in 299 (by decide +kernel) rfl), (zg_in 43 (by decide +kernel) rfl), ⟨by decide +kernel, by decide +kernel, by decide +kernel⟩, by decide⟩
theorem cd_X5_clear : zCd yX5_clear cX5_clear 2 (some .int) 0 := ⟨(zg_in 303 (by decide +kernel) rfl), (zg_in 44 (by decide +kernel) rfl), ⟨by decide +kernel, by decide +kernel, by decide +kernel⟩, by decide⟩
theorem cd_X8_fault : zCd yX8_fault cX8_fault 1 (some .int) 0 := ⟨(zg_in 307 (by decide +kernel) rfl), (zg_in 43 (by decide +kernel) rfl), ⟨by decide +kernel, by decide +kernel, by decide +kernel⟩, by decide⟩
theorem cd_X5_firstFault : zCd yX5_firstFault cX5_firstFault 1 (some .int) 0 := ⟨(zg_in 311 (by decide +kernel) rfl), (zg_in 44 (by decide +kernel) rfl), ⟨by decide +kernel, by decide +kernel, by decide +kernel⟩, by decide⟩
theorem cd_X5_readInto : zCd yX5_readInto cX5_readInto 4 (some .int) 1 := ⟨(zg_in 315 (by decide +kernel) rfl), (zg_in 44 (by decide +kernel) rfl), ⟨by decide +kernel, by decide +kernel, by decide +kernel⟩, by decide⟩
theorem cd_X4_clear : zCd yX4_clear cX4_clear 1 none 0 := ⟨(zg_in 319 (by decide +kernel) rfl), (zg_in 45 (by decide +kernel) rfl), ⟨by decide +kernel, by decide +kernel, by decide +kernel⟩, by decide⟩
theorem cd_X5_readOutside : zCd yX5_readOutside cX5_readOutside 3 (some .int) 3 := ⟨(zg_in 322 (by decide +kernel) rfl), (zg_in 44 (by decide +kernel) rfl), ⟨by decide +kernel, by decide +kernel, by decide +kernel⟩, by decide⟩
theorem cd_X5_isFigure : zCd yX5_isFigure cX5_isFigure 3 (some .boolean) 3 := ⟨(zg_in 325 (by decide +kernel) rfl), (zg_in 44 (by decide +kernel) rfl), ⟨by decide +kernel, by decide +kernel, by decide +kernel⟩, by decide⟩
theorem cd_X5_readInside : zCd yX5_readInside cX5_readInside 5 (some .int) 3 := ⟨(zg_in 328 (by decide +kernel) rfl), (zg_in 44 (by decide +kernel) rfl), ⟨by decide +kernel, by decide +kernel, by decide +kernel⟩, by decide⟩
theorem cd_X8_isHole : zCd yX8_isHole cX8_isHole 1 (some .boolean) 1 := ⟨(zg_in 331 (by decide +kernel) rfl), (zg_in 43 (by decide +kernel) rfl), ⟨by decide +kernel, by decide +kernel, by decide +kernel⟩, by decide⟩
theorem cd_X4_homesIn : zCd yX4_homesIn cX4_homesIn 4 (some .int) 1 := ⟨(zg_in 335 (by decide +kernel) rfl), (zg_in 45 (by decide +kernel) rfl), ⟨by decide +kernel, by decide +kernel, by decide +kernel⟩, by decide⟩
theorem cd_X8_waitAlone : zCd yX8_waitAlone cX8_waitAlone 2 (some .int) 2 := ⟨(zg_in 338 (by decide +kernel) rfl), (zg_in 43 (by decide +kernel) rfl), ⟨by decide +kernel, by decide +kernel, by decide +kernel⟩, by decide⟩
theorem cd_X8_room : zCd yX8_room cX8_room 2 (some .int) 0 := ⟨(zg_in 343 (by decide +kernel) rfl), (zg_in 43 (by decide +kernel) rfl), ⟨by decide +kernel, by decide +kernel, by decide +kernel⟩, by decide⟩
theorem cd_X1_begin : zCd yX1_begin cX1_begin 2 none 0 := ⟨(zg_in 348 (by decide +kernel) rfl), (zg_in 46 (by decide +kernel) rfl), ⟨by decide +kernel, by decide +kernel, by decide +kernel⟩, by decide⟩
theorem cd_X3_clear : zCd yX3_clear cX3_clear 1 none 0 := ⟨(zg_in 352 (by decide +kernel) rfl), (zg_in 48 (by decide +kernel) rfl), ⟨by decide +kernel, by decide +kernel, by decide +kernel⟩, by decide⟩
theorem cd_X8_about : zCd yX8_about cX8_about 2 (some .int) 1 := ⟨(zg_in 356 (by decide +kernel) rfl), (zg_in 43 (by decide +kernel) rfl), ⟨by decide +kernel, by decide +kernel, by decide +kernel⟩, by decide⟩
theorem cd_X1_theDay : zCd yX1_theDay cX1_theDay 1 (some .int) 0 := ⟨(zg_in 360 (by decide +kernel) rfl), (zg_in 46 (by decide +kernel) rfl), ⟨by decide +kernel, by decide +kernel, by decide +kernel⟩, by decide⟩
theorem cd_X1_grain : zCd yX1_grain cX1_grain 1 (some .int) 0 := ⟨(zg_in 364 (by decide +kernel) rfl), (zg_in 46 (by decide +kernel) rfl), ⟨by decide +kernel, by decide +kernel, by decide +kernel⟩, by decide⟩
theorem cd_X1_who : zCd yX1_who cX1_who 4 (some .int) 1 := ⟨(zg_in 368 (by decide +kernel) rfl), (zg_in 46 (by decide +kernel) rfl), ⟨by decide +kernel, by decide +kernel, by decide +kernel⟩, by decide⟩
theorem cd_X1_pairs : zCd yX1_pairs cX1_pairs 4 (some .int) 0 := ⟨(zg_in 372 (by decide +kernel) rfl), (zg_in 46 (by decide +kernel) rfl), ⟨by decide +kernel, by decide +kernel, by decide +kernel⟩, by decide⟩
theorem cd_X1_whoIsIn : zCd yX1_whoIsIn cX1_whoIsIn 5 (some .int) 1 := ⟨(zg_in 377 (by decide +kernel) rfl), (zg_in 46 (by decide +kernel) rfl), ⟨by decide +kernel, by decide +kernel, by decide +kernel⟩, by decide⟩
theorem cd_J6_bitCount_0f7a4 : zCd yJ6_bitCount_0f7a4 cJ6_bitCount_0f7a4 1 (some .int) 1 := ⟨(zg_in 380 (by decide +kernel) rfl), (zg_in 54 (by decide +kernel) rfl), ⟨by decide +kernel, by decide +kernel, by decide +kernel⟩, by decide⟩
theorem cd_X8_letter : zCd yX8_letter cX8_letter 3 (some .int) 2 := ⟨(zg_in 387 (by decide +kernel) rfl), (zg_in 43 (by decide +kernel) rfl), ⟨by decide +kernel, by decide +kernel, by decide +kernel⟩, by decide⟩
theorem cd_X4_hasLetter : zCd yX4_hasLetter cX4_hasLetter 2 (some .boolean) 1 := ⟨(zg_in 391 (by decide +kernel) rfl), (zg_in 45 (by decide +kernel) rfl), ⟨by decide +kernel, by decide +kernel, by decide +kernel⟩, by decide⟩
theorem cd_X1_holeOf : zCd yX1_holeOf cX1_holeOf 2 (some .int) 1 := ⟨(zg_in 395 (by decide +kernel) rfl), (zg_in 46 (by decide +kernel) rfl), ⟨by decide +kernel, by decide +kernel, by decide +kernel⟩, by decide⟩
theorem cd_X1_fateOf : zCd yX1_fateOf cX1_fateOf 2 (some .int) 1 := ⟨(zg_in 399 (by decide +kernel) rfl), (zg_in 46 (by decide +kernel) rfl), ⟨by decide +kernel, by decide +kernel, by decide +kernel⟩, by decide⟩
theorem cd_X1_waitedOf : zCd yX1_waitedOf cX1_waitedOf 2 (some .int) 1 := ⟨(zg_in 403 (by decide +kernel) rfl), (zg_in 46 (by decide +kernel) rfl), ⟨by decide +kernel, by decide +kernel, by decide +kernel⟩, by decide⟩
theorem cd_X1_daysLeft : zCd yX1_daysLeft cX1_daysLeft 5 (some .int) 1 := ⟨(zg_in 407 (by decide +kernel) rfl), (zg_in 46 (by decide +kernel) rfl), ⟨by decide +kernel, by decide +kernel, by decide +kernel⟩, by decide⟩
theorem cd_X8_clerk : zCd yX8_clerk cX8_clerk 3 (some .int) 2 := ⟨(zg_in 411 (by decide +kernel) rfl), (zg_in 43 (by decide +kernel) rfl), ⟨by decide +kernel, by decide +kernel, by decide +kernel⟩, by decide⟩
theorem cd_X4_hasClerk : zCd yX4_hasClerk cX4_hasClerk 2 (some .boolean) 1 := ⟨(zg_in 415 (by decide +kernel) rfl), (zg_in 45 (by decide +kernel) rfl), ⟨by decide +kernel, by decide +kernel, by decide +kernel⟩, by decide⟩
theorem cd_X1_rowOf : zCd yX1_rowOf cX1_rowOf 2 (some .int) 1 := ⟨(zg_in 419 (by decide +kernel) rfl), (zg_in 46 (by decide +kernel) rfl), ⟨by decide +kernel, by decide +kernel, by decide +kernel⟩, by decide⟩
theorem cd_X8_hole : zCd yX8_hole cX8_hole 2 (some .int) 1 := ⟨(zg_in 423 (by decide +kernel) rfl), (zg_in 43 (by decide +kernel) rfl), ⟨by decide +kernel, by decide +kernel, by decide +kernel⟩, by decide⟩
theorem cd_X8_day : zCd yX8_day cX8_day 1 (some .int) 0 := ⟨(zg_in 429 (by decide +kernel) rfl), (zg_in 43 (by decide +kernel) rfl), ⟨by decide +kernel, by decide +kernel, by decide +kernel⟩, by decide⟩
theorem cd_X3_remember : zCd yX3_remember cX3_remember 2 none 1 := ⟨(zg_in 433 (by decide +kernel) rfl), (zg_in 48 (by decide +kernel) rfl), ⟨by decide +kernel, by decide +kernel, by decide +kernel⟩, by decide⟩
theorem cd_X6_store : zCd yX6_store cX6_store 3 none 2 := ⟨(zg_in 437 (by decide +kernel) rfl), (zg_in 49 (by decide +kernel) rfl), ⟨by decide +kernel, by decide +kernel, by decide +kernel⟩, by decide⟩
theorem cd_X1_passDay : zCd yX1_passDay cX1_passDay 3 (some .int) 0 := ⟨(zg_in 444 (by decide +kernel) rfl), (zg_in 46 (by decide +kernel) rfl), ⟨by decide +kernel, by decide +kernel, by decide +kernel⟩, by decide⟩
theorem cd_X1_clerkAnswers : zCd yX1_clerkAnswers cX1_clerkAnswers 4 none 1 := ⟨(zg_in 448 (by decide +kernel) rfl), (zg_in 46 (by decide +kernel) rfl), ⟨by decide +kernel, by decide +kernel, by decide +kernel⟩, by decide⟩
theorem cd_X1_mostPressing : zCd yX1_mostPressing cX1_mostPressing 6 (some .int) 1 := ⟨(zg_in 452 (by decide +kernel) rfl), (zg_in 46 (by decide +kernel) rfl), ⟨by decide +kernel, by decide +kernel, by decide +kernel⟩, by decide⟩
theorem cd_X1_hatch : zCd yX1_hatch cX1_hatch 4 none 1 := ⟨(zg_in 457 (by decide +kernel) rfl), (zg_in 46 (by decide +kernel) rfl), ⟨by decide +kernel, by decide +kernel, by decide +kernel⟩, by decide⟩
theorem cd_X1_birdsEat : zCd yX1_birdsEat cX1_birdsEat 2 none 0 := ⟨(zg_in 461 (by decide +kernel) rfl), (zg_in 46 (by decide +kernel) rfl), ⟨by decide +kernel, by decide +kernel, by decide +kernel⟩, by decide⟩
theorem cd_X8_put : zCd yX8_put cX8_put 4 (some .int) 2 := ⟨(zg_in 465 (by decide +kernel) rfl), (zg_in 43 (by decide +kernel) rfl), ⟨by decide +kernel, by decide +kernel, by decide +kernel⟩, by decide⟩
theorem cd_X1_canPut : zCd yX1_canPut cX1_canPut 3 (some .boolean) 2 := ⟨(zg_in 469 (by decide +kernel) rfl), (zg_in 46 (by decide +kernel) rfl), ⟨by decide +kernel, by decide +kernel, by decide +kernel⟩, by decide⟩
theorem cd_X1_moveTo : zCd yX1_moveTo cX1_moveTo 3 none 2 := ⟨(zg_in 475 (by decide +kernel) rfl), (zg_in 46 (by decide +kernel) rfl), ⟨by decide +kernel, by decide +kernel, by decide +kernel⟩, by decide⟩
theorem cd_X8_feed : zCd yX8_feed cX8_feed 2 (some .int) 1 := ⟨(zg_in 479 (by decide +kernel) rfl), (zg_in 43 (by decide +kernel) rfl), ⟨by decide +kernel, by decide +kernel, by decide +kernel⟩, by decide⟩
theorem cd_X1_addGrain : zCd yX1_addGrain cX1_addGrain 2 none 1 := ⟨(zg_in 483 (by decide +kernel) rfl), (zg_in 46 (by decide +kernel) rfl), ⟨by decide +kernel, by decide +kernel, by decide +kernel⟩, by decide⟩
theorem cd_X8_send : zCd yX8_send cX8_send 4 (some .int) 2 := ⟨(zg_in 490 (by decide +kernel) rfl), (zg_in 43 (by decide +kernel) rfl), ⟨by decide +kernel, by decide +kernel, by decide +kernel⟩, by decide⟩
theorem cd_X8_isRow : zCd yX8_isRow cX8_isRow 1 (some .boolean) 1 := ⟨(zg_in 493 (by decide +kernel) rfl), (zg_in 43 (by decide +kernel) rfl), ⟨by decide +kernel, by decide +kernel, by decide +kernel⟩, by decide⟩
theorem cd_X1_canSend : zCd yX1_canSend cX1_canSend 3 (some .boolean) 2 := ⟨(zg_in 497 (by decide +kernel) rfl), (zg_in 46 (by decide +kernel) rfl), ⟨by decide +kernel, by decide +kernel, by decide +kernel⟩, by decide⟩
theorem cd_X1_sendTo : zCd yX1_sendTo cX1_sendTo 3 none 2 := ⟨(zg_in 503 (by decide +kernel) rfl), (zg_in 46 (by decide +kernel) rfl), ⟨by decide +kernel, by decide +kernel, by decide +kernel⟩, by decide⟩
theorem cd_X8_undo : zCd yX8_undo cX8_undo 1 (some .int) 0 := ⟨(zg_in 507 (by decide +kernel) rfl), (zg_in 43 (by decide +kernel) rfl), ⟨by decide +kernel, by decide +kernel, by decide +kernel⟩, by decide⟩
theorem cd_X3_goBack : zCd yX3_goBack cX3_goBack 2 none 1 := ⟨(zg_in 511 (by decide +kernel) rfl), (zg_in 48 (by decide +kernel) rfl), ⟨by decide +kernel, by decide +kernel, by decide +kernel⟩, by decide⟩
theorem cd_X6_fetch : zCd yX6_fetch cX6_fetch 3 none 2 := ⟨(zg_in 515 (by decide +kernel) rfl), (zg_in 49 (by decide +kernel) rfl), ⟨by decide +kernel, by decide +kernel, by decide +kernel⟩, by decide⟩
theorem cd_X8_ahead : zCd yX8_ahead cX8_ahead 3 (some .int) 2 := ⟨(zg_in 519 (by decide +kernel) rfl), (zg_in 43 (by decide +kernel) rfl), ⟨by decide +kernel, by decide +kernel, by decide +kernel⟩, by decide⟩
theorem cd_X2_whoIn : zCd yX2_whoIn cX2_whoIn 4 (some .int) 2 := ⟨(zg_in 523 (by decide +kernel) rfl), (zg_in 47 (by decide +kernel) rfl), ⟨by decide +kernel, by decide +kernel, by decide +kernel⟩, by decide⟩
theorem cd_X1_beLike : zCd yX1_beLike cX1_beLike 3 none 1 := ⟨(zg_in 527 (by decide +kernel) rfl), (zg_in 46 (by decide +kernel) rfl), ⟨by decide +kernel, by decide +kernel, by decide +kernel⟩, by decide⟩
theorem cd_X8_hatches : zCd yX8_hatches cX8_hatches 3 (some .int) 1 := ⟨(zg_in 534 (by decide +kernel) rfl), (zg_in 43 (by decide +kernel) rfl), ⟨by decide +kernel, by decide +kernel, by decide +kernel⟩, by decide⟩
theorem cd_X2_daysToHatch : zCd yX2_daysToHatch cX2_daysToHatch 5 (some .int) 2 := ⟨(zg_in 538 (by decide +kernel) rfl), (zg_in 47 (by decide +kernel) rfl), ⟨by decide +kernel, by decide +kernel, by decide +kernel⟩, by decide⟩
theorem cd_X8_rows : zCd yX8_rows cX8_rows 2 (some .int) 1 := ⟨(zg_in 544 (by decide +kernel) rfl), (zg_in 43 (by decide +kernel) rfl), ⟨by decide +kernel, by decide +kernel, by decide +kernel⟩, by decide⟩
theorem cd_X2_bestRows : zCd yX2_bestRows cX2_bestRows 8 (some .int) 1 := ⟨(zg_in 548 (by decide +kernel) rfl), (zg_in 47 (by decide +kernel) rfl), ⟨by decide +kernel, by decide +kernel, by decide +kernel⟩, by decide⟩
theorem cd_X2_sendAll : zCd yX2_sendAll cX2_sendAll 6 (some .int) 1 := ⟨(zg_in 552 (by decide +kernel) rfl), (zg_in 47 (by decide +kernel) rfl), ⟨by decide +kernel, by decide +kernel, by decide +kernel⟩, by decide⟩
theorem cd_X1_lost : zCd yX1_lost cX1_lost 1 (some .int) 0 := ⟨(zg_in 557 (by decide +kernel) rfl), (zg_in 46 (by decide +kernel) rfl), ⟨by decide +kernel, by decide +kernel, by decide +kernel⟩, by decide⟩
theorem cd_X8_saved : zCd yX8_saved cX8_saved 2 (some .int) 1 := ⟨(zg_in 561 (by decide +kernel) rfl), (zg_in 43 (by decide +kernel) rfl), ⟨by decide +kernel, by decide +kernel, by decide +kernel⟩, by decide⟩
theorem cd_X2_safestHole : zCd yX2_safestHole cX2_safestHole 6 (some .int) 1 := ⟨(zg_in 565 (by decide +kernel) rfl), (zg_in 47 (by decide +kernel) rfl), ⟨by decide +kernel, by decide +kernel, by decide +kernel⟩, by decide⟩
theorem cd_X8_quiet : zCd yX8_quiet cX8_quiet 1 (some .int) 0 := ⟨(zg_in 572 (by decide +kernel) rfl), (zg_in 43 (by decide +kernel) rfl), ⟨by decide +kernel, by decide +kernel, by decide +kernel⟩, by decide⟩
theorem cd_X2_fewestForQuiet : zCd yX2_fewestForQuiet cX2_fewestForQuiet 4 (some .int) 0 := ⟨(zg_in 576 (by decide +kernel) rfl), (zg_in 47 (by decide +kernel) rfl), ⟨by decide +kernel, by decide +kernel, by decide +kernel⟩, by decide⟩
theorem cd_X2_isQuiet : zCd yX2_isQuiet cX2_isQuiet 3 (some .boolean) 1 := ⟨(zg_in 581 (by decide +kernel) rfl), (zg_in 47 (by decide +kernel) rfl), ⟨by decide +kernel, by decide +kernel, by decide +kernel⟩, by decide⟩
theorem cd_X1_answer : zCd yX1_answer cX1_answer 2 none 1 := ⟨(zg_in 585 (by decide +kernel) rfl), (zg_in 46 (by decide +kernel) rfl), ⟨by decide +kernel, by decide +kernel, by decide +kernel⟩, by decide⟩
theorem cd_X8_judge : zCd yX8_judge cX8_judge 4 (some .int) 2 := ⟨(zg_in 589 (by decide +kernel) rfl), (zg_in 43 (by decide +kernel) rfl), ⟨by decide +kernel, by decide +kernel, by decide +kernel⟩, by decide⟩
theorem cd_X2_firstThatCanNotBe : zCd yX2_firstThatCanNotBe cX2_firstThatCanNotBe 8 (some .int) 2 := ⟨(zg_in 593 (by decide +kernel) rfl), (zg_in 47 (by decide +kernel) rfl), ⟨by decide +kernel, by decide +kernel, by decide +kernel⟩, by decide⟩
theorem cd_X2_doIfCan : zCd yX2_doIfCan cX2_doIfCan 5 (some .boolean) 1 := ⟨(zg_in 599 (by decide +kernel) rfl), (zg_in 47 (by decide +kernel) rfl), ⟨by decide +kernel, by decide +kernel, by decide +kernel⟩, by decide⟩
theorem cd_X2_putIfCan : zCd yX2_putIfCan cX2_putIfCan 4 (some .boolean) 2 := ⟨(zg_in 603 (by decide +kernel) rfl), (zg_in 47 (by decide +kernel) rfl), ⟨by decide +kernel, by decide +kernel, by decide +kernel⟩, by decide⟩
theorem cd_X2_sendIfCan : zCd yX2_sendIfCan cX2_sendIfCan 4 (some .boolean) 2 := ⟨(zg_in 608 (by decide +kernel) rfl), (zg_in 47 (by decide +kernel) rfl), ⟨by decide +kernel, by decide +kernel, by decide +kernel⟩, by decide⟩
theorem cd_X8_share : zCd yX8_share cX8_share 3 (some .int) 2 := ⟨(zg_in 614 (by decide +kernel) rfl), (zg_in 43 (by decide +kernel) rfl), ⟨by decide +kernel, by decide +kernel, by decide +kernel⟩, by decide⟩
theorem cd_X2_shareOf : zCd yX2_shareOf cX2_shareOf 8 (some .int) 2 := ⟨(zg_in 618 (by decide +kernel) rfl), (zg_in 47 (by decide +kernel) rfl), ⟨by decide +kernel, by decide +kernel, by decide +kernel⟩, by decide⟩
theorem cd_X2_fillLostWith : zCd yX2_fillLostWith cX2_fillLostWith 3 none 0 := ⟨(zg_in 622 (by decide +kernel) rfl), (zg_in 47 (by decide +kernel) rfl), ⟨by decide +kernel, by decide +kernel, by decide +kernel⟩, by decide⟩
theorem cd_X2_factorial : zCd yX2_factorial cX2_factorial 3 (some .int) 1 := ⟨(zg_in 625 (by decide +kernel) rfl), (zg_in 47 (by decide +kernel) rfl), ⟨by decide +kernel, by decide +kernel, by decide +kernel⟩, by decide⟩
theorem cd_X8_part : zCd yX8_part cX8_part 7 (some .int) 3 := ⟨(zg_in 629 (by decide +kernel) rfl), (zg_in 43 (by decide +kernel) rfl), ⟨by decide +kernel, by decide +kernel, by decide +kernel⟩, by decide⟩
theorem cd_X8_tell : zCd yX8_tell cX8_tell 3 (some .int) 2 := ⟨(zg_in 636 (by decide +kernel) rfl), (zg_in 43 (by decide +kernel) rfl), ⟨by decide +kernel, by decide +kernel, by decide +kernel⟩, by decide⟩
theorem cd_X7_add : zCd yX7_add cX7_add 3 (some .int) 2 := ⟨(zg_in 640 (by decide +kernel) rfl), (zg_in 51 (by decide +kernel) rfl), ⟨by decide +kernel, by decide +kernel, by decide +kernel⟩, by decide⟩
theorem cd_X8_untell : zCd yX8_untell cX8_untell 1 (some .int) 0 := ⟨(zg_in 644 (by decide +kernel) rfl), (zg_in 43 (by decide +kernel) rfl), ⟨by decide +kernel, by decide +kernel, by decide +kernel⟩, by decide⟩
theorem cd_X7_clear : zCd yX7_clear cX7_clear 2 (some .int) 0 := ⟨(zg_in 648 (by decide +kernel) rfl), (zg_in 51 (by decide +kernel) rfl), ⟨by decide +kernel, by decide +kernel, by decide +kernel⟩, by decide⟩
theorem cd_X8_may : zCd yX8_may cX8_may 2 (some .int) 1 := ⟨(zg_in 652 (by decide +kernel) rfl), (zg_in 43 (by decide +kernel) rfl), ⟨by decide +kernel, by decide +kernel, by decide +kernel⟩, by decide⟩
theorem cd_X7_howMany : zCd yX7_howMany cX7_howMany 4 (some .int) 0 := ⟨(zg_in 656 (by decide +kernel) rfl), (zg_in 51 (by decide +kernel) rfl), ⟨by decide +kernel, by decide +kernel, by decide +kernel⟩, by decide⟩
theorem cd_X7_fits : zCd yX7_fits cX7_fits 3 (some .boolean) 1 := ⟨(zg_in 661 (by decide +kernel) rfl), (zg_in 51 (by decide +kernel) rfl), ⟨by decide +kernel, by decide +kernel, by decide +kernel⟩, by decide⟩
theorem cd_X7_first : zCd yX7_first cX7_first 3 (some .int) 0 := ⟨(zg_in 665 (by decide +kernel) rfl), (zg_in 51 (by decide +kernel) rfl), ⟨by decide +kernel, by decide +kernel, by decide +kernel⟩, by decide⟩
theorem cd_X8_rests : zCd yX8_rests cX8_rests 4 (some .int) 3 := ⟨(zg_in 669 (by decide +kernel) rfl), (zg_in 43 (by decide +kernel) rfl), ⟨by decide +kernel, by decide +kernel, by decide +kernel⟩, by decide⟩
theorem cd_X2_restsOf : zCd yX2_restsOf cX2_restsOf 8 (some .int) 3 := ⟨(zg_in 673 (by decide +kernel) rfl), (zg_in 47 (by decide +kernel) rfl), ⟨by decide +kernel, by decide +kernel, by decide +kernel⟩, by decide⟩
theorem cd_X2_fillGains : zCd yX2_fillGains cX2_fillGains 6 none 2 := ⟨(zg_in 677 (by decide +kernel) rfl), (zg_in 47 (by decide +kernel) rfl), ⟨by decide +kernel, by decide +kernel, by decide +kernel⟩, by decide⟩
theorem cd_X2_isRest : zCd yX2_isRest cX2_isRest 5 (some .boolean) 2 := ⟨(zg_in 682 (by decide +kernel) rfl), (zg_in 47 (by decide +kernel) rfl), ⟨by decide +kernel, by decide +kernel, by decide +kernel⟩, by decide⟩
theorem cd_X8_hawks : zCd yX8_hawks cX8_hawks 4 (some .int) 3 := ⟨(zg_in 686 (by decide +kernel) rfl), (zg_in 43 (by decide +kernel) rfl), ⟨by decide +kernel, by decide +kernel, by decide +kernel⟩, by decide⟩
theorem cd_X0_left : zCd yX0_left cX0_left 8 (some .int) 4 := ⟨(zg_in 691 (by decide +kernel) rfl), (zg_in 52 (by decide +kernel) rfl), ⟨by decide +kernel, by decide +kernel, by decide +kernel⟩, by decide⟩
theorem cd_X0_fill : zCd yX0_fill cX0_fill 6 (some .int) 2 := ⟨(zg_in 696 (by decide +kernel) rfl), (zg_in 52 (by decide +kernel) rfl), ⟨by decide +kernel, by decide +kernel, by decide +kernel⟩, by decide⟩
theorem cd_X8_seed : zCd yX8_seed cX8_seed 5 (some .long) 1 := ⟨(zg_in 702 (by decide +kernel) rfl), (zg_in 43 (by decide +kernel) rfl), ⟨by decide +kernel, by decide +kernel, by decide +kernel⟩, by decide⟩
theorem cd_X8_years : zCd yX8_years cX8_years 3 (some .int) 1 := ⟨(zg_in 706 (by decide +kernel) rfl), (zg_in 43 (by decide +kernel) rfl), ⟨by decide +kernel, by decide +kernel, by decide +kernel⟩, by decide⟩
theorem cd_X2_birdsOfYears : zCd yX2_birdsOfYears cX2_birdsOfYears 8 (some .int) 2 := ⟨(zg_in 710 (by decide +kernel) rfl), (zg_in 47 (by decide +kernel) rfl), ⟨by decide +kernel, by decide +kernel, by decide +kernel⟩, by decide⟩
theorem cd_X2_happen : zCd yX2_happen cX2_happen 2 none 1 := ⟨(zg_in 717 (by decide +kernel) rfl), (zg_in 47 (by decide +kernel) rfl), ⟨by decide +kernel, by decide +kernel, by decide +kernel⟩, by decide⟩
theorem cd_X8_keep : zCd yX8_keep cX8_keep 2 (some .int) 1 := ⟨(zg_in 721 (by decide +kernel) rfl), (zg_in 43 (by decide +kernel) rfl), ⟨by decide +kernel, by decide +kernel, by decide +kernel⟩, by decide⟩
theorem cd_X8_again : zCd yX8_again cX8_again 2 (some .int) 1 := ⟨(zg_in 726 (by decide +kernel) rfl), (zg_in 43 (by decide +kernel) rfl), ⟨by decide +kernel, by decide +kernel, by decide +kernel⟩, by decide⟩
theorem cd_X9_init : zCd yX9_init cX9_init 1 none 0 := ⟨(zg_in 732 (by decide +kernel) rfl), (zg_in 53 (by decide +kernel) rfl), ⟨by decide +kernel, by decide +kernel, by decide +kernel⟩, by decide⟩
theorem cd_X9_write : zCd yX9_write cX9_write 2 (some .int) 1 := ⟨(zg_in 840 (by decide +kernel) rfl), (zg_in 53 (by decide +kernel) rfl), ⟨by decide +kernel, by decide +kernel, by decide +kernel⟩, by decide⟩
theorem cd_X9_in : zCd yX9_in cX9_in 6 (some .boolean) 3 := ⟨(zg_in 844 (by decide +kernel) rfl), (zg_in 53 (by decide +kernel) rfl), ⟨by decide +kernel, by decide +kernel, by decide +kernel⟩, by decide⟩
theorem cd_X9_wipe : zCd yX9_wipe cX9_wipe 2 (some .int) 0 := ⟨(zg_in 848 (by decide +kernel) rfl), (zg_in 53 (by decide +kernel) rfl), ⟨by decide +kernel, by decide +kernel, by decide +kernel⟩, by decide⟩
theorem cd_X9_fault : zCd yX9_fault cX9_fault 1 (some .int) 0 := ⟨(zg_in 852 (by decide +kernel) rfl), (zg_in 53 (by decide +kernel) rfl), ⟨by decide +kernel, by decide +kernel, by decide +kernel⟩, by decide⟩
theorem cd_X9_readRoom : zCd yX9_readRoom cX9_readRoom 1 (some .int) 0 := ⟨(zg_in 856 (by decide +kernel) rfl), (zg_in 53 (by decide +kernel) rfl), ⟨by decide +kernel, by decide +kernel, by decide +kernel⟩, by decide⟩
theorem cd_X9_from : zCd yX9_from cX9_from 4 (some .int) 3 := ⟨(zg_in 860 (by decide +kernel) rfl), (zg_in 53 (by decide +kernel) rfl), ⟨by decide +kernel, by decide +kernel, by decide +kernel⟩, by decide⟩
theorem cd_X9_readThing : zCd yX9_readThing cX9_readThing 2 (some .boolean) 0 := ⟨(zg_in 864 (by decide +kernel) rfl), (zg_in 53 (by decide +kernel) rfl), ⟨by decide +kernel, by decide +kernel, by decide +kernel⟩, by decide⟩
theorem cd_X9_readOneLetter : zCd yX9_readOneLetter cX9_readOneLetter 4 (some .boolean) 0 := ⟨(zg_in 868 (by decide +kernel) rfl), (zg_in 53 (by decide +kernel) rfl), ⟨by decide +kernel, by decide +kernel, by decide +kernel⟩, by decide⟩
theorem cd_X9_readIn : zCd yX9_readIn cX9_readIn 4 (some .int) 1 := ⟨(zg_in 872 (by decide +kernel) rfl), (zg_in 53 (by decide +kernel) rfl), ⟨by decide +kernel, by decide +kernel, by decide +kernel⟩, by decide⟩
theorem cd_X9_readOneClerk : zCd yX9_readOneClerk cX9_readOneClerk 3 (some .boolean) 0 := ⟨(zg_in 876 (by decide +kernel) rfl), (zg_in 53 (by decide +kernel) rfl), ⟨by decide +kernel, by decide +kernel, by decide +kernel⟩, by decide⟩
theorem cd_X9_room : zCd yX9_room cX9_room 2 (some .int) 0 := ⟨(zg_in 880 (by decide +kernel) rfl), (zg_in 53 (by decide +kernel) rfl), ⟨by decide +kernel, by decide +kernel, by decide +kernel⟩, by decide⟩
theorem cd_X9_about : zCd yX9_about cX9_about 2 (some .int) 1 := ⟨(zg_in 884 (by decide +kernel) rfl), (zg_in 53 (by decide +kernel) rfl), ⟨by decide +kernel, by decide +kernel, by decide +kernel⟩, by decide⟩
theorem cd_X9_thatAre : zCd yX9_thatAre cX9_thatAre 5 (some .int) 2 := ⟨(zg_in 888 (by decide +kernel) rfl), (zg_in 53 (by decide +kernel) rfl), ⟨by decide +kernel, by decide +kernel, by decide +kernel⟩, by decide⟩
theorem cd_X9_pairs : zCd yX9_pairs cX9_pairs 3 (some .int) 0 := ⟨(zg_in 892 (by decide +kernel) rfl), (zg_in 53 (by decide +kernel) rfl), ⟨by decide +kernel, by decide +kernel, by decide +kernel⟩, by decide⟩
theorem cd_X9_inHole : zCd yX9_inHole cX9_inHole 6 (some .int) 2 := ⟨(zg_in 896 (by decide +kernel) rfl), (zg_in 53 (by decide +kernel) rfl), ⟨by decide +kernel, by decide +kernel, by decide +kernel⟩, by decide⟩
theorem cd_X9_many : zCd yX9_many cX9_many 3 (some .int) 1 := ⟨(zg_in 899 (by decide +kernel) rfl), (zg_in 53 (by decide +kernel) rfl), ⟨by decide +kernel, by decide +kernel, by decide +kernel⟩, by decide⟩
theorem cd_X9_letter : zCd yX9_letter cX9_letter 3 (some .int) 2 := ⟨(zg_in 903 (by decide +kernel) rfl), (zg_in 53 (by decide +kernel) rfl), ⟨by decide +kernel, by decide +kernel, by decide +kernel⟩, by decide⟩
theorem cd_X9_noLetter : zCd yX9_noLetter cX9_noLetter 2 (some .boolean) 1 := ⟨(zg_in 907 (by decide +kernel) rfl), (zg_in 53 (by decide +kernel) rfl), ⟨by decide +kernel, by decide +kernel, by decide +kernel⟩, by decide⟩
theorem cd_X9_toWait : zCd yX9_toWait cX9_toWait 4 (some .int) 2 := ⟨(zg_in 911 (by decide +kernel) rfl), (zg_in 53 (by decide +kernel) rfl), ⟨by decide +kernel, by decide +kernel, by decide +kernel⟩, by decide⟩
theorem cd_X9_needs : zCd yX9_needs cX9_needs 5 (some .int) 2 := ⟨(zg_in 915 (by decide +kernel) rfl), (zg_in 53 (by decide +kernel) rfl), ⟨by decide +kernel, by decide +kernel, by decide +kernel⟩, by decide⟩
theorem cd_X9_halfOf : zCd yX9_halfOf cX9_halfOf 1 (some .int) 1 := ⟨(zg_in 918 (by decide +kernel) rfl), (zg_in 53 (by decide +kernel) rfl), ⟨by decide +kernel, by decide +kernel, by decide +kernel⟩, by decide⟩
theorem cd_X9_clerk : zCd yX9_clerk cX9_clerk 3 (some .int) 2 := ⟨(zg_in 922 (by decide +kernel) rfl), (zg_in 53 (by decide +kernel) rfl), ⟨by decide +kernel, by decide +kernel, by decide +kernel⟩, by decide⟩
theorem cd_X9_noClerk : zCd yX9_noClerk cX9_noClerk 2 (some .boolean) 1 := ⟨(zg_in 926 (by decide +kernel) rfl), (zg_in 53 (by decide +kernel) rfl), ⟨by decide +kernel, by decide +kernel, by decide +kernel⟩, by decide⟩
theorem cd_X9_hole : zCd yX9_hole cX9_hole 2 (some .int) 1 := ⟨(zg_in 930 (by decide +kernel) rfl), (zg_in 53 (by decide +kernel) rfl), ⟨by decide +kernel, by decide +kernel, by decide +kernel⟩, by decide⟩
theorem cd_X9_day : zCd yX9_day cX9_day 1 (some .int) 0 := ⟨(zg_in 935 (by decide +kernel) rfl), (zg_in 53 (by decide +kernel) rfl), ⟨by decide +kernel, by decide +kernel, by decide +kernel⟩, by decide⟩
theorem cd_X9_note : zCd yX9_note cX9_note 2 none 0 := ⟨(zg_in 939 (by decide +kernel) rfl), (zg_in 53 (by decide +kernel) rfl), ⟨by decide +kernel, by decide +kernel, by decide +kernel⟩, by decide⟩
theorem cd_X9_goDay : zCd yX9_goDay cX9_goDay 4 (some .int) 1 := ⟨(zg_in 943 (by decide +kernel) rfl), (zg_in 53 (by decide +kernel) rfl), ⟨by decide +kernel, by decide +kernel, by decide +kernel⟩, by decide⟩
theorem cd_X9_has : zCd yX9_has cX9_has 2 (some .boolean) 2 := ⟨(zg_in 946 (by decide +kernel) rfl), (zg_in 53 (by decide +kernel) rfl), ⟨by decide +kernel, by decide +kernel, by decide +kernel⟩, by decide⟩
theorem cd_X9_answer : zCd yX9_answer cX9_answer 5 none 2 := ⟨(zg_in 950 (by decide +kernel) rfl), (zg_in 53 (by decide +kernel) rfl), ⟨by decide +kernel, by decide +kernel, by decide +kernel⟩, by decide⟩
theorem cd_X9_nextOf : zCd yX9_nextOf cX9_nextOf 6 (some .int) 2 := ⟨(zg_in 954 (by decide +kernel) rfl), (zg_in 53 (by decide +kernel) rfl), ⟨by decide +kernel, by decide +kernel, by decide +kernel⟩, by decide⟩
theorem cd_X9_hatch : zCd yX9_hatch cX9_hatch 4 (some .int) 1 := ⟨(zg_in 958 (by decide +kernel) rfl), (zg_in 53 (by decide +kernel) rfl), ⟨by decide +kernel, by decide +kernel, by decide +kernel⟩, by decide⟩
theorem cd_X9_putOut : zCd yX9_putOut cX9_putOut 5 none 2 := ⟨(zg_in 962 (by decide +kernel) rfl), (zg_in 53 (by decide +kernel) rfl), ⟨by decide +kernel, by decide +kernel, by decide +kernel⟩, by decide⟩
theorem cd_X9_put : zCd yX9_put cX9_put 4 (some .int) 2 := ⟨(zg_in 966 (by decide +kernel) rfl), (zg_in 53 (by decide +kernel) rfl), ⟨by decide +kernel, by decide +kernel, by decide +kernel⟩, by decide⟩
theorem cd_X9_canPut : zCd yX9_canPut cX9_canPut 4 (some .boolean) 3 := ⟨(zg_in 970 (by decide +kernel) rfl), (zg_in 53 (by decide +kernel) rfl), ⟨by decide +kernel, by decide +kernel, by decide +kernel⟩, by decide⟩
theorem cd_X9_feed : zCd yX9_feed cX9_feed 2 (some .int) 1 := ⟨(zg_in 974 (by decide +kernel) rfl), (zg_in 53 (by decide +kernel) rfl), ⟨by decide +kernel, by decide +kernel, by decide +kernel⟩, by decide⟩
theorem cd_X9_goFeed : zCd yX9_goFeed cX9_goFeed 2 none 2 := ⟨(zg_in 978 (by decide +kernel) rfl), (zg_in 53 (by decide +kernel) rfl), ⟨by decide +kernel, by decide +kernel, by decide +kernel⟩, by decide⟩
theorem cd_X9_send : zCd yX9_send cX9_send 4 (some .int) 2 := ⟨(zg_in 982 (by decide +kernel) rfl), (zg_in 53 (by decide +kernel) rfl), ⟨by decide +kernel, by decide +kernel, by decide +kernel⟩, by decide⟩
theorem cd_X9_undo : zCd yX9_undo cX9_undo 2 (some .int) 0 := ⟨(zg_in 987 (by decide +kernel) rfl), (zg_in 53 (by decide +kernel) rfl), ⟨by decide +kernel, by decide +kernel, by decide +kernel⟩, by decide⟩
theorem cd_X9_ahead : zCd yX9_ahead cX9_ahead 3 (some .int) 2 := ⟨(zg_in 991 (by decide +kernel) rfl), (zg_in 53 (by decide +kernel) rfl), ⟨by decide +kernel, by decide +kernel, by decide +kernel⟩, by decide⟩
theorem cd_X9_begin : zCd yX9_begin cX9_begin 2 none 0 := ⟨(zg_in 997 (by decide +kernel) rfl), (zg_in 53 (by decide +kernel) rfl), ⟨by decide +kernel, by decide +kernel, by decide +kernel⟩, by decide⟩
theorem cd_X9_goDays : zCd yX9_goDays cX9_goDays 3 none 1 := ⟨(zg_in 1001 (by decide +kernel) rfl), (zg_in 53 (by decide +kernel) rfl), ⟨by decide +kernel, by decide +kernel, by decide +kernel⟩, by decide⟩
theorem cd_X9_hatches : zCd yX9_hatches cX9_hatches 2 (some .int) 1 := ⟨(zg_in 1005 (by decide +kernel) rfl), (zg_in 53 (by decide +kernel) rfl), ⟨by decide +kernel, by decide +kernel, by decide +kernel⟩, by decide⟩
theorem cd_X9_hatchesThen : zCd yX9_hatchesThen cX9_hatchesThen 3 (some .int) 1 := ⟨(zg_in 1009 (by decide +kernel) rfl), (zg_in 53 (by decide +kernel) rfl), ⟨by decide +kernel, by decide +kernel, by decide +kernel⟩, by decide⟩
theorem cd_X9_lost : zCd yX9_lost cX9_lost 2 (some .int) 1 := ⟨(zg_in 1013 (by decide +kernel) rfl), (zg_in 53 (by decide +kernel) rfl), ⟨by decide +kernel, by decide +kernel, by decide +kernel⟩, by decide⟩
theorem cd_X9_rows : zCd yX9_rows cX9_rows 6 (some .int) 1 := ⟨(zg_in 1017 (by decide +kernel) rfl), (zg_in 53 (by decide +kernel) rfl), ⟨by decide +kernel, by decide +kernel, by decide +kernel⟩, by decide⟩
theorem cd_X9_power : zCd yX9_power cX9_power 4 (some .int) 2 := ⟨(zg_in 1020 (by decide +kernel) rfl), (zg_in 53 (by decide +kernel) rfl), ⟨by decide +kernel, by decide +kernel, by decide +kernel⟩, by decide⟩
theorem cd_X9_saved : zCd yX9_saved cX9_saved 6 (some .int) 1 := ⟨(zg_in 1024 (by decide +kernel) rfl), (zg_in 53 (by decide +kernel) rfl), ⟨by decide +kernel, by decide +kernel, by decide +kernel⟩, by decide⟩
theorem cd_X9_quiet : zCd yX9_quiet cX9_quiet 5 (some .int) 0 := ⟨(zg_in 1028 (by decide +kernel) rfl), (zg_in 53 (by decide +kernel) rfl), ⟨by decide +kernel, by decide +kernel, by decide +kernel⟩, by decide⟩
theorem cd_X9_isQuiet : zCd yX9_isQuiet cX9_isQuiet 4 (some .boolean) 1 := ⟨(zg_in 1032 (by decide +kernel) rfl), (zg_in 53 (by decide +kernel) rfl), ⟨by decide +kernel, by decide +kernel, by decide +kernel⟩, by decide⟩
theorem cd_X9_judge : zCd yX9_judge cX9_judge 5 (some .int) 2 := ⟨(zg_in 1036 (by decide +kernel) rfl), (zg_in 53 (by decide +kernel) rfl), ⟨by decide +kernel, by decide +kernel, by decide +kernel⟩, by decide⟩
theorem cd_X9_longPower : zCd yX9_longPower cX9_longPower 6 (some .long) 2 := ⟨(zg_in 1041 (by decide +kernel) rfl), (zg_in 53 (by decide +kernel) rfl), ⟨by decide +kernel, by decide +kernel, by decide +kernel⟩, by decide⟩
theorem cd_X9_does : zCd yX9_does cX9_does 5 (some .boolean) 1 := ⟨(zg_in 1045 (by decide +kernel) rfl), (zg_in 53 (by decide +kernel) rfl), ⟨by decide +kernel, by decide +kernel, by decide +kernel⟩, by decide⟩
theorem cd_X9_share : zCd yX9_share cX9_share 6 (some .int) 2 := ⟨(zg_in 1049 (by decide +kernel) rfl), (zg_in 53 (by decide +kernel) rfl), ⟨by decide +kernel, by decide +kernel, by decide +kernel⟩, by decide⟩
theorem cd_X9_ways : zCd yX9_ways cX9_ways 3 (some .int) 1 := ⟨(zg_in 1052 (by decide +kernel) rfl), (zg_in 53 (by decide +kernel) rfl), ⟨by decide +kernel, by decide +kernel, by decide +kernel⟩, by decide⟩
theorem cd_X9_fraction : zCd yX9_fraction cX9_fraction 4 (some .int) 3 := ⟨(zg_in 1055 (by decide +kernel) rfl), (zg_in 53 (by decide +kernel) rfl), ⟨by decide +kernel, by decide +kernel, by decide +kernel⟩, by decide⟩
theorem cd_X9_divisor : zCd yX9_divisor cX9_divisor 5 (some .int) 2 := ⟨(zg_in 1058 (by decide +kernel) rfl), (zg_in 53 (by decide +kernel) rfl), ⟨by decide +kernel, by decide +kernel, by decide +kernel⟩, by decide⟩
theorem cd_X9_tell : zCd yX9_tell cX9_tell 3 (some .int) 2 := ⟨(zg_in 1062 (by decide +kernel) rfl), (zg_in 53 (by decide +kernel) rfl), ⟨by decide +kernel, by decide +kernel, by decide +kernel⟩, by decide⟩
theorem cd_X9_untell : zCd yX9_untell cX9_untell 2 (some .int) 0 := ⟨(zg_in 1066 (by decide +kernel) rfl), (zg_in 53 (by decide +kernel) rfl), ⟨by decide +kernel, by decide +kernel, by decide +kernel⟩, by decide⟩
theorem cd_X9_may : zCd yX9_may cX9_may 7 (some .int) 1 := ⟨(zg_in 1070 (by decide +kernel) rfl), (zg_in 53 (by decide +kernel) rfl), ⟨by decide +kernel, by decide +kernel, by decide +kernel⟩, by decide⟩
theorem cd_X9_rests : zCd yX9_rests cX9_rests 7 (some .int) 3 := ⟨(zg_in 1074 (by decide +kernel) rfl), (zg_in 53 (by decide +kernel) rfl), ⟨by decide +kernel, by decide +kernel, by decide +kernel⟩, by decide⟩
theorem cd_X9_layGains : zCd yX9_layGains cX9_layGains 5 none 3 := ⟨(zg_in 1078 (by decide +kernel) rfl), (zg_in 53 (by decide +kernel) rfl), ⟨by decide +kernel, by decide +kernel, by decide +kernel⟩, by decide⟩
theorem cd_X9_hawks : zCd yX9_hawks cX9_hawks 8 (some .int) 3 := ⟨(zg_in 1082 (by decide +kernel) rfl), (zg_in 53 (by decide +kernel) rfl), ⟨by decide +kernel, by decide +kernel, by decide +kernel⟩, by decide⟩
theorem cd_X9_seed : zCd yX9_seed cX9_seed 5 (some .long) 1 := ⟨(zg_in 1088 (by decide +kernel) rfl), (zg_in 53 (by decide +kernel) rfl), ⟨by decide +kernel, by decide +kernel, by decide +kernel⟩, by decide⟩
theorem cd_X9_years : zCd yX9_years cX9_years 5 (some .int) 1 := ⟨(zg_in 1092 (by decide +kernel) rfl), (zg_in 53 (by decide +kernel) rfl), ⟨by decide +kernel, by decide +kernel, by decide +kernel⟩, by decide⟩
theorem cd_X9_keep : zCd yX9_keep cX9_keep 3 (some .int) 1 := ⟨(zg_in 1100 (by decide +kernel) rfl), (zg_in 53 (by decide +kernel) rfl), ⟨by decide +kernel, by decide +kernel, by decide +kernel⟩, by decide⟩
theorem cd_X9_again : zCd yX9_again cX9_again 3 (some .int) 1 := ⟨(zg_in 1104 (by decide +kernel) rfl), (zg_in 53 (by decide +kernel) rfl), ⟨by decide +kernel, by decide +kernel, by decide +kernel⟩, by decide⟩
theorem lk_L_9 : Cond.instanceMethod yX8_init ∈ lw_g ∧ zLk RL 9 yX8_init := ⟨(zg_in 59 (by decide +kernel) rfl), (Or.inl (zg_in 58 (by decide +kernel) rfl))⟩
theorem lk_X8_9 : Cond.instanceMethod yX5_init ∈ lw_g ∧ zLk RX8 9 yX5_init := ⟨(zg_in 67 (by decide +kernel) rfl), (Or.inr ⟨_, zn_in (w := .methodLinkNest RX8 9 yX5_init "PigeonMail") 66 (by decide +kernel) rfl⟩)⟩
theorem lk_X5_17 : Cond.instanceMethod yX4_init ∈ lw_g ∧ zLk RX5 17 yX4_init := ⟨(zg_in 73 (by decide +kernel) rfl), (Or.inr ⟨_, zn_in (w := .methodLinkNest RX5 17 yX4_init "PigeonMail") 72 (by decide +kernel) rfl⟩)⟩
theorem lk_X8_18 : Cond.instanceMethod yX4_init ∈ lw_g ∧ zLk RX8 18 yX4_init := ⟨(zg_in 73 (by decide +kernel) rfl), (Or.inr ⟨_, zn_in (w := .methodLinkNest RX8 18 yX4_init "PigeonMail") 141 (by decide +kernel) rfl⟩)⟩
theorem lk_X8_25 : Cond.instanceMethod yX1_init ∈ lw_g ∧ zLk RX8 25 yX1_init := ⟨(zg_in 145 (by decide +kernel) rfl), (Or.inl (zg_in 144 (by decide +kernel) rfl))⟩
theorem lk_X8_34 : Cond.instanceMethod yX2_init ∈ lw_g ∧ zLk RX8 34 yX2_init := ⟨(zg_in 163 (by decide +kernel) rfl), (Or.inl (zg_in 162 (by decide +kernel) rfl))⟩
theorem lk_X2_34 : Cond.instanceMethod yX1_init ∈ lw_g ∧ zLk RX2 34 yX1_init := ⟨(zg_in 145 (by decide +kernel) rfl), (Or.inl (zg_in 167 (by decide +kernel) rfl))⟩
theorem lk_X8_43 : Cond.instanceMethod yX3_init ∈ lw_g ∧ zLk RX8 43 yX3_init := ⟨(zg_in 197 (by decide +kernel) rfl), (Or.inr ⟨_, zn_in (w := .methodLinkNest RX8 43 yX3_init "PigeonMail") 196 (by decide +kernel) rfl⟩)⟩
theorem lk_X3_11 : Cond.instanceMethod yX6_init ∈ lw_g ∧ zLk RX3 11 yX6_init := ⟨(zg_in 203 (by decide +kernel) rfl), (Or.inl (zg_in 202 (by decide +kernel) rfl))⟩
theorem lk_X6_7 : zLm RX6 7 Lib.Math.max.name Lib.Math.max.code 2 := ⟨(zg_in 206 (by decide +kernel) rfl), (zg_in 207 (by decide +kernel) rfl), (zg_in 50 (by decide +kernel) rfl), (zg_in 208 (by decide +kernel) rfl)⟩
theorem lk_X8_50 : Cond.instanceMethod yX6_init ∈ lw_g ∧ zLk RX8 50 yX6_init := ⟨(zg_in 203 (by decide +kernel) rfl), (Or.inl (zg_in 228 (by decide +kernel) rfl))⟩
theorem lk_X8_63 : Cond.instanceMethod yX7_init ∈ lw_g ∧ zLk RX8 63 yX7_init := ⟨(zg_in 232 (by decide +kernel) rfl), (Or.inr ⟨_, zn_in (w := .methodLinkNest RX8 63 yX7_init "PigeonMail") 231 (by decide +kernel) rfl⟩)⟩
theorem lk_X8_70 : Cond.instanceMethod yX0_init ∈ lw_g ∧ zLk RX8 70 yX0_init := ⟨(zg_in 250 (by decide +kernel) rfl), (Or.inr ⟨_, zn_in (w := .methodLinkNest RX8 70 yX0_init "PigeonMail") 249 (by decide +kernel) rfl⟩)⟩
theorem lk_L_13 : zLv RL 13 yX8_write := ⟨(zg_in 289 (by decide +kernel) rfl), (zg_in 290 (by decide +kernel) rfl), (Or.inl (zg_in 288 (by decide +kernel) rfl))⟩
theorem lk_X8_75 : zLv RX8 75 yX5_add := ⟨(zg_in 293 (by decide +kernel) rfl), (zg_in 294 (by decide +kernel) rfl), (Or.inl (zg_in 292 (by decide +kernel) rfl))⟩
theorem lk_L_18 : zLv RL 18 yX8_wipe := ⟨(zg_in 297 (by decide +kernel) rfl), (zg_in 298 (by decide +kernel) rfl), (Or.inl (zg_in 296 (by decide +kernel) rfl))⟩
theorem lk_X8_79 : zLv RX8 79 yX5_clear := ⟨(zg_in 301 (by decide +kernel) rfl), (zg_in 302 (by decide +kernel) rfl), (Or.inl (zg_in 300 (by decide +kernel) rfl))⟩
theorem lk_L_23 : zLv RL 23 yX8_fault := ⟨(zg_in 305 (by decide +kernel) rfl), (zg_in 306 (by decide +kernel) rfl), (Or.inl (zg_in 304 (by decide +kernel) rfl))⟩
theorem lk_X8_83 : zLv RX8 83 yX5_firstFault := ⟨(zg_in 309 (by decide +kernel) rfl), (zg_in 310 (by decide +kernel) rfl), (Or.inl (zg_in 308 (by decide +kernel) rfl))⟩
theorem lk_X5_26 : zLv RX5 26 yX5_readInto := ⟨(zg_in 313 (by decide +kernel) rfl), (zg_in 314 (by decide +kernel) rfl), (Or.inl (zg_in 312 (by decide +kernel) rfl))⟩
theorem lk_X5_30 : zLv RX5 30 yX4_clear := ⟨(zg_in 317 (by decide +kernel) rfl), (zg_in 318 (by decide +kernel) rfl), (Or.inl (zg_in 316 (by decide +kernel) rfl))⟩
theorem lk_X5_33 : zLs RX5 33 yX5_readOutside := ⟨(zg_in 321 (by decide +kernel) rfl), (Or.inl (zg_in 320 (by decide +kernel) rfl))⟩
theorem lk_X5_43 : zLs RX5 43 yX5_isFigure := ⟨(zg_in 324 (by decide +kernel) rfl), (Or.inl (zg_in 323 (by decide +kernel) rfl))⟩
theorem lk_X5_37 : zLs RX5 37 yX5_readInside := ⟨(zg_in 327 (by decide +kernel) rfl), (Or.inl (zg_in 326 (by decide +kernel) rfl))⟩
theorem lk_X5_56 : zLs RX5 56 yX8_isHole := ⟨(zg_in 330 (by decide +kernel) rfl), (Or.inr ⟨_, zn_in (w := .methodLinkNest RX5 56 yX8_isHole "PigeonMail") 329 (by decide +kernel) rfl⟩)⟩
theorem lk_X5_60 : zLv RX5 60 yX4_homesIn := ⟨(zg_in 333 (by decide +kernel) rfl), (zg_in 334 (by decide +kernel) rfl), (Or.inl (zg_in 332 (by decide +kernel) rfl))⟩
theorem lk_X5_73 : zLs RX5 73 yX8_waitAlone := ⟨(zg_in 337 (by decide +kernel) rfl), (Or.inr ⟨_, zn_in (w := .methodLinkNest RX5 73 yX8_waitAlone "PigeonMail") 336 (by decide +kernel) rfl⟩)⟩
theorem lk_X8_253 : zLm RX8 253 Lib.Math.max.name Lib.Math.max.code 2 := ⟨(zg_in 339 (by decide +kernel) rfl), (zg_in 207 (by decide +kernel) rfl), (zg_in 50 (by decide +kernel) rfl), (zg_in 208 (by decide +kernel) rfl)⟩
theorem lk_L_27 : zLv RL 27 yX8_room := ⟨(zg_in 341 (by decide +kernel) rfl), (zg_in 342 (by decide +kernel) rfl), (Or.inl (zg_in 340 (by decide +kernel) rfl))⟩
theorem lk_X8_86 : zLv RX8 86 yX5_readInto := ⟨(zg_in 313 (by decide +kernel) rfl), (zg_in 314 (by decide +kernel) rfl), (Or.inl (zg_in 344 (by decide +kernel) rfl))⟩
theorem lk_X8_90 : zLv RX8 90 yX1_begin := ⟨(zg_in 346 (by decide +kernel) rfl), (zg_in 347 (by decide +kernel) rfl), (Or.inl (zg_in 345 (by decide +kernel) rfl))⟩
theorem lk_X8_93 : zLv RX8 93 yX3_clear := ⟨(zg_in 350 (by decide +kernel) rfl), (zg_in 351 (by decide +kernel) rfl), (Or.inl (zg_in 349 (by decide +kernel) rfl))⟩
theorem lk_L_31 : zLv RL 31 yX8_about := ⟨(zg_in 354 (by decide +kernel) rfl), (zg_in 355 (by decide +kernel) rfl), (Or.inl (zg_in 353 (by decide +kernel) rfl))⟩
theorem lk_X8_102 : zLv RX8 102 yX1_theDay := ⟨(zg_in 358 (by decide +kernel) rfl), (zg_in 359 (by decide +kernel) rfl), (Or.inl (zg_in 357 (by decide +kernel) rfl))⟩
theorem lk_X8_105 : zLv RX8 105 yX1_grain := ⟨(zg_in 362 (by decide +kernel) rfl), (zg_in 363 (by decide +kernel) rfl), (Or.inl (zg_in 361 (by decide +kernel) rfl))⟩
theorem lk_X8_108 : zLv RX8 108 yX1_who := ⟨(zg_in 366 (by decide +kernel) rfl), (zg_in 367 (by decide +kernel) rfl), (Or.inl (zg_in 365 (by decide +kernel) rfl))⟩
theorem lk_X8_111 : zLv RX8 111 yX1_pairs := ⟨(zg_in 370 (by decide +kernel) rfl), (zg_in 371 (by decide +kernel) rfl), (Or.inl (zg_in 369 (by decide +kernel) rfl))⟩
theorem lk_X1_46 : zLv RX1 46 yX1_who := ⟨(zg_in 366 (by decide +kernel) rfl), (zg_in 367 (by decide +kernel) rfl), (Or.inl (zg_in 373 (by decide +kernel) rfl))⟩
theorem lk_X1_55 : zLv RX1 55 yX1_whoIsIn := ⟨(zg_in 375 (by decide +kernel) rfl), (zg_in 376 (by decide +kernel) rfl), (Or.inl (zg_in 374 (by decide +kernel) rfl))⟩
theorem lk_X1_50 : zLs RX1 50 yJ6_bitCount_0f7a4 := ⟨(zg_in 379 (by decide +kernel) rfl), (Or.inl (zg_in 378 (by decide +kernel) rfl))⟩
theorem lk_L_35 : zLv RL 35 yX8_letter := ⟨(zg_in 385 (by decide +kernel) rfl), (zg_in 386 (by decide +kernel) rfl), (Or.inl (zg_in 384 (by decide +kernel) rfl))⟩
theorem lk_X8_121 : zLv RX8 121 yX4_hasLetter := ⟨(zg_in 389 (by decide +kernel) rfl), (zg_in 390 (by decide +kernel) rfl), (Or.inl (zg_in 388 (by decide +kernel) rfl))⟩
theorem lk_X8_125 : zLv RX8 125 yX1_holeOf := ⟨(zg_in 393 (by decide +kernel) rfl), (zg_in 394 (by decide +kernel) rfl), (Or.inl (zg_in 392 (by decide +kernel) rfl))⟩
theorem lk_X8_135 : zLv RX8 135 yX1_fateOf := ⟨(zg_in 397 (by decide +kernel) rfl), (zg_in 398 (by decide +kernel) rfl), (Or.inl (zg_in 396 (by decide +kernel) rfl))⟩
theorem lk_X8_138 : zLv RX8 138 yX1_waitedOf := ⟨(zg_in 401 (by decide +kernel) rfl), (zg_in 402 (by decide +kernel) rfl), (Or.inl (zg_in 400 (by decide +kernel) rfl))⟩
theorem lk_X8_141 : zLv RX8 141 yX1_daysLeft := ⟨(zg_in 405 (by decide +kernel) rfl), (zg_in 406 (by decide +kernel) rfl), (Or.inl (zg_in 404 (by decide +kernel) rfl))⟩
theorem lk_L_40 : zLv RL 40 yX8_clerk := ⟨(zg_in 409 (by decide +kernel) rfl), (zg_in 410 (by decide +kernel) rfl), (Or.inl (zg_in 408 (by decide +kernel) rfl))⟩
theorem lk_X8_144 : zLv RX8 144 yX4_hasClerk := ⟨(zg_in 413 (by decide +kernel) rfl), (zg_in 414 (by decide +kernel) rfl), (Or.inl (zg_in 412 (by decide +kernel) rfl))⟩
theorem lk_X8_147 : zLv RX8 147 yX1_rowOf := ⟨(zg_in 417 (by decide +kernel) rfl), (zg_in 418 (by decide +kernel) rfl), (Or.inl (zg_in 416 (by decide +kernel) rfl))⟩
theorem lk_L_44 : zLv RL 44 yX8_hole := ⟨(zg_in 421 (by decide +kernel) rfl), (zg_in 422 (by decide +kernel) rfl), (Or.inl (zg_in 420 (by decide +kernel) rfl))⟩
theorem lk_X8_153 : zLs RX8 153 yX8_isHole := ⟨(zg_in 330 (by decide +kernel) rfl), (Or.inl (zg_in 424 (by decide +kernel) rfl))⟩
theorem lk_X8_156 : zLv RX8 156 yX1_whoIsIn := ⟨(zg_in 375 (by decide +kernel) rfl), (zg_in 376 (by decide +kernel) rfl), (Or.inl (zg_in 425 (by decide +kernel) rfl))⟩
theorem lk_L_48 : zLv RL 48 yX8_day := ⟨(zg_in 427 (by decide +kernel) rfl), (zg_in 428 (by decide +kernel) rfl), (Or.inl (zg_in 426 (by decide +kernel) rfl))⟩
theorem lk_X8_159 : zLv RX8 159 yX3_remember := ⟨(zg_in 431 (by decide +kernel) rfl), (zg_in 432 (by decide +kernel) rfl), (Or.inl (zg_in 430 (by decide +kernel) rfl))⟩
theorem lk_X3_27 : zLv RX3 27 yX6_store := ⟨(zg_in 435 (by decide +kernel) rfl), (zg_in 436 (by decide +kernel) rfl), (Or.inl (zg_in 434 (by decide +kernel) rfl))⟩
theorem lk_X6_26 : Cond.methodLink RX6 26 arraycopyName ∈ lw_g ∧ Cond.native arraycopyName ∈ lw_g ∧ Cond.static arraycopyName ∈ lw_g ∧ Cond.initialized "java/lang/System" ∈ lw_g := ⟨(zg_in 438 (by decide +kernel) rfl), (zg_in 440 (by decide +kernel) rfl), (zg_in 439 (by decide +kernel) rfl), (zg_in 55 (by decide +kernel) rfl)⟩
theorem lk_X8_163 : zLv RX8 163 yX1_passDay := ⟨(zg_in 442 (by decide +kernel) rfl), (zg_in 443 (by decide +kernel) rfl), (Or.inl (zg_in 441 (by decide +kernel) rfl))⟩
theorem lk_X1_83 : zLv RX1 83 yX1_clerkAnswers := ⟨(zg_in 447 (by decide +kernel) rfl), (zg_in 0 (by decide +kernel) rfl), (Or.inl (zg_in 445 (by decide +kernel) rfl))⟩
theorem lk_X1_99 : zLv RX1 99 yX1_mostPressing := ⟨(zg_in 451 (by decide +kernel) rfl), (zg_in 1 (by decide +kernel) rfl), (Or.inl (zg_in 449 (by decide +kernel) rfl))⟩
theorem lk_X1_87 : zLv RX1 87 yX1_daysLeft := ⟨(zg_in 405 (by decide +kernel) rfl), (zg_in 406 (by decide +kernel) rfl), (Or.inl (zg_in 453 (by decide +kernel) rfl))⟩
theorem lk_X1_90 : zLv RX1 90 yX1_hatch := ⟨(zg_in 456 (by decide +kernel) rfl), (zg_in 2 (by decide +kernel) rfl), (Or.inl (zg_in 454 (by decide +kernel) rfl))⟩
theorem lk_X1_93 : zLv RX1 93 yX1_birdsEat := ⟨(zg_in 460 (by decide +kernel) rfl), (zg_in 3 (by decide +kernel) rfl), (Or.inl (zg_in 458 (by decide +kernel) rfl))⟩
theorem lk_L_52 : zLv RL 52 yX8_put := ⟨(zg_in 463 (by decide +kernel) rfl), (zg_in 464 (by decide +kernel) rfl), (Or.inl (zg_in 462 (by decide +kernel) rfl))⟩
theorem lk_X8_166 : zLv RX8 166 yX1_canPut := ⟨(zg_in 467 (by decide +kernel) rfl), (zg_in 468 (by decide +kernel) rfl), (Or.inl (zg_in 466 (by decide +kernel) rfl))⟩
theorem lk_X1_64 : zLv RX1 64 yX4_hasLetter := ⟨(zg_in 389 (by decide +kernel) rfl), (zg_in 390 (by decide +kernel) rfl), (Or.inl (zg_in 470 (by decide +kernel) rfl))⟩
theorem lk_X1_68 : zLs RX1 68 yX8_isHole := ⟨(zg_in 330 (by decide +kernel) rfl), (Or.inr ⟨_, zn_in (w := .methodLinkNest RX1 68 yX8_isHole "PigeonMail") 471 (by decide +kernel) rfl⟩)⟩
theorem lk_X8_170 : zLv RX8 170 yX1_moveTo := ⟨(zg_in 473 (by decide +kernel) rfl), (zg_in 474 (by decide +kernel) rfl), (Or.inl (zg_in 472 (by decide +kernel) rfl))⟩
theorem lk_L_56 : zLv RL 56 yX8_feed := ⟨(zg_in 477 (by decide +kernel) rfl), (zg_in 478 (by decide +kernel) rfl), (Or.inl (zg_in 476 (by decide +kernel) rfl))⟩
theorem lk_X8_174 : zLv RX8 174 yX1_addGrain := ⟨(zg_in 481 (by decide +kernel) rfl), (zg_in 482 (by decide +kernel) rfl), (Or.inl (zg_in 480 (by decide +kernel) rfl))⟩
theorem lk_X1_77 : zLm RX1 77 Lib.Math.min.name Lib.Math.min.code 2 := ⟨(zg_in 484 (by decide +kernel) rfl), (zg_in 485 (by decide +kernel) rfl), (zg_in 50 (by decide +kernel) rfl), (zg_in 486 (by decide +kernel) rfl)⟩
theorem lk_L_60 : zLv RL 60 yX8_send := ⟨(zg_in 488 (by decide +kernel) rfl), (zg_in 489 (by decide +kernel) rfl), (Or.inl (zg_in 487 (by decide +kernel) rfl))⟩
theorem lk_X8_177 : zLs RX8 177 yX8_isRow := ⟨(zg_in 492 (by decide +kernel) rfl), (Or.inl (zg_in 491 (by decide +kernel) rfl))⟩
theorem lk_X8_180 : zLv RX8 180 yX1_canSend := ⟨(zg_in 495 (by decide +kernel) rfl), (zg_in 496 (by decide +kernel) rfl), (Or.inl (zg_in 494 (by decide +kernel) rfl))⟩
theorem lk_X1_71 : zLv RX1 71 yX4_hasClerk := ⟨(zg_in 413 (by decide +kernel) rfl), (zg_in 414 (by decide +kernel) rfl), (Or.inl (zg_in 498 (by decide +kernel) rfl))⟩
theorem lk_X1_74 : zLs RX1 74 yX8_isRow := ⟨(zg_in 492 (by decide +kernel) rfl), (Or.inr ⟨_, zn_in (w := .methodLinkNest RX1 74 yX8_isRow "PigeonMail") 499 (by decide +kernel) rfl⟩)⟩
theorem lk_X8_183 : zLv RX8 183 yX1_sendTo := ⟨(zg_in 501 (by decide +kernel) rfl), (zg_in 502 (by decide +kernel) rfl), (Or.inl (zg_in 500 (by decide +kernel) rfl))⟩
theorem lk_L_64 : zLv RL 64 yX8_undo := ⟨(zg_in 505 (by decide +kernel) rfl), (zg_in 506 (by decide +kernel) rfl), (Or.inl (zg_in 504 (by decide +kernel) rfl))⟩
theorem lk_X8_186 : zLv RX8 186 yX3_goBack := ⟨(zg_in 509 (by decide +kernel) rfl), (zg_in 510 (by decide +kernel) rfl), (Or.inl (zg_in 508 (by decide +kernel) rfl))⟩
theorem lk_X3_31 : zLv RX3 31 yX6_fetch := ⟨(zg_in 513 (by decide +kernel) rfl), (zg_in 514 (by decide +kernel) rfl), (Or.inl (zg_in 512 (by decide +kernel) rfl))⟩
theorem lk_L_68 : zLv RL 68 yX8_ahead := ⟨(zg_in 517 (by decide +kernel) rfl), (zg_in 518 (by decide +kernel) rfl), (Or.inl (zg_in 516 (by decide +kernel) rfl))⟩
theorem lk_X8_189 : zLv RX8 189 yX2_whoIn := ⟨(zg_in 521 (by decide +kernel) rfl), (zg_in 522 (by decide +kernel) rfl), (Or.inl (zg_in 520 (by decide +kernel) rfl))⟩
theorem lk_X2_40 : zLv RX2 40 yX1_beLike := ⟨(zg_in 525 (by decide +kernel) rfl), (zg_in 526 (by decide +kernel) rfl), (Or.inl (zg_in 524 (by decide +kernel) rfl))⟩
theorem lk_X1_40 : Cond.methodLink RX1 40 arraycopyName ∈ lw_g ∧ Cond.native arraycopyName ∈ lw_g ∧ Cond.static arraycopyName ∈ lw_g ∧ Cond.initialized "java/lang/System" ∈ lw_g := ⟨(zg_in 528 (by decide +kernel) rfl), (zg_in 440 (by decide +kernel) rfl), (zg_in 439 (by decide +kernel) rfl), (zg_in 55 (by decide +kernel) rfl)⟩
theorem lk_X2_44 : zLv RX2 44 yX1_passDay := ⟨(zg_in 442 (by decide +kernel) rfl), (zg_in 443 (by decide +kernel) rfl), (Or.inl (zg_in 529 (by decide +kernel) rfl))⟩
theorem lk_X2_48 : zLv RX2 48 yX1_who := ⟨(zg_in 366 (by decide +kernel) rfl), (zg_in 367 (by decide +kernel) rfl), (Or.inl (zg_in 530 (by decide +kernel) rfl))⟩
theorem lk_L_72 : zLv RL 72 yX8_hatches := ⟨(zg_in 532 (by decide +kernel) rfl), (zg_in 533 (by decide +kernel) rfl), (Or.inl (zg_in 531 (by decide +kernel) rfl))⟩
theorem lk_X8_193 : zLv RX8 193 yX2_daysToHatch := ⟨(zg_in 536 (by decide +kernel) rfl), (zg_in 537 (by decide +kernel) rfl), (Or.inl (zg_in 535 (by decide +kernel) rfl))⟩
theorem lk_X2_52 : zLv RX2 52 yX1_moveTo := ⟨(zg_in 473 (by decide +kernel) rfl), (zg_in 474 (by decide +kernel) rfl), (Or.inl (zg_in 539 (by decide +kernel) rfl))⟩
theorem lk_X2_56 : zLv RX2 56 yX1_fateOf := ⟨(zg_in 397 (by decide +kernel) rfl), (zg_in 398 (by decide +kernel) rfl), (Or.inl (zg_in 540 (by decide +kernel) rfl))⟩
theorem lk_L_76 : zLv RL 76 yX8_rows := ⟨(zg_in 542 (by decide +kernel) rfl), (zg_in 543 (by decide +kernel) rfl), (Or.inl (zg_in 541 (by decide +kernel) rfl))⟩
theorem lk_X8_196 : zLv RX8 196 yX2_bestRows := ⟨(zg_in 546 (by decide +kernel) rfl), (zg_in 547 (by decide +kernel) rfl), (Or.inl (zg_in 545 (by decide +kernel) rfl))⟩
theorem lk_X2_65 : zLv RX2 65 yX2_sendAll := ⟨(zg_in 551 (by decide +kernel) rfl), (zg_in 4 (by decide +kernel) rfl), (Or.inl (zg_in 549 (by decide +kernel) rfl))⟩
theorem lk_X2_71 : zLv RX2 71 yX1_sendTo := ⟨(zg_in 501 (by decide +kernel) rfl), (zg_in 502 (by decide +kernel) rfl), (Or.inl (zg_in 553 (by decide +kernel) rfl))⟩
theorem lk_X2_68 : zLv RX2 68 yX1_lost := ⟨(zg_in 555 (by decide +kernel) rfl), (zg_in 556 (by decide +kernel) rfl), (Or.inl (zg_in 554 (by decide +kernel) rfl))⟩
theorem lk_L_81 : zLv RL 81 yX8_saved := ⟨(zg_in 559 (by decide +kernel) rfl), (zg_in 560 (by decide +kernel) rfl), (Or.inl (zg_in 558 (by decide +kernel) rfl))⟩
theorem lk_X8_200 : zLv RX8 200 yX2_safestHole := ⟨(zg_in 563 (by decide +kernel) rfl), (zg_in 564 (by decide +kernel) rfl), (Or.inl (zg_in 562 (by decide +kernel) rfl))⟩
theorem lk_X2_74 : zLv RX2 74 yX1_holeOf := ⟨(zg_in 393 (by decide +kernel) rfl), (zg_in 394 (by decide +kernel) rfl), (Or.inl (zg_in 566 (by decide +kernel) rfl))⟩
theorem lk_X2_77 : zLv RX2 77 yX1_canPut := ⟨(zg_in 467 (by decide +kernel) rfl), (zg_in 468 (by decide +kernel) rfl), (Or.inl (zg_in 567 (by decide +kernel) rfl))⟩
theorem lk_X2_81 : zLv RX2 81 yX2_daysToHatch := ⟨(zg_in 536 (by decide +kernel) rfl), (zg_in 537 (by decide +kernel) rfl), (Or.inl (zg_in 568 (by decide +kernel) rfl))⟩
theorem lk_L_85 : zLv RL 85 yX8_quiet := ⟨(zg_in 570 (by decide +kernel) rfl), (zg_in 571 (by decide +kernel) rfl), (Or.inl (zg_in 569 (by decide +kernel) rfl))⟩
theorem lk_X8_203 : zLv RX8 203 yX2_fewestForQuiet := ⟨(zg_in 574 (by decide +kernel) rfl), (zg_in 575 (by decide +kernel) rfl), (Or.inl (zg_in 573 (by decide +kernel) rfl))⟩
theorem lk_X2_85 : zLs RX2 85 yJ6_bitCount_0f7a4 := ⟨(zg_in 379 (by decide +kernel) rfl), (Or.inl (zg_in 577 (by decide +kernel) rfl))⟩
theorem lk_X2_90 : zLv RX2 90 yX2_isQuiet := ⟨(zg_in 580 (by decide +kernel) rfl), (zg_in 5 (by decide +kernel) rfl), (Or.inl (zg_in 578 (by decide +kernel) rfl))⟩
theorem lk_X2_97 : zLv RX2 97 yX1_answer := ⟨(zg_in 583 (by decide +kernel) rfl), (zg_in 584 (by decide +kernel) rfl), (Or.inl (zg_in 582 (by decide +kernel) rfl))⟩
theorem lk_L_91 : zLv RL 91 yX8_judge := ⟨(zg_in 587 (by decide +kernel) rfl), (zg_in 588 (by decide +kernel) rfl), (Or.inl (zg_in 586 (by decide +kernel) rfl))⟩
theorem lk_X8_206 : zLv RX8 206 yX2_firstThatCanNotBe := ⟨(zg_in 591 (by decide +kernel) rfl), (zg_in 592 (by decide +kernel) rfl), (Or.inl (zg_in 590 (by decide +kernel) rfl))⟩
theorem lk_X2_101 : zLm RX2 101 Lib.Math.min.name Lib.Math.min.code 2 := ⟨(zg_in 594 (by decide +kernel) rfl), (zg_in 485 (by decide +kernel) rfl), (zg_in 50 (by decide +kernel) rfl), (zg_in 486 (by decide +kernel) rfl)⟩
theorem lk_X2_108 : zLv RX2 108 yX2_doIfCan := ⟨(zg_in 598 (by decide +kernel) rfl), (zg_in 6 (by decide +kernel) rfl), (Or.inl (zg_in 596 (by decide +kernel) rfl))⟩
theorem lk_X2_111 : zLv RX2 111 yX2_putIfCan := ⟨(zg_in 602 (by decide +kernel) rfl), (zg_in 7 (by decide +kernel) rfl), (Or.inl (zg_in 600 (by decide +kernel) rfl))⟩
theorem lk_X2_114 : zLv RX2 114 yX1_addGrain := ⟨(zg_in 481 (by decide +kernel) rfl), (zg_in 482 (by decide +kernel) rfl), (Or.inl (zg_in 604 (by decide +kernel) rfl))⟩
theorem lk_X2_117 : zLv RX2 117 yX2_sendIfCan := ⟨(zg_in 607 (by decide +kernel) rfl), (zg_in 8 (by decide +kernel) rfl), (Or.inl (zg_in 605 (by decide +kernel) rfl))⟩
theorem lk_X2_123 : zLv RX2 123 yX1_canSend := ⟨(zg_in 495 (by decide +kernel) rfl), (zg_in 496 (by decide +kernel) rfl), (Or.inl (zg_in 609 (by decide +kernel) rfl))⟩
theorem lk_X2_120 : zLv RX2 120 yX4_hasLetter := ⟨(zg_in 389 (by decide +kernel) rfl), (zg_in 390 (by decide +kernel) rfl), (Or.inl (zg_in 610 (by decide +kernel) rfl))⟩
theorem lk_L_96 : zLv RL 96 yX8_share := ⟨(zg_in 612 (by decide +kernel) rfl), (zg_in 613 (by decide +kernel) rfl), (Or.inl (zg_in 611 (by decide +kernel) rfl))⟩
theorem lk_X8_210 : zLv RX8 210 yX2_shareOf := ⟨(zg_in 616 (by decide +kernel) rfl), (zg_in 617 (by decide +kernel) rfl), (Or.inl (zg_in 615 (by decide +kernel) rfl))⟩
theorem lk_X2_126 : zLv RX2 126 yX2_fillLostWith := ⟨(zg_in 621 (by decide +kernel) rfl), (zg_in 9 (by decide +kernel) rfl), (Or.inl (zg_in 619 (by decide +kernel) rfl))⟩
theorem lk_X2_129 : zLs RX2 129 yX2_factorial := ⟨(zg_in 624 (by decide +kernel) rfl), (Or.inl (zg_in 623 (by decide +kernel) rfl))⟩
theorem lk_X2_132 : zLm RX2 132 Lib.Math.max.name Lib.Math.max.code 2 := ⟨(zg_in 626 (by decide +kernel) rfl), (zg_in 207 (by decide +kernel) rfl), (zg_in 50 (by decide +kernel) rfl), (zg_in 208 (by decide +kernel) rfl)⟩
theorem lk_X2_135 : zLs RX2 135 yX8_part := ⟨(zg_in 628 (by decide +kernel) rfl), (Or.inr ⟨_, zn_in (w := .methodLinkNest RX2 135 yX8_part "PigeonMail") 627 (by decide +kernel) rfl⟩)⟩
theorem lk_X8_258 : zLm RX8 258 Lib.Math.abs.name Lib.Math.abs.code 1 := ⟨(zg_in 630 (by decide +kernel) rfl), (zg_in 631 (by decide +kernel) rfl), (zg_in 50 (by decide +kernel) rfl), (zg_in 632 (by decide +kernel) rfl)⟩
theorem lk_L_101 : zLv RL 101 yX8_tell := ⟨(zg_in 634 (by decide +kernel) rfl), (zg_in 635 (by decide +kernel) rfl), (Or.inl (zg_in 633 (by decide +kernel) rfl))⟩
theorem lk_X8_214 : zLv RX8 214 yX7_add := ⟨(zg_in 638 (by decide +kernel) rfl), (zg_in 639 (by decide +kernel) rfl), (Or.inl (zg_in 637 (by decide +kernel) rfl))⟩
theorem lk_L_105 : zLv RL 105 yX8_untell := ⟨(zg_in 642 (by decide +kernel) rfl), (zg_in 643 (by decide +kernel) rfl), (Or.inl (zg_in 641 (by decide +kernel) rfl))⟩
theorem lk_X8_216 : zLv RX8 216 yX7_clear := ⟨(zg_in 646 (by decide +kernel) rfl), (zg_in 647 (by decide +kernel) rfl), (Or.inl (zg_in 645 (by decide +kernel) rfl))⟩
theorem lk_L_109 : zLv RL 109 yX8_may := ⟨(zg_in 650 (by decide +kernel) rfl), (zg_in 651 (by decide +kernel) rfl), (Or.inl (zg_in 649 (by decide +kernel) rfl))⟩
theorem lk_X8_217 : zLv RX8 217 yX7_howMany := ⟨(zg_in 654 (by decide +kernel) rfl), (zg_in 655 (by decide +kernel) rfl), (Or.inl (zg_in 653 (by decide +kernel) rfl))⟩
theorem lk_X7_23 : zLs RX7 23 yX8_waitAlone := ⟨(zg_in 337 (by decide +kernel) rfl), (Or.inr ⟨_, zn_in (w := .methodLinkNest RX7 23 yX8_waitAlone "PigeonMail") 657 (by decide +kernel) rfl⟩)⟩
theorem lk_X7_27 : zLv RX7 27 yX7_fits := ⟨(zg_in 660 (by decide +kernel) rfl), (zg_in 10 (by decide +kernel) rfl), (Or.inl (zg_in 658 (by decide +kernel) rfl))⟩
theorem lk_X8_220 : zLv RX8 220 yX7_first := ⟨(zg_in 663 (by decide +kernel) rfl), (zg_in 664 (by decide +kernel) rfl), (Or.inl (zg_in 662 (by decide +kernel) rfl))⟩
theorem lk_L_113 : zLv RL 113 yX8_rests := ⟨(zg_in 667 (by decide +kernel) rfl), (zg_in 668 (by decide +kernel) rfl), (Or.inl (zg_in 666 (by decide +kernel) rfl))⟩
theorem lk_X8_223 : zLv RX8 223 yX2_restsOf := ⟨(zg_in 671 (by decide +kernel) rfl), (zg_in 672 (by decide +kernel) rfl), (Or.inl (zg_in 670 (by decide +kernel) rfl))⟩
theorem lk_X2_139 : zLv RX2 139 yX2_fillGains := ⟨(zg_in 676 (by decide +kernel) rfl), (zg_in 11 (by decide +kernel) rfl), (Or.inl (zg_in 674 (by decide +kernel) rfl))⟩
theorem lk_X2_148 : zLv RX2 148 yX1_rowOf := ⟨(zg_in 417 (by decide +kernel) rfl), (zg_in 418 (by decide +kernel) rfl), (Or.inl (zg_in 678 (by decide +kernel) rfl))⟩
theorem lk_X2_142 : zLv RX2 142 yX2_isRest := ⟨(zg_in 681 (by decide +kernel) rfl), (zg_in 12 (by decide +kernel) rfl), (Or.inl (zg_in 679 (by decide +kernel) rfl))⟩
theorem lk_L_118 : zLv RL 118 yX8_hawks := ⟨(zg_in 684 (by decide +kernel) rfl), (zg_in 685 (by decide +kernel) rfl), (Or.inl (zg_in 683 (by decide +kernel) rfl))⟩
theorem lk_X8_227 : zLs RX8 227 yJ6_bitCount_0f7a4 := ⟨(zg_in 379 (by decide +kernel) rfl), (Or.inl (zg_in 687 (by decide +kernel) rfl))⟩
theorem lk_X8_232 : zLv RX8 232 yX0_left := ⟨(zg_in 689 (by decide +kernel) rfl), (zg_in 690 (by decide +kernel) rfl), (Or.inl (zg_in 688 (by decide +kernel) rfl))⟩
theorem lk_X0_15 : zLm RX0 15 Lib.Math.min.name Lib.Math.min.code 2 := ⟨(zg_in 692 (by decide +kernel) rfl), (zg_in 485 (by decide +kernel) rfl), (zg_in 50 (by decide +kernel) rfl), (zg_in 486 (by decide +kernel) rfl)⟩
theorem lk_X0_21 : zLv RX0 21 yX0_fill := ⟨(zg_in 695 (by decide +kernel) rfl), (zg_in 13 (by decide +kernel) rfl), (Or.inl (zg_in 693 (by decide +kernel) rfl))⟩
theorem lk_X0_24 : zLm RX0 24 Lib.Math.max.name Lib.Math.max.code 2 := ⟨(zg_in 697 (by decide +kernel) rfl), (zg_in 207 (by decide +kernel) rfl), (zg_in 50 (by decide +kernel) rfl), (zg_in 208 (by decide +kernel) rfl)⟩
theorem lk_X0_27 : zLs RX0 27 yX8_part := ⟨(zg_in 628 (by decide +kernel) rfl), (Or.inr ⟨_, zn_in (w := .methodLinkNest RX0 27 yX8_part "PigeonMail") 698 (by decide +kernel) rfl⟩)⟩
theorem lk_L_123 : zLv RL 123 yX8_seed := ⟨(zg_in 700 (by decide +kernel) rfl), (zg_in 701 (by decide +kernel) rfl), (Or.inl (zg_in 699 (by decide +kernel) rfl))⟩
theorem lk_L_128 : zLv RL 128 yX8_years := ⟨(zg_in 704 (by decide +kernel) rfl), (zg_in 705 (by decide +kernel) rfl), (Or.inl (zg_in 703 (by decide +kernel) rfl))⟩
theorem lk_X8_240 : zLv RX8 240 yX2_birdsOfYears := ⟨(zg_in 708 (by decide +kernel) rfl), (zg_in 709 (by decide +kernel) rfl), (Or.inl (zg_in 707 (by decide +kernel) rfl))⟩
theorem lk_X2_157 : zLv RX2 157 yX2_happen := ⟨(zg_in 716 (by decide +kernel) rfl), (zg_in 14 (by decide +kernel) rfl), (Or.inl (zg_in 714 (by decide +kernel) rfl))⟩
theorem lk_L_132 : zLv RL 132 yX8_keep := ⟨(zg_in 719 (by decide +kernel) rfl), (zg_in 720 (by decide +kernel) rfl), (Or.inl (zg_in 718 (by decide +kernel) rfl))⟩
theorem lk_X8_246 : zLv RX8 246 yX6_store := ⟨(zg_in 435 (by decide +kernel) rfl), (zg_in 436 (by decide +kernel) rfl), (Or.inl (zg_in 722 (by decide +kernel) rfl))⟩
theorem lk_L_136 : zLv RL 136 yX8_again := ⟨(zg_in 724 (by decide +kernel) rfl), (zg_in 725 (by decide +kernel) rfl), (Or.inl (zg_in 723 (by decide +kernel) rfl))⟩
theorem lk_X8_250 : zLv RX8 250 yX6_fetch := ⟨(zg_in 513 (by decide +kernel) rfl), (zg_in 514 (by decide +kernel) rfl), (Or.inl (zg_in 727 (by decide +kernel) rfl))⟩
theorem lk_L_12 : Cond.instanceMethod yX9_init ∈ lw_g ∧ zLk RL 12 yX9_init := ⟨(zg_in 731 (by decide +kernel) rfl), (Or.inl (zg_in 730 (by decide +kernel) rfl))⟩
theorem lk_L_17 : zLv RL 17 yX9_write := ⟨(zg_in 838 (by decide +kernel) rfl), (zg_in 839 (by decide +kernel) rfl), (Or.inl (zg_in 837 (by decide +kernel) rfl))⟩
theorem lk_X9_66 : zLs RX9 66 yX9_in := ⟨(zg_in 843 (by decide +kernel) rfl), (Or.inl (zg_in 842 (by decide +kernel) rfl))⟩
theorem lk_L_22 : zLv RL 22 yX9_wipe := ⟨(zg_in 846 (by decide +kernel) rfl), (zg_in 847 (by decide +kernel) rfl), (Or.inl (zg_in 845 (by decide +kernel) rfl))⟩
theorem lk_L_26 : zLv RL 26 yX9_fault := ⟨(zg_in 850 (by decide +kernel) rfl), (zg_in 851 (by decide +kernel) rfl), (Or.inl (zg_in 849 (by decide +kernel) rfl))⟩
theorem lk_X9_108 : zLv RX9 108 yX9_readRoom := ⟨(zg_in 855 (by decide +kernel) rfl), (zg_in 15 (by decide +kernel) rfl), (Or.inl (zg_in 853 (by decide +kernel) rfl))⟩
theorem lk_X9_84 : zLv RX9 84 yX9_from := ⟨(zg_in 859 (by decide +kernel) rfl), (zg_in 16 (by decide +kernel) rfl), (Or.inl (zg_in 857 (by decide +kernel) rfl))⟩
theorem lk_X9_105 : zLv RX9 105 yX9_readThing := ⟨(zg_in 863 (by decide +kernel) rfl), (zg_in 17 (by decide +kernel) rfl), (Or.inl (zg_in 861 (by decide +kernel) rfl))⟩
theorem lk_X9_95 : zLv RX9 95 yX9_readOneLetter := ⟨(zg_in 867 (by decide +kernel) rfl), (zg_in 18 (by decide +kernel) rfl), (Or.inl (zg_in 865 (by decide +kernel) rfl))⟩
theorem lk_X9_88 : zLv RX9 88 yX9_readIn := ⟨(zg_in 871 (by decide +kernel) rfl), (zg_in 19 (by decide +kernel) rfl), (Or.inl (zg_in 869 (by decide +kernel) rfl))⟩
theorem lk_X9_99 : zLv RX9 99 yX9_readOneClerk := ⟨(zg_in 875 (by decide +kernel) rfl), (zg_in 20 (by decide +kernel) rfl), (Or.inl (zg_in 873 (by decide +kernel) rfl))⟩
theorem lk_L_30 : zLv RL 30 yX9_room := ⟨(zg_in 878 (by decide +kernel) rfl), (zg_in 879 (by decide +kernel) rfl), (Or.inl (zg_in 877 (by decide +kernel) rfl))⟩
theorem lk_L_34 : zLv RL 34 yX9_about := ⟨(zg_in 882 (by decide +kernel) rfl), (zg_in 883 (by decide +kernel) rfl), (Or.inl (zg_in 881 (by decide +kernel) rfl))⟩
theorem lk_X9_122 : zLv RX9 122 yX9_thatAre := ⟨(zg_in 887 (by decide +kernel) rfl), (zg_in 21 (by decide +kernel) rfl), (Or.inl (zg_in 885 (by decide +kernel) rfl))⟩
theorem lk_X9_158 : zLv RX9 158 yX9_pairs := ⟨(zg_in 891 (by decide +kernel) rfl), (zg_in 22 (by decide +kernel) rfl), (Or.inl (zg_in 889 (by decide +kernel) rfl))⟩
theorem lk_X9_125 : zLv RX9 125 yX9_inHole := ⟨(zg_in 895 (by decide +kernel) rfl), (zg_in 23 (by decide +kernel) rfl), (Or.inl (zg_in 893 (by decide +kernel) rfl))⟩
theorem lk_X9_128 : zLs RX9 128 yX9_many := ⟨(zg_in 898 (by decide +kernel) rfl), (Or.inl (zg_in 897 (by decide +kernel) rfl))⟩
theorem lk_L_39 : zLv RL 39 yX9_letter := ⟨(zg_in 901 (by decide +kernel) rfl), (zg_in 902 (by decide +kernel) rfl), (Or.inl (zg_in 900 (by decide +kernel) rfl))⟩
theorem lk_X9_164 : zLv RX9 164 yX9_noLetter := ⟨(zg_in 906 (by decide +kernel) rfl), (zg_in 24 (by decide +kernel) rfl), (Or.inl (zg_in 904 (by decide +kernel) rfl))⟩
theorem lk_X9_131 : zLv RX9 131 yX9_toWait := ⟨(zg_in 910 (by decide +kernel) rfl), (zg_in 25 (by decide +kernel) rfl), (Or.inl (zg_in 908 (by decide +kernel) rfl))⟩
theorem lk_X9_118 : zLv RX9 118 yX9_needs := ⟨(zg_in 914 (by decide +kernel) rfl), (zg_in 26 (by decide +kernel) rfl), (Or.inl (zg_in 912 (by decide +kernel) rfl))⟩
theorem lk_X9_115 : zLs RX9 115 yX9_halfOf := ⟨(zg_in 917 (by decide +kernel) rfl), (Or.inl (zg_in 916 (by decide +kernel) rfl))⟩
theorem lk_L_43 : zLv RL 43 yX9_clerk := ⟨(zg_in 920 (by decide +kernel) rfl), (zg_in 921 (by decide +kernel) rfl), (Or.inl (zg_in 919 (by decide +kernel) rfl))⟩
theorem lk_X9_168 : zLv RX9 168 yX9_noClerk := ⟨(zg_in 925 (by decide +kernel) rfl), (zg_in 27 (by decide +kernel) rfl), (Or.inl (zg_in 923 (by decide +kernel) rfl))⟩
theorem lk_L_47 : zLv RL 47 yX9_hole := ⟨(zg_in 928 (by decide +kernel) rfl), (zg_in 929 (by decide +kernel) rfl), (Or.inl (zg_in 927 (by decide +kernel) rfl))⟩
theorem lk_L_51 : zLv RL 51 yX9_day := ⟨(zg_in 933 (by decide +kernel) rfl), (zg_in 934 (by decide +kernel) rfl), (Or.inl (zg_in 932 (by decide +kernel) rfl))⟩
theorem lk_X9_173 : zLv RX9 173 yX9_note := ⟨(zg_in 938 (by decide +kernel) rfl), (zg_in 28 (by decide +kernel) rfl), (Or.inl (zg_in 936 (by decide +kernel) rfl))⟩
theorem lk_X9_155 : zLv RX9 155 yX9_goDay := ⟨(zg_in 942 (by decide +kernel) rfl), (zg_in 29 (by decide +kernel) rfl), (Or.inl (zg_in 940 (by decide +kernel) rfl))⟩
theorem lk_X9_144 : zLs RX9 144 yX9_has := ⟨(zg_in 945 (by decide +kernel) rfl), (Or.inl (zg_in 944 (by decide +kernel) rfl))⟩
theorem lk_X9_148 : zLv RX9 148 yX9_answer := ⟨(zg_in 949 (by decide +kernel) rfl), (zg_in 30 (by decide +kernel) rfl), (Or.inl (zg_in 947 (by decide +kernel) rfl))⟩
theorem lk_X9_134 : zLv RX9 134 yX9_nextOf := ⟨(zg_in 953 (by decide +kernel) rfl), (zg_in 31 (by decide +kernel) rfl), (Or.inl (zg_in 951 (by decide +kernel) rfl))⟩
theorem lk_X9_151 : zLv RX9 151 yX9_hatch := ⟨(zg_in 957 (by decide +kernel) rfl), (zg_in 32 (by decide +kernel) rfl), (Or.inl (zg_in 955 (by decide +kernel) rfl))⟩
theorem lk_X9_137 : zLv RX9 137 yX9_putOut := ⟨(zg_in 961 (by decide +kernel) rfl), (zg_in 33 (by decide +kernel) rfl), (Or.inl (zg_in 959 (by decide +kernel) rfl))⟩
theorem lk_L_55 : zLv RL 55 yX9_put := ⟨(zg_in 964 (by decide +kernel) rfl), (zg_in 965 (by decide +kernel) rfl), (Or.inl (zg_in 963 (by decide +kernel) rfl))⟩
theorem lk_X9_176 : zLv RX9 176 yX9_canPut := ⟨(zg_in 969 (by decide +kernel) rfl), (zg_in 34 (by decide +kernel) rfl), (Or.inl (zg_in 967 (by decide +kernel) rfl))⟩
theorem lk_L_59 : zLv RL 59 yX9_feed := ⟨(zg_in 972 (by decide +kernel) rfl), (zg_in 973 (by decide +kernel) rfl), (Or.inl (zg_in 971 (by decide +kernel) rfl))⟩
theorem lk_X9_182 : zLs RX9 182 yX9_goFeed := ⟨(zg_in 977 (by decide +kernel) rfl), (Or.inl (zg_in 976 (by decide +kernel) rfl))⟩
theorem lk_L_63 : zLv RL 63 yX9_send := ⟨(zg_in 980 (by decide +kernel) rfl), (zg_in 981 (by decide +kernel) rfl), (Or.inl (zg_in 979 (by decide +kernel) rfl))⟩
theorem lk_L_67 : zLv RL 67 yX9_undo := ⟨(zg_in 985 (by decide +kernel) rfl), (zg_in 986 (by decide +kernel) rfl), (Or.inl (zg_in 984 (by decide +kernel) rfl))⟩
theorem lk_L_71 : zLv RL 71 yX9_ahead := ⟨(zg_in 989 (by decide +kernel) rfl), (zg_in 990 (by decide +kernel) rfl), (Or.inl (zg_in 988 (by decide +kernel) rfl))⟩
theorem lk_X9_191 : zLv RX9 191 yX9_begin := ⟨(zg_in 996 (by decide +kernel) rfl), (zg_in 35 (by decide +kernel) rfl), (Or.inl (zg_in 994 (by decide +kernel) rfl))⟩
theorem lk_X9_194 : zLv RX9 194 yX9_goDays := ⟨(zg_in 1000 (by decide +kernel) rfl), (zg_in 36 (by decide +kernel) rfl), (Or.inl (zg_in 998 (by decide +kernel) rfl))⟩
theorem lk_L_75 : zLv RL 75 yX9_hatches := ⟨(zg_in 1003 (by decide +kernel) rfl), (zg_in 1004 (by decide +kernel) rfl), (Or.inl (zg_in 1002 (by decide +kernel) rfl))⟩
theorem lk_X9_201 : zLv RX9 201 yX9_hatchesThen := ⟨(zg_in 1008 (by decide +kernel) rfl), (zg_in 37 (by decide +kernel) rfl), (Or.inl (zg_in 1006 (by decide +kernel) rfl))⟩
theorem lk_X9_198 : zLv RX9 198 yX9_lost := ⟨(zg_in 1012 (by decide +kernel) rfl), (zg_in 38 (by decide +kernel) rfl), (Or.inl (zg_in 1010 (by decide +kernel) rfl))⟩
theorem lk_L_80 : zLv RL 80 yX9_rows := ⟨(zg_in 1015 (by decide +kernel) rfl), (zg_in 1016 (by decide +kernel) rfl), (Or.inl (zg_in 1014 (by decide +kernel) rfl))⟩
theorem lk_X9_210 : zLs RX9 210 yX9_power := ⟨(zg_in 1019 (by decide +kernel) rfl), (Or.inl (zg_in 1018 (by decide +kernel) rfl))⟩
theorem lk_L_84 : zLv RL 84 yX9_saved := ⟨(zg_in 1022 (by decide +kernel) rfl), (zg_in 1023 (by decide +kernel) rfl), (Or.inl (zg_in 1021 (by decide +kernel) rfl))⟩
theorem lk_L_88 : zLv RL 88 yX9_quiet := ⟨(zg_in 1026 (by decide +kernel) rfl), (zg_in 1027 (by decide +kernel) rfl), (Or.inl (zg_in 1025 (by decide +kernel) rfl))⟩
theorem lk_X9_214 : zLv RX9 214 yX9_isQuiet := ⟨(zg_in 1031 (by decide +kernel) rfl), (zg_in 39 (by decide +kernel) rfl), (Or.inl (zg_in 1029 (by decide +kernel) rfl))⟩
theorem lk_L_95 : zLv RL 95 yX9_judge := ⟨(zg_in 1034 (by decide +kernel) rfl), (zg_in 1035 (by decide +kernel) rfl), (Or.inl (zg_in 1033 (by decide +kernel) rfl))⟩
theorem lk_X9_221 : zLs RX9 221 yX9_longPower := ⟨(zg_in 1040 (by decide +kernel) rfl), (Or.inl (zg_in 1039 (by decide +kernel) rfl))⟩
theorem lk_X9_225 : zLv RX9 225 yX9_does := ⟨(zg_in 1044 (by decide +kernel) rfl), (zg_in 40 (by decide +kernel) rfl), (Or.inl (zg_in 1042 (by decide +kernel) rfl))⟩
theorem lk_L_100 : zLv RL 100 yX9_share := ⟨(zg_in 1047 (by decide +kernel) rfl), (zg_in 1048 (by decide +kernel) rfl), (Or.inl (zg_in 1046 (by decide +kernel) rfl))⟩
theorem lk_X9_231 : zLs RX9 231 yX9_ways := ⟨(zg_in 1051 (by decide +kernel) rfl), (Or.inl (zg_in 1050 (by decide +kernel) rfl))⟩
theorem lk_X9_234 : zLs RX9 234 yX9_fraction := ⟨(zg_in 1054 (by decide +kernel) rfl), (Or.inl (zg_in 1053 (by decide +kernel) rfl))⟩
theorem lk_X9_228 : zLs RX9 228 yX9_divisor := ⟨(zg_in 1057 (by decide +kernel) rfl), (Or.inl (zg_in 1056 (by decide +kernel) rfl))⟩
theorem lk_L_104 : zLv RL 104 yX9_tell := ⟨(zg_in 1060 (by decide +kernel) rfl), (zg_in 1061 (by decide +kernel) rfl), (Or.inl (zg_in 1059 (by decide +kernel) rfl))⟩
theorem lk_L_108 : zLv RL 108 yX9_untell := ⟨(zg_in 1064 (by decide +kernel) rfl), (zg_in 1065 (by decide +kernel) rfl), (Or.inl (zg_in 1063 (by decide +kernel) rfl))⟩
theorem lk_L_112 : zLv RL 112 yX9_may := ⟨(zg_in 1068 (by decide +kernel) rfl), (zg_in 1069 (by decide +kernel) rfl), (Or.inl (zg_in 1067 (by decide +kernel) rfl))⟩
theorem lk_L_117 : zLv RL 117 yX9_rests := ⟨(zg_in 1072 (by decide +kernel) rfl), (zg_in 1073 (by decide +kernel) rfl), (Or.inl (zg_in 1071 (by decide +kernel) rfl))⟩
theorem lk_X9_244 : zLv RX9 244 yX9_layGains := ⟨(zg_in 1077 (by decide +kernel) rfl), (zg_in 41 (by decide +kernel) rfl), (Or.inl (zg_in 1075 (by decide +kernel) rfl))⟩
theorem lk_L_122 : zLv RL 122 yX9_hawks := ⟨(zg_in 1080 (by decide +kernel) rfl), (zg_in 1081 (by decide +kernel) rfl), (Or.inl (zg_in 1079 (by decide +kernel) rfl))⟩
theorem lk_L_127 : zLv RL 127 yX9_seed := ⟨(zg_in 1086 (by decide +kernel) rfl), (zg_in 1087 (by decide +kernel) rfl), (Or.inl (zg_in 1085 (by decide +kernel) rfl))⟩
theorem lk_L_131 : zLv RL 131 yX9_years := ⟨(zg_in 1090 (by decide +kernel) rfl), (zg_in 1091 (by decide +kernel) rfl), (Or.inl (zg_in 1089 (by decide +kernel) rfl))⟩
theorem lk_L_135 : zLv RL 135 yX9_keep := ⟨(zg_in 1098 (by decide +kernel) rfl), (zg_in 1099 (by decide +kernel) rfl), (Or.inl (zg_in 1097 (by decide +kernel) rfl))⟩
theorem lk_L_139 : zLv RL 139 yX9_again := ⟨(zg_in 1102 (by decide +kernel) rfl), (zg_in 1103 (by decide +kernel) rfl), (Or.inl (zg_in 1101 (by decide +kernel) rfl))⟩
theorem kc_J6_265 : Cond.constant RJ6 265 (1431655765 : Int32) ∈ lw_g := (zg_in 381 (by decide +kernel) rfl)
theorem kc_J6_266 : Cond.constant RJ6 266 (858993459 : Int32) ∈ lw_g := (zg_in 382 (by decide +kernel) rfl)
theorem kc_J6_267 : Cond.constant RJ6 267 (252645135 : Int32) ∈ lw_g := (zg_in 383 (by decide +kernel) rfl)
theorem kc_X2_106 : Cond.constantLong RX2 106 (10000 : Int64) ∈ lw_g := (zg_in 595 (by decide +kernel) rfl)
theorem kc_X2_151 : Cond.constantLong RX2 151 (6364136223846793005 : Int64) ∈ lw_g := (zg_in 711 (by decide +kernel) rfl)
theorem kc_X2_153 : Cond.constantLong RX2 153 (1442695040888963407 : Int64) ∈ lw_g := (zg_in 712 (by decide +kernel) rfl)
theorem kc_X2_155 : Cond.constantLong RX2 155 (24 : Int64) ∈ lw_g := (zg_in 713 (by decide +kernel) rfl)
theorem kc_X9_73 : Cond.constantLong RX9 73 (255 : Int64) ∈ lw_g := (zg_in 841 (by decide +kernel) rfl)
theorem kc_X9_171 : Cond.constantLong RX9 171 (11 : Int64) ∈ lw_g := (zg_in 931 (by decide +kernel) rfl)
theorem kc_X9_180 : Cond.constantLong RX9 180 (9 : Int64) ∈ lw_g := (zg_in 975 (by decide +kernel) rfl)
theorem kc_X9_185 : Cond.constantLong RX9 185 (2 : Int64) ∈ lw_g := (zg_in 983 (by decide +kernel) rfl)
theorem kc_X9_187 : Cond.constantLong RX9 187 (20 : Int64) ∈ lw_g := (zg_in 992 (by decide +kernel) rfl)
theorem kc_X9_189 : Cond.constantLong RX9 189 (3 : Int64) ∈ lw_g := (zg_in 993 (by decide +kernel) rfl)
theorem kc_X9_217 : Cond.constantLong RX9 217 (4 : Int64) ∈ lw_g := (zg_in 1037 (by decide +kernel) rfl)
theorem kc_X9_219 : Cond.constantLong RX9 219 (10000 : Int64) ∈ lw_g := (zg_in 1038 (by decide +kernel) rfl)
theorem kc_X9_254 : Cond.constantLong RX9 254 (6 : Int64) ∈ lw_g := (zg_in 1083 (by decide +kernel) rfl)
theorem kc_X9_256 : Cond.constantLong RX9 256 (10 : Int64) ∈ lw_g := (zg_in 1084 (by decide +kernel) rfl)
theorem kc_X9_262 : Cond.constantLong RX9 262 (30 : Int64) ∈ lw_g := (zg_in 1093 (by decide +kernel) rfl)
theorem kc_X9_264 : Cond.constantLong RX9 264 (6364136223846793005 : Int64) ∈ lw_g := (zg_in 1094 (by decide +kernel) rfl)
theorem kc_X9_266 : Cond.constantLong RX9 266 (1442695040888963407 : Int64) ∈ lw_g := (zg_in 1095 (by decide +kernel) rfl)
theorem kc_X9_268 : Cond.constantLong RX9 268 (24 : Int64) ∈ lw_g := (zg_in 1096 (by decide +kernel) rfl)
theorem kc_L_89 : Cond.constantLong RL 89 (4294967295 : Int64) ∈ lw_g := (zg_in 1105 (by decide +kernel) rfl)
end
section
-- the world of this claim: 0 PigeonMail, 1 Script, 3 draft, 10 plan, 17 now, 20 Outlook, 25 then, 28 Past, 29 its Shelf, 31 slots, 34 Told, 37 Chance, 39 PigeonMailModel; arrays behind each
def zSH : List zE := [
  .inr (8, [.inr (some 1), .inr (some 10), .inr (some 17), .inr (some 20), .inr (some 28), .inr (some 31), .inr (some 33), .inr (some 34), .inr (some 37), .inl 1]),
  .inr (5, [.inr (some 2), .inl 0, .inr (some 3)]), .inl (false, 48),
  .inr (4, [.inl 0, .inl 0, .inl 0, .inr (some 4), .inr (some 5), .inr (some 6), .inr (some 7), .inr (some 8), .inr (some 9)]), .inl (false, 6), .inl (false, 6), .inl (false, 6), .inl (false, 6), .inl (false, 3), .inl (false, 3),
  .inr (4, [.inl 0, .inl 0, .inl 0, .inr (some 11), .inr (some 12), .inr (some 13), .inr (some 14), .inr (some 15), .inr (some 16)]), .inl (false, 6), .inl (false, 6), .inl (false, 6), .inl (false, 6), .inl (false, 3), .inl (false, 3),
  .inr (1, [.inr (some 10), .inr (some 18), .inr (some 19)]), .inl (false, 23), .inl (false, 3),
  .inr (2, [.inr (some 10), .inr (some 17), .inr (some 25), .inr (some 21), .inr (some 22), .inr (some 23), .inr (some 24), .inl 1]), .inl (false, 4), .inl (false, 8), .inl (false, 9), .inl (false, 9),
  .inr (1, [.inr (some 10), .inr (some 26), .inr (some 27)]), .inl (false, 23), .inl (false, 3),
  .inr (3, [.inr (some 29), .inl 0, .inl 0]), .inr (6, [.inl 0, .inr (some 30)]), .inl (false, 322),
  .inr (6, [.inl 0, .inr (some 32)]), .inl (false, 46), .inl (true, 2),
  .inr (7, [.inr (some 35), .inr (some 36), .inl 0]), .inl (false, 6), .inl (true, 6),
  .inr (0, [.inr (some 38)]), .inl (false, 7),
  .inr (9, [.inl 0, .inr (some 40), .inl 0, .inl 0, .inl 0, .inr (some 41), .inr (some 42), .inl 0, .inr (some 43), .inl 0, .inl 0, .inr (some 44), .inl 0, .inr (some 45), .inr (some 46), .inr (some 47), .inr (some 48), .inl 0, .inr (some 49), .inr (some 50), .inl 0, .inr (some 51), .inr (some 52), .inl 1, .inl 0, .inr (some 53), .inl 0, .inl 0, .inl 0, .inl 0, .inl 0, .inl 0, .inr (some 54), .inr (some 55)]),
  .inl (false, 48), .inl (false, 6), .inl (false, 6), .inl (false, 3), .inl (false, 18), .inl (false, 6), .inl (false, 23), .inl (false, 23), .inl (false, 322), .inl (false, 46), .inl (true, 2), .inl (false, 6), .inl (false, 6), .inl (false, 3), .inl (false, 18), .inl (false, 8)]
theorem zfor {n : Nat} {P : Nat → Prop} (h : ∀ l, l ≤ n → (∀ l', l < l' → l' ≤ n → P l') → P l) : ∀ l, l ≤ n → P l := by
  have key : ∀ k l, l ≤ n → n - l ≤ k → P l := by
    intro k
    induction k with
    | zero => exact fun l hl hk => h l hl (fun l' h1 h2 => absurd h1 (by omega))
    | succ k ih => exact fun l hl hk => h l hl (fun l' h1 h2 => ih l' h2 (by omega))
  exact fun l hl => key n l hl (by omega)
theorem zdown {P : Nat → Prop} (h : ∀ l, (∀ l', l' < l → P l') → P l) : ∀ l, P l := fun l => Nat.strongRecOn l h
def zPi (P : Int → zMem → Prop) : Option Value → zMem → Prop := fun v μ => ∃ r : Int, v = some (.int (zi r)) ∧ P r μ
def zPl (P : Int → zMem → Prop) : Option Value → zMem → Prop := fun v μ => ∃ r : Int, v = some (.long (zl r)) ∧ P r μ
def zPv (P : zMem → Prop) : Option Value → zMem → Prop := fun v μ => v = none ∧ P μ
def zPd (ν : zMem) (X : Int) : Option Value → zMem → Prop := fun v μ => v = some (.int (zi X)) ∧ μ = ν
def zPm (ν : zMem) : Option Value → zMem → Prop := fun v μ => v = none ∧ μ = ν
theorem z_ipick {χ : zX} {nL : Nat} {ad : Nat → Nat} {sh : List zE} {n1 n2 pc : Nat} {lv lv' : List (Nat × Value)} {st : List Value} {μ : zMem} (ks : List Nat) (h : lv_pick lv ks = lv') (kk : zV χ nL ad sh n1 n2 pc lv' st μ) : zV χ nL ad sh n1 n2 pc lv st μ := by
  obtain ⟨p, l, e, R, s, m, args, below, meth, c, g, A, H0, Post, rc, rs⟩ := χ
  intro H locs ls hP hD hS hl
  exact kk H locs ls hP hD hS (lv_sub hl ks h)
section ZR
variable {χ : zX} {cc : ByteArray} {own : String} {nL d : Nat} {ret : Option FieldType} {ad : Nat → Nat} {sh : List zE} {pc : Nat} {lv : List (Nat × Value)} {μ : zMem}
theorem z_ireti {P : Int → zMem → Prop} {r : Int} (K : zOk χ cc own nL d ret) (T : zRet χ ad sh (zPi P)) (hR : ret = some .int) (dg : decode cc pc = .ok (.ireturn, 1)) (h : P r μ) : zV χ nL ad sh 0 0 pc lv [.int (zi r)] μ := z_iret (st := []) K T hR dg ⟨r, rfl, h⟩
theorem z_zreti {P : Int → zMem → Prop} {r : Int} (K : zOk χ cc own nL d ret) (T : zRet χ ad sh (zPi P)) (hR : ret = some .boolean) (dg : decode cc pc = .ok (.ireturn, 1)) (hz : r = 0 ∨ r = 1) (h : P r μ) : zV χ nL ad sh 0 0 pc lv [.int (zi r)] μ := z_zret (st := []) K T hR dg hz ⟨r, rfl, h⟩
theorem z_lreti {P : Int → zMem → Prop} {r : Int} (K : zOk χ cc own nL d ret) (T : zRet χ ad sh (zPl P)) (hR : ret = some .long) (dg : decode cc pc = .ok (.lreturn, 1)) (h : P r μ) : zV χ nL ad sh 0 0 pc lv [.long (zl r)] μ := z_lret (st := []) K T hR dg ⟨r, rfl, h⟩
theorem z_vreti {P : zMem → Prop} (K : zOk χ cc own nL d ret) (T : zRet χ ad sh (zPv P)) (hR : ret = none) (dg : decode cc pc = .ok (.return_, 1)) (h : P μ) : zV χ nL ad sh 0 0 pc lv [] μ := z_vret (st := []) K T hR dg ⟨rfl, h⟩
theorem z_iretd {ν : zMem} {X r : Int} (K : zOk χ cc own nL d ret) (T : zRet χ ad sh (zPd ν X)) (hR : ret = some .int) (dg : decode cc pc = .ok (.ireturn, 1)) (h : r = X) (hm : μ = ν) : zV χ nL ad sh 0 0 pc lv [.int (zi r)] μ := z_iret (st := []) K T hR dg ⟨by rw [h], hm⟩
theorem z_zretd {ν : zMem} {X r : Int} (K : zOk χ cc own nL d ret) (T : zRet χ ad sh (zPd ν X)) (hR : ret = some .boolean) (dg : decode cc pc = .ok (.ireturn, 1)) (hz : r = 0 ∨ r = 1) (h : r = X) (hm : μ = ν) : zV χ nL ad sh 0 0 pc lv [.int (zi r)] μ := z_zret (st := []) K T hR dg hz ⟨by rw [h], hm⟩
theorem z_vretd {ν : zMem} (K : zOk χ cc own nL d ret) (T : zRet χ ad sh (zPm ν)) (hR : ret = none) (dg : decode cc pc = .ok (.return_, 1)) (hm : μ = ν) : zV χ nL ad sh 0 0 pc lv [] μ := z_vret (st := []) K T hR dg ⟨rfl, hm⟩
variable {st : List Value} {l : Launch} {g : zG} {y : MethodName} {cc' : ByteArray} {maxL' : Nat} {ret' : Option FieldType} {d' idx n kb ci N : Nat} {T : u_T} {fs : List zF} {As rest : List Value}
theorem z_callVi {P : Int → zMem → Prop} (K : zOk χ cc own nL d ret) (hl1 : χ.2.1 = l) (hg1 : χ.2.2.2.2.2.2.2.2.2.2.1 = g) (C : zCon l g y cc' maxL' ret' d' ad sh (.ref (ad kb) :: As) μ (zPi P)) (hd : d' < d) (lk : zLv own idx y) (cd : zCd y cc' maxL' ret' n) (hs : sh[kb]? = some (.inr (ci, fs))) (hc : vwCl[ci]? = some (y.cls, T, N))
    (hn1 : As.length = n) (hst : st = As.reverse ++ .ref (ad kb) :: rest) (hr8 : (rest.map fun v => v.category).sum ≤ 8) (dg : decode cc pc = .ok (.invokevirtual idx, 3)) (kk : ∀ r μ', P r μ' → zV χ nL ad sh 0 0 (pc + 3) lv (.int (zi r) :: rest) μ') : zV χ nL ad sh 0 0 pc lv st μ :=
  z_callV K hl1 hg1 C hd lk cd hs hc hn1 hst hr8 dg ⟨rfl, rfl⟩ (fun v μ' h => by obtain ⟨r, rfl, h⟩ := h; exact kk r μ' h)
theorem z_callVv {P : zMem → Prop} (K : zOk χ cc own nL d ret) (hl1 : χ.2.1 = l) (hg1 : χ.2.2.2.2.2.2.2.2.2.2.1 = g) (C : zCon l g y cc' maxL' ret' d' ad sh (.ref (ad kb) :: As) μ (zPv P)) (hd : d' < d) (lk : zLv own idx y) (cd : zCd y cc' maxL' ret' n) (hs : sh[kb]? = some (.inr (ci, fs))) (hc : vwCl[ci]? = some (y.cls, T, N))
    (hn1 : As.length = n) (hst : st = As.reverse ++ .ref (ad kb) :: rest) (hr8 : (rest.map fun v => v.category).sum ≤ 8) (dg : decode cc pc = .ok (.invokevirtual idx, 3)) (kk : ∀ μ', P μ' → zV χ nL ad sh 0 0 (pc + 3) lv rest μ') : zV χ nL ad sh 0 0 pc lv st μ :=
  z_callV K hl1 hg1 C hd lk cd hs hc hn1 hst hr8 dg ⟨rfl, rfl⟩ (fun v μ' h => by obtain ⟨rfl, h⟩ := h; exact kk μ' h)
theorem z_callSi {P : Int → zMem → Prop} (K : zOk χ cc own nL d ret) (hl1 : χ.2.1 = l) (hg1 : χ.2.2.2.2.2.2.2.2.2.2.1 = g) (C : zCon l g y cc' maxL' ret' d' ad sh As μ (zPi P)) (hd : d' < d) (lk : zLs own idx y) (cd : zCd y cc' maxL' ret' n)
    (hn1 : As.length = n) (hst : st = As.reverse ++ rest) (hr8 : (rest.map fun v => v.category).sum ≤ 8) (dg : decode cc pc = .ok (.invokestatic idx, 3)) (kk : ∀ r μ', P r μ' → zV χ nL ad sh 0 0 (pc + 3) lv (.int (zi r) :: rest) μ') : zV χ nL ad sh 0 0 pc lv st μ :=
  z_callS K hl1 hg1 C hd lk cd hn1 hst hr8 dg ⟨rfl, rfl⟩ (fun v μ' h => by obtain ⟨r, rfl, h⟩ := h; exact kk r μ' h)
theorem z_callSl {P : Int → zMem → Prop} (K : zOk χ cc own nL d ret) (hl1 : χ.2.1 = l) (hg1 : χ.2.2.2.2.2.2.2.2.2.2.1 = g) (C : zCon l g y cc' maxL' ret' d' ad sh As μ (zPl P)) (hd : d' < d) (lk : zLs own idx y) (cd : zCd y cc' maxL' ret' n)
    (hn1 : As.length = n) (hst : st = As.reverse ++ rest) (hr8 : (rest.map fun v => v.category).sum ≤ 8) (dg : decode cc pc = .ok (.invokestatic idx, 3)) (kk : ∀ r μ', P r μ' → zV χ nL ad sh 0 0 (pc + 3) lv (.long (zl r) :: rest) μ') : zV χ nL ad sh 0 0 pc lv st μ :=
  z_callS K hl1 hg1 C hd lk cd hn1 hst hr8 dg ⟨rfl, rfl⟩ (fun v μ' h => by obtain ⟨r, rfl, h⟩ := h; exact kk r μ' h)
theorem z_callSv {P : zMem → Prop} (K : zOk χ cc own nL d ret) (hl1 : χ.2.1 = l) (hg1 : χ.2.2.2.2.2.2.2.2.2.2.1 = g) (C : zCon l g y cc' maxL' ret' d' ad sh As μ (zPv P)) (hd : d' < d) (lk : zLs own idx y) (cd : zCd y cc' maxL' ret' n)
    (hn1 : As.length = n) (hst : st = As.reverse ++ rest) (hr8 : (rest.map fun v => v.category).sum ≤ 8) (dg : decode cc pc = .ok (.invokestatic idx, 3)) (kk : ∀ μ', P μ' → zV χ nL ad sh 0 0 (pc + 3) lv rest μ') : zV χ nL ad sh 0 0 pc lv st μ :=
  z_callS K hl1 hg1 C hd lk cd hn1 hst hr8 dg ⟨rfl, rfl⟩ (fun v μ' h => by obtain ⟨rfl, h⟩ := h; exact kk μ' h)
theorem z_callVd {ν : zMem} {X : Int} (K : zOk χ cc own nL d ret) (hl1 : χ.2.1 = l) (hg1 : χ.2.2.2.2.2.2.2.2.2.2.1 = g) (C : zCon l g y cc' maxL' ret' d' ad sh (.ref (ad kb) :: As) μ (zPd ν X)) (hd : d' < d) (lk : zLv own idx y) (cd : zCd y cc' maxL' ret' n) (hs : sh[kb]? = some (.inr (ci, fs))) (hc : vwCl[ci]? = some (y.cls, T, N))
    (hn1 : As.length = n) (hst : st = As.reverse ++ .ref (ad kb) :: rest) (hr8 : (rest.map fun v => v.category).sum ≤ 8) (dg : decode cc pc = .ok (.invokevirtual idx, 3)) (kk : zV χ nL ad sh 0 0 (pc + 3) lv (.int (zi X) :: rest) ν) : zV χ nL ad sh 0 0 pc lv st μ :=
  z_callV K hl1 hg1 C hd lk cd hs hc hn1 hst hr8 dg ⟨rfl, rfl⟩ (fun v μ' h => by obtain ⟨h1, h2⟩ := h; rw [h1, h2]; exact kk)
theorem z_callVm {ν : zMem} (K : zOk χ cc own nL d ret) (hl1 : χ.2.1 = l) (hg1 : χ.2.2.2.2.2.2.2.2.2.2.1 = g) (C : zCon l g y cc' maxL' ret' d' ad sh (.ref (ad kb) :: As) μ (zPm ν)) (hd : d' < d) (lk : zLv own idx y) (cd : zCd y cc' maxL' ret' n) (hs : sh[kb]? = some (.inr (ci, fs))) (hc : vwCl[ci]? = some (y.cls, T, N))
    (hn1 : As.length = n) (hst : st = As.reverse ++ .ref (ad kb) :: rest) (hr8 : (rest.map fun v => v.category).sum ≤ 8) (dg : decode cc pc = .ok (.invokevirtual idx, 3)) (kk : zV χ nL ad sh 0 0 (pc + 3) lv rest ν) : zV χ nL ad sh 0 0 pc lv st μ :=
  z_callV K hl1 hg1 C hd lk cd hs hc hn1 hst hr8 dg ⟨rfl, rfl⟩ (fun v μ' h => by obtain ⟨h1, h2⟩ := h; rw [h1, h2]; exact kk)
theorem z_callSd {ν : zMem} {X : Int} (K : zOk χ cc own nL d ret) (hl1 : χ.2.1 = l) (hg1 : χ.2.2.2.2.2.2.2.2.2.2.1 = g) (C : zCon l g y cc' maxL' ret' d' ad sh As μ (zPd ν X)) (hd : d' < d) (lk : zLs own idx y) (cd : zCd y cc' maxL' ret' n)
    (hn1 : As.length = n) (hst : st = As.reverse ++ rest) (hr8 : (rest.map fun v => v.category).sum ≤ 8) (dg : decode cc pc = .ok (.invokestatic idx, 3)) (kk : zV χ nL ad sh 0 0 (pc + 3) lv (.int (zi X) :: rest) ν) : zV χ nL ad sh 0 0 pc lv st μ :=
  z_callS K hl1 hg1 C hd lk cd hn1 hst hr8 dg ⟨rfl, rfl⟩ (fun v μ' h => by obtain ⟨h1, h2⟩ := h; rw [h1, h2]; exact kk)
theorem z_callSm {ν : zMem} (K : zOk χ cc own nL d ret) (hl1 : χ.2.1 = l) (hg1 : χ.2.2.2.2.2.2.2.2.2.2.1 = g) (C : zCon l g y cc' maxL' ret' d' ad sh As μ (zPm ν)) (hd : d' < d) (lk : zLs own idx y) (cd : zCd y cc' maxL' ret' n)
    (hn1 : As.length = n) (hst : st = As.reverse ++ rest) (hr8 : (rest.map fun v => v.category).sum ≤ 8) (dg : decode cc pc = .ok (.invokestatic idx, 3)) (kk : zV χ nL ad sh 0 0 (pc + 3) lv rest ν) : zV χ nL ad sh 0 0 pc lv st μ :=
  z_callS K hl1 hg1 C hd lk cd hn1 hst hr8 dg ⟨rfl, rfl⟩ (fun v μ' h => by obtain ⟨h1, h2⟩ := h; rw [h1, h2]; exact kk)
end ZR
end
section
-- bits of small numbers, memory in one form, counts by loops
theorem zb_or (a b : Nat) : zi (a : Int) ||| zi (b : Int) = zi ((a ||| b : Nat) : Int) := by
  rw [zi_nat, zi_nat, zi_nat]
  apply Int32.toBitVec_inj.mp
  show BitVec.ofNat 32 a ||| BitVec.ofNat 32 b = BitVec.ofNat 32 (a ||| b)
  exact BitVec.ofNat_or.symm
theorem zb_and (a b : Nat) : zi (a : Int) &&& zi (b : Int) = zi ((a &&& b : Nat) : Int) := by
  rw [zi_nat, zi_nat, zi_nat]
  apply Int32.toBitVec_inj.mp
  show BitVec.ofNat 32 a &&& BitVec.ofNat 32 b = BitVec.ofNat 32 (a &&& b)
  exact BitVec.ofNat_and.symm
theorem zb_shl : ∀ l : Nat, l < 16 → zi 1 <<< (zi (l : Int) &&& 31) = zi ((2 ^ l : Nat) : Int) := by decide +kernel
theorem z_iincN {χ : zX} {cc : ByteArray} {own : String} {nL d : Nat} {ret : Option FieldType} {ad : Nat → Nat} {sh : List zE} {n1 n2 pc : Nat} {lv : List (Nat × Value)} {st : List Value} {μ : zMem} {i a : Nat} {lv' : List (Nat × Value)} (K : zOk χ cc own nL d ret) (dg : decode cc pc = .ok (.iinc i 1, 3)) (h : zlu i lv = some (.int (zi (a : Int)))) (hi : i < nL) (hv : zst1 i (.int (zi ((a + 1 : Nat) : Int))) lv = lv')
    (kk : zV χ nL ad sh n1 n2 (pc + 3) lv' st μ) : zV χ nL ad sh n1 n2 pc lv st μ := z_iinc K dg h hi hv kk
theorem z_mem {χ : zX} {nL : Nat} {ad : Nat → Nat} {sh : List zE} {n1 n2 pc : Nat} {lv : List (Nat × Value)} {st : List Value} {μ ν : zMem} (h : μ = ν) (kk : zV χ nL ad sh n1 n2 pc lv st ν) : zV χ nL ad sh n1 n2 pc lv st μ := h ▸ kk
theorem zup_same (μ : zMem) (k : Nat) (c d : Nat → Int) : zup (zup μ k c) k d = zup μ k d := by
  funext q; unfold zup; split <;> rfl
theorem zup_sw (μ : zMem) {k i : Nat} (h : i ≠ k) (c a d : Nat → Int) : zup (zup (zup μ k c) i a) k d = zup (zup μ k d) i a := by
  funext q; unfold zup
  by_cases h1 : q = k
  · subst h1; simp [Ne.symm h]
  · simp [h1]
theorem zup_sw3 (μ : zMem) {k i j : Nat} (h : i ≠ k) (h2 : j ≠ k) (c a b d : Nat → Int) : zup (zup (zup (zup μ k c) i a) j b) k d = zup (zup (zup μ k d) i a) j b := by
  funext q; unfold zup
  by_cases h1 : q = k
  · subst h1; simp [Ne.symm h, Ne.symm h2]
  · simp [h1]
theorem zup_sw4 (μ : zMem) {k i j m : Nat} (h : i ≠ k) (h2 : j ≠ k) (h3 : m ≠ k) (c a b e d : Nat → Int) : zup (zup (zup (zup (zup μ k c) i a) j b) m e) k d = zup (zup (zup (zup μ k d) i a) j b) m e := by
  funext q; unfold zup
  by_cases h1 : q = k
  · subst h1; simp [Ne.symm h, Ne.symm h2, Ne.symm h3]
  · simp [h1]
theorem zup_id (μ : zMem) (k : Nat) : μ = zup μ k (μ k) := by
  funext q; unfold zup; split
  · rename_i h; rw [h]
  · rfl
theorem zup_id2 (μ : zMem) (k i : Nat) (h : i ≠ k) : μ = zup (zup μ k (μ k)) i (μ i) := by
  funext q; unfold zup; split
  · rename_i h; rw [h]
  · split
    · rename_i h; rw [h]
    · rfl
theorem arrV_congr (cI : ClassId) (N : Nat) {f g : Nat → Value} (h : ∀ j, j < N → f j = g j) : arrV cI N f = arrV cI N g := by
  unfold arrV
  congr 2
  funext j
  exact h j.val j.isLt
-- a cell's content beyond its length is nothing
theorem z_eqv {χ : zX} {nL : Nat} {ad : Nat → Nat} {sh : List zE} {n1 n2 pc : Nat} {lv : List (Nat × Value)} {st : List Value} {μ ν : zMem} {k n : Nat} {b : Bool} (hs : sh[k]? = some (.inl (b, n))) (h1 : ∀ q, q ≠ k → μ q = ν q) (h2 : ∀ j, j < n → μ k j = ν k j) (kk : zV χ nL ad sh n1 n2 pc lv st ν) : zV χ nL ad sh n1 n2 pc lv st μ := by
  obtain ⟨p, l, e, R, s, m, args, below, meth, c, g, A, H0, Post, rc, rs⟩ := χ
  intro H locs ls hP hD hS hl
  refine kk H locs ls ?_ (zD_mem ν hD) hS hl
  intro i q hq
  obtain ⟨e, h3, rfl⟩ := zw_inv hq
  have h4 := hP i _ (zw_at h3)
  by_cases hi : i = k
  · subst hi
    rw [hs] at h3
    cases h3
    have e5 : ∀ cA : ClassId, vp_cell cA (n, .inl (fun j => zi (ν i j))) = vp_cell cA (n, .inl (fun j => zi (μ i j))) := by
      intro cA
      rw [vp_cell_i, vp_cell_i]
      exact (arrV_congr cA n (fun j hj => by rw [h2 j hj]))
    cases b
    · exact h4.trans (congrArg some (e5 _).symm)
    · exact h4.trans (congrArg some (e5 _).symm)
  · rw [← h1 i hi]
    exact h4
end
section
-- WHAT THE CLASS DOES, as functions of a hall's cells c (hole l, 6+l waited, 12+l fate, 18+k row, 21 grain, 22 day), kinds kd, waits alone al, answers an
def zwho (c : Nat → Int) (f : Int) : Nat → Nat
  | 0 => 0
  | l + 1 => if c (12 + l) = f then zwho c f l ||| 2 ^ l else zwho c f l
def zin (c : Nat → Int) (h : Int) : Nat → Nat
  | 0 => 0
  | l + 1 => if c l = h ∧ (c (12 + l) = 0 ∨ c (12 + l) = 2) then zin c h l ||| 2 ^ l else zin c h l
def zpop (x : Nat) : Nat := x % 2 + x / 2 % 2 + x / 4 % 2 + x / 8 % 2 + x / 16 % 2 + x / 32 % 2
def zpair (c : Nat → Int) (n : Nat) : Nat → Nat
  | 0 => 0
  | h + 1 => if 2 ≤ zpop (zin c h n &&& zwho c 2 n) then zpair c n h ||| 2 ^ h else zpair c n h
def zcnt (c : Nat → Int) (l : Nat) : Nat → Nat
  | 0 => 0
  | o + 1 => if o ≠ l ∧ c (12 + o) = 0 ∧ c o = c l then zcnt c l o + 1 else zcnt c l o
def zdl (n : Nat) (kd al c : Nat → Int) (l : Nat) : Int := if kd l = 3 then max 0 (al l - c (6 + l) + zcnt c l n) else max 0 (al l - c (6 + l))
def zmp (n : Nat) (kd al c : Nat → Int) (row : Int) : Nat → Int × Int
  | 0 => (-9, 0)
  | l + 1 => if c (12 + l) = 0 ∧ c l / 4 = row ∧ ((zmp n kd al c row l).1 = -9 ∨ zdl n kd al c l < (zmp n kd al c row l).2) then ((l : Int), zdl n kd al c l) else zmp n kd al c row l
abbrev zS : Type := (Nat → Int) × (Nat → Int)
def zca (n : Nat) (kd al : Nat → Int) (k : Nat) : Nat → zS → zS
  | 0, s => s
  | r + 1, s => if (zmp n kd al s.1 (s.1 (18 + k)) n).1 = -9 then s else zca n kd al k r (zu1 s.1 (12 + (zmp n kd al s.1 (s.1 (18 + k)) n).1.toNat) 1, zu1 s.2 k (s.2 k + 1))
def zcl (n : Nat) (kd al an : Nat → Int) : Nat → zS → zS
  | 0, s => s
  | k + 1, s => zca n kd al k (an k).toNat (zcl n kd al an k s)
def zwt (c : Nat → Int) : Nat → Nat → Int
  | 0 => c
  | l + 1 => if zwt c l (12 + l) = 0 then zu1 (zwt c l) (6 + l) (zwt c l (6 + l) + 1) else zwt c l
def zpo (c : Nat → Int) (h : Int) : Nat → Nat → Int
  | 0 => c
  | o + 1 => if zpo c h o (12 + o) = 0 ∧ zpo c h o o = h then zu1 (zpo c h o) o (h - 4) else zpo c h o
def zhat (n : Nat) (kd c : Nat → Int) (l : Nat) : Nat → Int := if kd l = 1 ∧ 4 ≤ c l then zpo (zu1 c (12 + l) 2) (c l) n else zu1 c (12 + l) 2
def zht (n : Nat) (kd al c : Nat → Int) : Nat → (Nat → Int) × Nat
  | 0 => (c, 0)
  | l + 1 => if (zht n kd al c l).1 (12 + l) = 0 ∧ zdl n kd al (zht n kd al c l).1 l = 0 then (zhat n kd (zht n kd al c l).1 l, (zht n kd al c l).2 + 1) else zht n kd al c l
def zeat (c : Nat → Int) : Nat → Nat → Int
  | 0 => c
  | l + 1 => if zeat c l (12 + l) = 2 then (if 0 < zeat c l 21 then zu1 (zeat c l) 21 (zeat c l 21 - 1) else zu1 (zeat c l) (12 + l) 3) else zeat c l
def zdayA (n : Nat) (kd al : Nat → Int) (nc : Nat) (an : Nat → Int) (s : zS) : (Nat → Int) × Nat := zht n kd al (zwt (zcl n kd al an nc s).1 n) n
def zday (n : Nat) (kd al : Nat → Int) (nc : Nat) (an : Nat → Int) (s : zS) : zS := (zu1 (zeat (zdayA n kd al nc an s).1 n) 22 (zeat (zdayA n kd al nc an s).1 n 22 + 1), (zcl n kd al an nc s).2)
def zdayM (n : Nat) (kd al : Nat → Int) (nc : Nat) (an : Nat → Int) (s : zS) : Nat := (zdayA n kd al nc an s).2
theorem zwho_s (c : Nat → Int) (f : Int) (l : Nat) : zwho c f (l + 1) = if c (12 + l) = f then zwho c f l ||| 2 ^ l else zwho c f l := rfl
theorem zin_s (c : Nat → Int) (h : Int) (l : Nat) : zin c h (l + 1) = if c l = h ∧ (c (12 + l) = 0 ∨ c (12 + l) = 2) then zin c h l ||| 2 ^ l else zin c h l := rfl
theorem zpair_s (c : Nat → Int) (n : Nat) (h : Nat) : zpair c n (h + 1) = if 2 ≤ zpop (zin c h n &&& zwho c 2 n) then zpair c n h ||| 2 ^ h else zpair c n h := rfl
theorem zcnt_s (c : Nat → Int) (l : Nat) (o : Nat) : zcnt c l (o + 1) = if o ≠ l ∧ c (12 + o) = 0 ∧ c o = c l then zcnt c l o + 1 else zcnt c l o := rfl
theorem zmp_s (n : Nat) (kd al c : Nat → Int) (row : Int) (l : Nat) : zmp n kd al c row (l + 1) = if c (12 + l) = 0 ∧ c l / 4 = row ∧ ((zmp n kd al c row l).1 = -9 ∨ zdl n kd al c l < (zmp n kd al c row l).2) then ((l : Int), zdl n kd al c l) else zmp n kd al c row l := rfl
theorem zca_s (n : Nat) (kd al : Nat → Int) (k : Nat) (r : Nat) (s : zS) : zca n kd al k (r + 1) s = if (zmp n kd al s.1 (s.1 (18 + k)) n).1 = -9 then s else zca n kd al k r (zu1 s.1 (12 + (zmp n kd al s.1 (s.1 (18 + k)) n).1.toNat) 1, zu1 s.2 k (s.2 k + 1)) := rfl
theorem zcl_s (n : Nat) (kd al an : Nat → Int) (k : Nat) (s : zS) : zcl n kd al an (k + 1) s = zca n kd al k (an k).toNat (zcl n kd al an k s) := rfl
theorem zwt_s (c : Nat → Int) (l : Nat) : zwt c (l + 1) = if zwt c l (12 + l) = 0 then zu1 (zwt c l) (6 + l) (zwt c l (6 + l) + 1) else zwt c l := rfl
theorem zpo_s (c : Nat → Int) (h : Int) (o : Nat) : zpo c h (o + 1) = if zpo c h o (12 + o) = 0 ∧ zpo c h o o = h then zu1 (zpo c h o) o (h - 4) else zpo c h o := rfl
theorem zht_s (n : Nat) (kd al c : Nat → Int) (l : Nat) : zht n kd al c (l + 1) = if (zht n kd al c l).1 (12 + l) = 0 ∧ zdl n kd al (zht n kd al c l).1 l = 0 then (zhat n kd (zht n kd al c l).1 l, (zht n kd al c l).2 + 1) else zht n kd al c l := rfl
theorem zeat_s (c : Nat → Int) (l : Nat) : zeat c (l + 1) = if zeat c l (12 + l) = 2 then (if 0 < zeat c l 21 then zu1 (zeat c l) 21 (zeat c l 21 - 1) else zu1 (zeat c l) (12 + l) 3) else zeat c l := rfl
-- a plan and a hall that can be
def zPlan (μ : zMem) (n nc : Nat) : Prop := μ 10 0 = (n : Int) ∧ n ≤ 6 ∧ μ 10 1 = (nc : Int) ∧ nc ≤ 3 ∧ (∀ l, l < n → 0 ≤ μ 13 l ∧ μ 13 l ≤ 3 ∧ 1 ≤ μ 14 l ∧ μ 14 l ≤ 9) ∧ ∀ k, k < nc → 1 ≤ μ 16 k ∧ μ 16 k ≤ 3
def zHW (n nc : Nat) (c : Nat → Int) : Prop := (∀ l, l < n → 0 ≤ c l ∧ c l < 12 ∧ 0 ≤ c (12 + l) ∧ c (12 + l) ≤ 3 ∧ 0 ≤ c (6 + l) ∧ c (6 + l) ≤ 15) ∧ (∀ k, k < nc → 0 ≤ c (18 + k) ∧ c (18 + k) ≤ 3) ∧ 0 ≤ c 21 ∧ c 21 ≤ 99
def zHV (n nc : Nat) (c : Nat → Int) : Prop := zHW n nc c ∧ ∀ l, l < n → c (12 + l) = 0 → c (6 + l) ≤ 14
theorem zwho_lt (c : Nat → Int) (f : Int) : ∀ l, zwho c f l < 2 ^ l := by
  intro l
  induction l with
  | zero => simp [zwho]
  | succ l ih =>
    have h2 : zwho c f l < 2 ^ (l + 1) := Nat.lt_trans ih (Nat.pow_lt_pow_right (by decide) (by omega))
    unfold zwho
    split
    · exact Nat.or_lt_two_pow h2 (Nat.pow_lt_pow_right (by decide) (by omega))
    · exact h2
theorem zin_lt (c : Nat → Int) (f : Int) : ∀ l, zin c f l < 2 ^ l := by
  intro l
  induction l with
  | zero => simp [zin]
  | succ l ih =>
    have h2 : zin c f l < 2 ^ (l + 1) := Nat.lt_trans ih (Nat.pow_lt_pow_right (by decide) (by omega))
    unfold zin
    split
    · exact Nat.or_lt_two_pow h2 (Nat.pow_lt_pow_right (by decide) (by omega))
    · exact h2
theorem z64 {x l : Nat} (h : x < 2 ^ l) (hl : l ≤ 6) : x < 64 := Nat.lt_of_lt_of_le h (Nat.pow_le_pow_right (n := 2) (by decide) hl)
theorem zpop_le (x : Nat) : zpop x ≤ 6 := by unfold zpop; omega
theorem zcnt_le (c : Nat → Int) (l : Nat) : ∀ o, zcnt c l o ≤ o := by
  intro o
  induction o with
  | zero => simp [zcnt]
  | succ o ih => unfold zcnt; split <;> omega
end
section
set_option maxHeartbeats 4000000 in
set_option maxRecDepth 100000 in
theorem ct_isHole (la : Launch) (g0 : zG) (ad : Nat → Nat) (μ : zMem) (x : Int) (hx : zR x) : zCon la g0 yX8_isHole cX8_isHole 1 (some .boolean) 0 ad zSH [.int (zi x)] μ (zPd μ (if 0 ≤ x ∧ x < 12 then 1 else 0)) := by
  refine zCon_of (by decide +kernel) (Nat.le_of_ble_eq_true rfl) ?_
  intro χ K T hl1 hg1
  have K : zOk χ cX8_isHole RX8 1 0 (some .boolean) := K
  show zV χ 1 ad zSH 0 0 0 [(0, .int (zi x))] [] μ
  refine z_iload_n K dX8_isHole_0 rfl ?_
  refine z_iflt (tgt := 14) K dX8_isHole_1 (by decide) (by omega) (fun h1 => ?_) (fun h1 => ?_)
  · refine z_iconst K dX8_isHole_14 ?_
    exact z_zretd K T rfl dX8_isHole_15 (Or.inl rfl) (if_neg (by omega)).symm rfl
  · refine z_iload_n K dX8_isHole_4 rfl ?_
    refine z_bipush K dX8_isHole_5 (by decide +kernel) ?_
    refine z_icmpge (tgt := 14) K dX8_isHole_7 (by decide) (by omega) ⟨by decide, by decide⟩ (fun h7 => ?_) (fun h7 => ?_)
    · refine z_iconst K dX8_isHole_14 ?_
      exact z_zretd K T rfl dX8_isHole_15 (Or.inl rfl) (if_neg (by omega)).symm rfl
    · refine z_iconst K dX8_isHole_10 ?_
      refine z_goto (tgt := 15) K dX8_isHole_11 (by decide) ?_
      exact z_zretd K T rfl dX8_isHole_15 (Or.inr rfl) (if_pos (by omega)).symm rfl
set_option maxHeartbeats 4000000 in
set_option maxRecDepth 100000 in
theorem ct_isRow (la : Launch) (g0 : zG) (ad : Nat → Nat) (μ : zMem) (x : Int) (hx : zR x) : zCon la g0 yX8_isRow cX8_isRow 1 (some .boolean) 0 ad zSH [.int (zi x)] μ (zPd μ (if 0 ≤ x ∧ x < 3 then 1 else 0)) := by
  refine zCon_of (by decide +kernel) (Nat.le_of_ble_eq_true rfl) ?_
  intro χ K T hl1 hg1
  have K : zOk χ cX8_isRow RX8 1 0 (some .boolean) := K
  show zV χ 1 ad zSH 0 0 0 [(0, .int (zi x))] [] μ
  refine z_iload_n K dX8_isRow_0 rfl ?_
  refine z_iflt (tgt := 13) K dX8_isRow_1 (by decide) (by omega) (fun h1 => ?_) (fun h1 => ?_)
  · refine z_iconst K dX8_isRow_13 ?_
    exact z_zretd K T rfl dX8_isRow_14 (Or.inl rfl) (if_neg (by omega)).symm rfl
  · refine z_iload_n K dX8_isRow_4 rfl ?_
    refine z_iconst K dX8_isRow_5 ?_
    refine z_icmpge (tgt := 13) K dX8_isRow_6 (by decide) (by omega) ⟨by decide, by decide⟩ (fun h6 => ?_) (fun h6 => ?_)
    · refine z_iconst K dX8_isRow_13 ?_
      exact z_zretd K T rfl dX8_isRow_14 (Or.inl rfl) (if_neg (by omega)).symm rfl
    · refine z_iconst K dX8_isRow_9 ?_
      refine z_goto (tgt := 14) K dX8_isRow_10 (by decide) ?_
      exact z_zretd K T rfl dX8_isRow_14 (Or.inr rfl) (if_pos (by omega)).symm rfl
set_option maxHeartbeats 4000000 in
set_option maxRecDepth 100000 in
theorem ct_hasLetter (la : Launch) (g0 : zG) (ad : Nat → Nat) (μ : zMem) (n nc : Nat) (hp : zPlan μ n nc) (x : Int) (hx : zR x) : zCon la g0 yX4_hasLetter cX4_hasLetter 2 (some .boolean) 0 ad zSH [.ref (ad 10), .int (zi x)] μ (zPd μ (if 0 ≤ x ∧ x < (n : Int) then 1 else 0)) := by
  refine zCon_of (by decide +kernel) (Nat.le_of_ble_eq_true rfl) ?_
  intro χ K T hl1 hg1
  have K : zOk χ cX4_hasLetter RX4 2 0 (some .boolean) := K
  obtain ⟨hn, hn6, hnc, hnc3, hpl, hpk⟩ := id hp
  show zV χ 2 ad zSH 0 0 0 [(0, .ref (ad 10)), (1, .int (zi x))] [] μ
  refine z_iload_n K dX4_hasLetter_0 rfl ?_
  refine z_iflt (tgt := 16) K dX4_hasLetter_1 (by decide) (by omega) (fun h1 => ?_) (fun h1 => ?_)
  · refine z_iconst K dX4_hasLetter_16 ?_
    exact z_zretd K T rfl dX4_hasLetter_17 (Or.inl rfl) (if_neg (by omega)).symm rfl
  · refine z_iload_n K dX4_hasLetter_4 rfl ?_
    refine z_aload_n K dX4_hasLetter_5 rfl ?_
    refine z_get (k := 10) (v := .int (zi (μ 10 0))) K dX4_hasLetter_6 fl_X4_30 rfl rfl rfl ?_
    refine z_icmpge (tgt := 16) K dX4_hasLetter_9 (by decide) (by omega) (by omega) (fun h9 => ?_) (fun h9 => ?_)
    · refine z_iconst K dX4_hasLetter_16 ?_
      exact z_zretd K T rfl dX4_hasLetter_17 (Or.inl rfl) (if_neg (by omega)).symm rfl
    · refine z_iconst K dX4_hasLetter_12 ?_
      refine z_goto (tgt := 17) K dX4_hasLetter_13 (by decide) ?_
      exact z_zretd K T rfl dX4_hasLetter_17 (Or.inr rfl) (if_pos (by omega)).symm rfl
set_option maxHeartbeats 4000000 in
set_option maxRecDepth 100000 in
theorem ct_hasClerk (la : Launch) (g0 : zG) (ad : Nat → Nat) (μ : zMem) (n nc : Nat) (hp : zPlan μ n nc) (x : Int) (hx : zR x) : zCon la g0 yX4_hasClerk cX4_hasClerk 2 (some .boolean) 0 ad zSH [.ref (ad 10), .int (zi x)] μ (zPd μ (if 0 ≤ x ∧ x < (nc : Int) then 1 else 0)) := by
  refine zCon_of (by decide +kernel) (Nat.le_of_ble_eq_true rfl) ?_
  intro χ K T hl1 hg1
  have K : zOk χ cX4_hasClerk RX4 2 0 (some .boolean) := K
  obtain ⟨hn, hn6, hnc, hnc3, hpl, hpk⟩ := id hp
  show zV χ 2 ad zSH 0 0 0 [(0, .ref (ad 10)), (1, .int (zi x))] [] μ
  refine z_iload_n K dX4_hasClerk_0 rfl ?_
  refine z_iflt (tgt := 16) K dX4_hasClerk_1 (by decide) (by omega) (fun h1 => ?_) (fun h1 => ?_)
  · refine z_iconst K dX4_hasClerk_16 ?_
    exact z_zretd K T rfl dX4_hasClerk_17 (Or.inl rfl) (if_neg (by omega)).symm rfl
  · refine z_iload_n K dX4_hasClerk_4 rfl ?_
    refine z_aload_n K dX4_hasClerk_5 rfl ?_
    refine z_get (k := 10) (v := .int (zi (μ 10 1))) K dX4_hasClerk_6 fl_X4_34 rfl rfl rfl ?_
    refine z_icmpge (tgt := 16) K dX4_hasClerk_9 (by decide) (by omega) (by omega) (fun h9 => ?_) (fun h9 => ?_)
    · refine z_iconst K dX4_hasClerk_16 ?_
      exact z_zretd K T rfl dX4_hasClerk_17 (Or.inl rfl) (if_neg (by omega)).symm rfl
    · refine z_iconst K dX4_hasClerk_12 ?_
      refine z_goto (tgt := 17) K dX4_hasClerk_13 (by decide) ?_
      exact z_zretd K T rfl dX4_hasClerk_17 (Or.inr rfl) (if_pos (by omega)).symm rfl
def zbc0 (x : Int32) : Int32 := x - ((x.toUInt32 >>> ((zi 1).toUInt32 &&& Int32.toUInt32 31)).toInt32 &&& 1431655765)
def zbc1 (x : Int32) : Int32 := (x &&& 858993459) + ((x.toUInt32 >>> ((zi 2).toUInt32 &&& Int32.toUInt32 31)).toInt32 &&& 858993459)
def zbc2 (x : Int32) : Int32 := (x + (x.toUInt32 >>> ((zi 4).toUInt32 &&& Int32.toUInt32 31)).toInt32) &&& 252645135
def zbc3 (x : Int32) : Int32 := x + (x.toUInt32 >>> ((zi 8).toUInt32 &&& Int32.toUInt32 31)).toInt32
def zbc4 (x : Int32) : Int32 := x + (x.toUInt32 >>> ((zi 16).toUInt32 &&& Int32.toUInt32 31)).toInt32
theorem zbc_ok : ∀ x : Nat, x < 64 → (zbc4 (zbc3 (zbc2 (zbc1 (zbc0 (zi (x : Int))))))) &&& zi 63 = zi ((zpop x : Nat) : Int) := by decide +kernel
set_option maxHeartbeats 4000000 in
set_option maxRecDepth 100000 in
theorem ct_bitCount (la : Launch) (g0 : zG) (ad : Nat → Nat) (μ : zMem) (x : Nat) (hx : x < 64) : zCon la g0 yJ6_bitCount_0f7a4 cJ6_bitCount_0f7a4 1 (some .int) 0 ad zSH [.int (zi ((x : Nat) : Int))] μ (zPd μ ((zpop x : Nat) : Int)) := by
  refine zCon_of (by decide +kernel) (Nat.le_of_ble_eq_true rfl) ?_
  intro χ K T hl1 hg1
  have K : zOk χ cJ6_bitCount_0f7a4 RJ6 1 0 (some .int) := K
  show zV χ 1 ad zSH 0 0 0 [(0, .int (zi ((x : Nat) : Int)))] [] μ
  refine z_iload_n K dJ6_bitCount_0f7a4_0 rfl ?_
  refine z_iload_n K dJ6_bitCount_0f7a4_1 rfl ?_
  refine z_iconst K dJ6_bitCount_0f7a4_2 ?_
  refine z_iushrR (z := ((zi ((x : Nat) : Int)).toUInt32 >>> ((zi (1 : Int)).toUInt32 &&& Int32.toUInt32 31)).toInt32) K dJ6_bitCount_0f7a4_3 rfl ?_
  refine z_ldcw K dJ6_bitCount_0f7a4_4 kc_J6_265 ?_
  refine z_iandR (z := (((zi ((x : Nat) : Int)).toUInt32 >>> ((zi (1 : Int)).toUInt32 &&& Int32.toUInt32 31)).toInt32) &&& (1431655765 : Int32)) K dJ6_bitCount_0f7a4_7 rfl ?_
  refine z_isubR (z := (zi ((x : Nat) : Int)) - ((((zi ((x : Nat) : Int)).toUInt32 >>> ((zi (1 : Int)).toUInt32 &&& Int32.toUInt32 31)).toInt32) &&& (1431655765 : Int32))) K dJ6_bitCount_0f7a4_8 rfl ?_
  refine z_istore_n (lv' := [(0, .int ((zi ((x : Nat) : Int)) - ((((zi ((x : Nat) : Int)).toUInt32 >>> ((zi (1 : Int)).toUInt32 &&& Int32.toUInt32 31)).toInt32) &&& (1431655765 : Int32))))]) K dJ6_bitCount_0f7a4_9 (by decide) rfl ?_
  show zV χ 1 ad zSH 0 0 10 [(0, .int (zbc0 (zi ((x : Nat) : Int))))] [] μ
  refine z_iload_n K dJ6_bitCount_0f7a4_10 rfl ?_
  refine z_ldcw K dJ6_bitCount_0f7a4_11 kc_J6_266 ?_
  refine z_iandR (z := (zbc0 (zi ((x : Nat) : Int))) &&& (858993459 : Int32)) K dJ6_bitCount_0f7a4_14 rfl ?_
  refine z_iload_n K dJ6_bitCount_0f7a4_15 rfl ?_
  refine z_iconst K dJ6_bitCount_0f7a4_16 ?_
  refine z_iushrR (z := ((zbc0 (zi ((x : Nat) : Int))).toUInt32 >>> ((zi (2 : Int)).toUInt32 &&& Int32.toUInt32 31)).toInt32) K dJ6_bitCount_0f7a4_17 rfl ?_
  refine z_ldcw K dJ6_bitCount_0f7a4_18 kc_J6_266 ?_
  refine z_iandR (z := (((zbc0 (zi ((x : Nat) : Int))).toUInt32 >>> ((zi (2 : Int)).toUInt32 &&& Int32.toUInt32 31)).toInt32) &&& (858993459 : Int32)) K dJ6_bitCount_0f7a4_21 rfl ?_
  refine z_iaddR (z := ((zbc0 (zi ((x : Nat) : Int))) &&& (858993459 : Int32)) + ((((zbc0 (zi ((x : Nat) : Int))).toUInt32 >>> ((zi (2 : Int)).toUInt32 &&& Int32.toUInt32 31)).toInt32) &&& (858993459 : Int32))) K dJ6_bitCount_0f7a4_22 rfl ?_
  refine z_istore_n (lv' := [(0, .int (((zbc0 (zi ((x : Nat) : Int))) &&& (858993459 : Int32)) + ((((zbc0 (zi ((x : Nat) : Int))).toUInt32 >>> ((zi (2 : Int)).toUInt32 &&& Int32.toUInt32 31)).toInt32) &&& (858993459 : Int32))))]) K dJ6_bitCount_0f7a4_23 (by decide) rfl ?_
  show zV χ 1 ad zSH 0 0 24 [(0, .int (zbc1 (zbc0 (zi ((x : Nat) : Int)))))] [] μ
  refine z_iload_n K dJ6_bitCount_0f7a4_24 rfl ?_
  refine z_iload_n K dJ6_bitCount_0f7a4_25 rfl ?_
  refine z_iconst K dJ6_bitCount_0f7a4_26 ?_
  refine z_iushrR (z := ((zbc1 (zbc0 (zi ((x : Nat) : Int)))).toUInt32 >>> ((zi (4 : Int)).toUInt32 &&& Int32.toUInt32 31)).toInt32) K dJ6_bitCount_0f7a4_27 rfl ?_
  refine z_iaddR (z := (zbc1 (zbc0 (zi ((x : Nat) : Int)))) + (((zbc1 (zbc0 (zi ((x : Nat) : Int)))).toUInt32 >>> ((zi (4 : Int)).toUInt32 &&& Int32.toUInt32 31)).toInt32)) K dJ6_bitCount_0f7a4_28 rfl ?_
  refine z_ldcw K dJ6_bitCount_0f7a4_29 kc_J6_267 ?_
  refine z_iandR (z := ((zbc1 (zbc0 (zi ((x : Nat) : Int)))) + (((zbc1 (zbc0 (zi ((x : Nat) : Int)))).toUInt32 >>> ((zi (4 : Int)).toUInt32 &&& Int32.toUInt32 31)).toInt32)) &&& (252645135 : Int32)) K dJ6_bitCount_0f7a4_32 rfl ?_
  refine z_istore_n (lv' := [(0, .int (((zbc1 (zbc0 (zi ((x : Nat) : Int)))) + (((zbc1 (zbc0 (zi ((x : Nat) : Int)))).toUInt32 >>> ((zi (4 : Int)).toUInt32 &&& Int32.toUInt32 31)).toInt32)) &&& (252645135 : Int32)))]) K dJ6_bitCount_0f7a4_33 (by decide) rfl ?_
  show zV χ 1 ad zSH 0 0 34 [(0, .int (zbc2 (zbc1 (zbc0 (zi ((x : Nat) : Int))))))] [] μ
  refine z_iload_n K dJ6_bitCount_0f7a4_34 rfl ?_
  refine z_iload_n K dJ6_bitCount_0f7a4_35 rfl ?_
  refine z_bipush K dJ6_bitCount_0f7a4_36 (by decide +kernel) ?_
  refine z_iushrR (z := ((zbc2 (zbc1 (zbc0 (zi ((x : Nat) : Int))))).toUInt32 >>> ((zi (8 : Int)).toUInt32 &&& Int32.toUInt32 31)).toInt32) K dJ6_bitCount_0f7a4_38 rfl ?_
  refine z_iaddR (z := (zbc2 (zbc1 (zbc0 (zi ((x : Nat) : Int))))) + (((zbc2 (zbc1 (zbc0 (zi ((x : Nat) : Int))))).toUInt32 >>> ((zi (8 : Int)).toUInt32 &&& Int32.toUInt32 31)).toInt32)) K dJ6_bitCount_0f7a4_39 rfl ?_
  refine z_istore_n (lv' := [(0, .int ((zbc2 (zbc1 (zbc0 (zi ((x : Nat) : Int))))) + (((zbc2 (zbc1 (zbc0 (zi ((x : Nat) : Int))))).toUInt32 >>> ((zi (8 : Int)).toUInt32 &&& Int32.toUInt32 31)).toInt32)))]) K dJ6_bitCount_0f7a4_40 (by decide) rfl ?_
  show zV χ 1 ad zSH 0 0 41 [(0, .int (zbc3 (zbc2 (zbc1 (zbc0 (zi ((x : Nat) : Int)))))))] [] μ
  refine z_iload_n K dJ6_bitCount_0f7a4_41 rfl ?_
  refine z_iload_n K dJ6_bitCount_0f7a4_42 rfl ?_
  refine z_bipush K dJ6_bitCount_0f7a4_43 (by decide +kernel) ?_
  refine z_iushrR (z := ((zbc3 (zbc2 (zbc1 (zbc0 (zi ((x : Nat) : Int)))))).toUInt32 >>> ((zi (16 : Int)).toUInt32 &&& Int32.toUInt32 31)).toInt32) K dJ6_bitCount_0f7a4_45 rfl ?_
  refine z_iaddR (z := (zbc3 (zbc2 (zbc1 (zbc0 (zi ((x : Nat) : Int)))))) + (((zbc3 (zbc2 (zbc1 (zbc0 (zi ((x : Nat) : Int)))))).toUInt32 >>> ((zi (16 : Int)).toUInt32 &&& Int32.toUInt32 31)).toInt32)) K dJ6_bitCount_0f7a4_46 rfl ?_
  refine z_istore_n (lv' := [(0, .int ((zbc3 (zbc2 (zbc1 (zbc0 (zi ((x : Nat) : Int)))))) + (((zbc3 (zbc2 (zbc1 (zbc0 (zi ((x : Nat) : Int)))))).toUInt32 >>> ((zi (16 : Int)).toUInt32 &&& Int32.toUInt32 31)).toInt32)))]) K dJ6_bitCount_0f7a4_47 (by decide) rfl ?_
  show zV χ 1 ad zSH 0 0 48 [(0, .int (zbc4 (zbc3 (zbc2 (zbc1 (zbc0 (zi ((x : Nat) : Int))))))))] [] μ
  refine z_iload_n K dJ6_bitCount_0f7a4_48 rfl ?_
  refine z_bipush K dJ6_bitCount_0f7a4_49 (by decide +kernel) ?_
  refine z_iandR (z := (zbc4 (zbc3 (zbc2 (zbc1 (zbc0 (zi ((x : Nat) : Int))))))) &&& (zi (63 : Int))) K dJ6_bitCount_0f7a4_51 rfl ?_
  exact z_iret (st := []) K T rfl dJ6_bitCount_0f7a4_52 ⟨by rw [← zbc_ok x hx], rfl⟩
set_option maxHeartbeats 4000000 in
set_option maxRecDepth 100000 in
/-- Hall.who -/
theorem ct_who_n (la : Launch) (g0 : zG) (ad : Nat → Nat) (μ : zMem) (n nc : Nat) (hp : zPlan μ n nc) (hv : zHW n nc (μ 18)) (f : Int) (hf : zR f) : zCon la g0 yX1_who cX1_who 4 (some .int) 0 ad zSH [.ref (ad 17), .int (zi f)] μ (zPd μ ((zwho (μ 18) f n : Nat) : Int)) := by
  refine zCon_of (by decide +kernel) (Nat.le_of_ble_eq_true rfl) ?_
  intro χ K T hl1 hg1
  have K : zOk χ cX1_who RX1 4 0 (some .int) := K
  obtain ⟨hn, hn6, hnc, hnc3, hpl, hpk⟩ := id hp
  obtain ⟨hv1, hv2, hv3, hv4⟩ := id hv
  show zV χ 4 ad zSH 0 0 0 [(0, .ref (ad 17)), (1, .int (zi f))] [] μ
  refine z_iconst K dX1_who_0 ?_
  refine z_istore_n (lv' := [(0, .ref (ad 17)), (1, .int (zi f)), (2, .int (zi (0 : Int)))]) K dX1_who_1 (by decide) rfl ?_
  refine z_iconst K dX1_who_2 ?_
  refine z_istore_n (lv' := [(0, .ref (ad 17)), (1, .int (zi f)), (2, .int (zi (0 : Int))), (3, .int (zi (0 : Int)))]) K dX1_who_3 (by decide) rfl ?_
  have L4 : ∀ l, l ≤ n → zV χ 4 ad zSH 0 0 4 [(0, .ref (ad 17)), (1, .int (zi f)), (2, .int (zi ((zwho (μ 18) f l : Nat) : Int))), (3, .int (zi ((l : Nat) : Int)))] [] μ := by
    refine zfor ?_
    intro l hl ih
    refine z_iload_n K dX1_who_4 rfl ?_
    refine z_aload_n K dX1_who_5 rfl ?_
    refine z_get (k := 17) (v := .ref (ad 10)) K dX1_who_6 fl_X1_18 rfl rfl rfl ?_
    refine z_get (k := 10) (v := .int (zi (μ 10 0))) K dX1_who_9 fl_X1_22 rfl rfl rfl ?_
    refine z_icmpge (tgt := 40) K dX1_who_12 (by decide) (by omega) (by omega) (fun h12 => ?_) (fun h12 => ?_)
    · refine z_iload_n K dX1_who_40 rfl ?_
      exact z_iretd K T rfl dX1_who_41 (by rw [show l = n by omega]) rfl
    · have hfl := hv1 l (by omega)
      refine z_aload_n K dX1_who_15 rfl ?_
      refine z_get (k := 17) (v := .ref (ad 18)) K dX1_who_16 fl_X1_11 rfl rfl rfl ?_
      refine z_bipush K dX1_who_19 (by decide +kernel) ?_
      refine z_iload_n K dX1_who_21 rfl ?_
      refine z_iadd K dX1_who_22 ?_
      refine z_iald (k := 18) (v := μ 18 (12 + l)) K dX1_who_23 (12 + l) rfl (by decide) (by omega) (by omega) rfl ?_
      refine z_iload_n K dX1_who_24 rfl ?_
      refine z_icmpne (tgt := 34) K dX1_who_25 (by decide) (by omega) (by omega) (fun h25 => ?_) (fun h25 => ?_)
      · refine z_iincN (lv' := [(0, .ref (ad 17)), (1, .int (zi f)), (2, .int (zi ((zwho (μ 18) f l : Nat) : Int))), (3, .int (zi ((l + 1 : Nat) : Int)))]) K dX1_who_34 rfl (by decide) rfl ?_
        refine z_goto (tgt := 4) K dX1_who_37 (by decide) ?_
        have e9 : zwho (μ 18) f l = zwho (μ 18) f (l + 1) := by simp [zwho, h25]
        rw [e9]
        exact ih (l + 1) (by omega) (by omega)
      · refine z_iload_n K dX1_who_28 rfl ?_
        refine z_iconst K dX1_who_29 ?_
        refine z_iload_n K dX1_who_30 rfl ?_
        refine z_ishlR (z := zi ((2 ^ l : Nat) : Int)) K dX1_who_31 (zb_shl l (by omega)) ?_
        refine z_iorR (z := zi ((zwho (μ 18) f l ||| 2 ^ l : Nat) : Int)) K dX1_who_32 (zb_or _ _) ?_
        refine z_istore_n (lv' := [(0, .ref (ad 17)), (1, .int (zi f)), (2, .int (zi ((zwho (μ 18) f l ||| 2 ^ l : Nat) : Int))), (3, .int (zi ((l : Nat) : Int)))]) K dX1_who_33 (by decide) rfl ?_
        refine z_iincN (lv' := [(0, .ref (ad 17)), (1, .int (zi f)), (2, .int (zi ((zwho (μ 18) f l ||| 2 ^ l : Nat) : Int))), (3, .int (zi ((l + 1 : Nat) : Int)))]) K dX1_who_34 rfl (by decide) rfl ?_
        refine z_goto (tgt := 4) K dX1_who_37 (by decide) ?_
        have e9 : zwho (μ 18) f l ||| 2 ^ l = zwho (μ 18) f (l + 1) := by simp [zwho, h25]
        rw [e9]
        exact ih (l + 1) (by omega) (by omega)
  exact L4 0 (by omega)
set_option maxHeartbeats 4000000 in
set_option maxRecDepth 100000 in
/-- Hall.whoIsIn -/
theorem ct_whoIsIn_n (la : Launch) (g0 : zG) (ad : Nat → Nat) (μ : zMem) (n nc : Nat) (hp : zPlan μ n nc) (hv : zHW n nc (μ 18)) (f : Int) (hf : zR f) : zCon la g0 yX1_whoIsIn cX1_whoIsIn 5 (some .int) 0 ad zSH [.ref (ad 17), .int (zi f)] μ (zPd μ ((zin (μ 18) f n : Nat) : Int)) := by
  refine zCon_of (by decide +kernel) (Nat.le_of_ble_eq_true rfl) ?_
  intro χ K T hl1 hg1
  have K : zOk χ cX1_whoIsIn RX1 5 0 (some .int) := K
  obtain ⟨hn, hn6, hnc, hnc3, hpl, hpk⟩ := id hp
  obtain ⟨hv1, hv2, hv3, hv4⟩ := id hv
  show zV χ 5 ad zSH 0 0 0 [(0, .ref (ad 17)), (1, .int (zi f))] [] μ
  refine z_iconst K dX1_whoIsIn_0 ?_
  refine z_istore_n (lv' := [(0, .ref (ad 17)), (1, .int (zi f)), (2, .int (zi (0 : Int)))]) K dX1_whoIsIn_1 (by decide) rfl ?_
  refine z_iconst K dX1_whoIsIn_2 ?_
  refine z_istore_n (lv' := [(0, .ref (ad 17)), (1, .int (zi f)), (2, .int (zi (0 : Int))), (3, .int (zi (0 : Int)))]) K dX1_whoIsIn_3 (by decide) rfl ?_
  have L4 : ∀ l, l ≤ n → zV χ 5 ad zSH 0 0 4 [(0, .ref (ad 17)), (1, .int (zi f)), (2, .int (zi ((zin (μ 18) f l : Nat) : Int))), (3, .int (zi ((l : Nat) : Int)))] [] μ := by
    refine zfor ?_
    intro l hl ih
    refine z_iload_n K dX1_whoIsIn_4 rfl ?_
    refine z_aload_n K dX1_whoIsIn_5 rfl ?_
    refine z_get (k := 17) (v := .ref (ad 10)) K dX1_whoIsIn_6 fl_X1_18 rfl rfl rfl ?_
    refine z_get (k := 10) (v := .int (zi (μ 10 0))) K dX1_whoIsIn_9 fl_X1_22 rfl rfl rfl ?_
    refine z_icmpge (tgt := 61) K dX1_whoIsIn_12 (by decide) (by omega) (by omega) (fun h12 => ?_) (fun h12 => ?_)
    · refine z_iload_n K dX1_whoIsIn_61 rfl ?_
      exact z_iretd K T rfl dX1_whoIsIn_62 (by rw [show l = n by omega]) rfl
    · have hfl := hv1 l (by omega)
      refine z_aload_n K dX1_whoIsIn_15 rfl ?_
      refine z_get (k := 17) (v := .ref (ad 18)) K dX1_whoIsIn_16 fl_X1_11 rfl rfl rfl ?_
      refine z_bipush K dX1_whoIsIn_19 (by decide +kernel) ?_
      refine z_iload_n K dX1_whoIsIn_21 rfl ?_
      refine z_iadd K dX1_whoIsIn_22 ?_
      refine z_iald (k := 18) (v := μ 18 (12 + l)) K dX1_whoIsIn_23 (12 + l) rfl (by decide) (by omega) (by omega) rfl ?_
      refine z_istore (lv' := [(0, .ref (ad 17)), (1, .int (zi f)), (2, .int (zi ((zin (μ 18) f l : Nat) : Int))), (3, .int (zi ((l : Nat) : Int))), (4, .int (zi (μ 18 (12 + l))))]) K dX1_whoIsIn_24 (by decide) rfl ?_
      refine z_aload_n K dX1_whoIsIn_26 rfl ?_
      refine z_get (k := 17) (v := .ref (ad 18)) K dX1_whoIsIn_27 fl_X1_11 rfl rfl rfl ?_
      refine z_iconst K dX1_whoIsIn_30 ?_
      refine z_iload_n K dX1_whoIsIn_31 rfl ?_
      refine z_iadd K dX1_whoIsIn_32 ?_
      refine z_iald (k := 18) (v := μ 18 l) K dX1_whoIsIn_33 l rfl (by decide) (by omega) (by omega) rfl ?_
      refine z_iload_n K dX1_whoIsIn_34 rfl ?_
      refine z_icmpne (tgt := 55) K dX1_whoIsIn_35 (by decide) (by omega) (by omega) (fun h35 => ?_) (fun h35 => ?_)
      · refine z_iincN (lv' := [(0, .ref (ad 17)), (1, .int (zi f)), (2, .int (zi ((zin (μ 18) f l : Nat) : Int))), (3, .int (zi ((l + 1 : Nat) : Int))), (4, .int (zi (μ 18 (12 + l))))]) K dX1_whoIsIn_55 rfl (by decide) rfl ?_
        refine z_goto (tgt := 4) K dX1_whoIsIn_58 (by decide) ?_
        refine z_ipick [0, 1, 2, 3] rfl ?_
        have e9 : zin (μ 18) f l = zin (μ 18) f (l + 1) := by
          rw [zin_s]
          rw [if_neg (by omega)]
        rw [e9]
        exact ih (l + 1) (by omega) (by omega)
      · refine z_iload K dX1_whoIsIn_38 rfl ?_
        refine z_ifeq (tgt := 49) K dX1_whoIsIn_40 (by decide) (by omega) (fun h40 => ?_) (fun h40 => ?_)
        · refine z_iload_n K dX1_whoIsIn_49 rfl ?_
          refine z_iconst K dX1_whoIsIn_50 ?_
          refine z_iload_n K dX1_whoIsIn_51 rfl ?_
          refine z_ishlR (z := zi ((2 ^ l : Nat) : Int)) K dX1_whoIsIn_52 (zb_shl l (by omega)) ?_
          refine z_iorR (z := zi ((zin (μ 18) f l ||| 2 ^ l : Nat) : Int)) K dX1_whoIsIn_53 (zb_or _ _) ?_
          refine z_istore_n (lv' := [(0, .ref (ad 17)), (1, .int (zi f)), (2, .int (zi ((zin (μ 18) f l ||| 2 ^ l : Nat) : Int))), (3, .int (zi ((l : Nat) : Int))), (4, .int (zi (μ 18 (12 + l))))]) K dX1_whoIsIn_54 (by decide) rfl ?_
          refine z_iincN (lv' := [(0, .ref (ad 17)), (1, .int (zi f)), (2, .int (zi ((zin (μ 18) f l ||| 2 ^ l : Nat) : Int))), (3, .int (zi ((l + 1 : Nat) : Int))), (4, .int (zi (μ 18 (12 + l))))]) K dX1_whoIsIn_55 rfl (by decide) rfl ?_
          refine z_goto (tgt := 4) K dX1_whoIsIn_58 (by decide) ?_
          refine z_ipick [0, 1, 2, 3] rfl ?_
          have e9 : zin (μ 18) f l ||| 2 ^ l = zin (μ 18) f (l + 1) := by
            rw [zin_s]
            rw [if_pos ⟨by omega, by omega⟩]
          rw [e9]
          exact ih (l + 1) (by omega) (by omega)
        · refine z_iload K dX1_whoIsIn_43 rfl ?_
          refine z_iconst K dX1_whoIsIn_45 ?_
          refine z_icmpne (tgt := 55) K dX1_whoIsIn_46 (by decide) (by omega) ⟨by decide, by decide⟩ (fun h46 => ?_) (fun h46 => ?_)
          · refine z_iincN (lv' := [(0, .ref (ad 17)), (1, .int (zi f)), (2, .int (zi ((zin (μ 18) f l : Nat) : Int))), (3, .int (zi ((l + 1 : Nat) : Int))), (4, .int (zi (μ 18 (12 + l))))]) K dX1_whoIsIn_55 rfl (by decide) rfl ?_
            refine z_goto (tgt := 4) K dX1_whoIsIn_58 (by decide) ?_
            refine z_ipick [0, 1, 2, 3] rfl ?_
            have e9 : zin (μ 18) f l = zin (μ 18) f (l + 1) := by
              rw [zin_s]
              rw [if_neg (by omega)]
            rw [e9]
            exact ih (l + 1) (by omega) (by omega)
          · refine z_iload_n K dX1_whoIsIn_49 rfl ?_
            refine z_iconst K dX1_whoIsIn_50 ?_
            refine z_iload_n K dX1_whoIsIn_51 rfl ?_
            refine z_ishlR (z := zi ((2 ^ l : Nat) : Int)) K dX1_whoIsIn_52 (zb_shl l (by omega)) ?_
            refine z_iorR (z := zi ((zin (μ 18) f l ||| 2 ^ l : Nat) : Int)) K dX1_whoIsIn_53 (zb_or _ _) ?_
            refine z_istore_n (lv' := [(0, .ref (ad 17)), (1, .int (zi f)), (2, .int (zi ((zin (μ 18) f l ||| 2 ^ l : Nat) : Int))), (3, .int (zi ((l : Nat) : Int))), (4, .int (zi (μ 18 (12 + l))))]) K dX1_whoIsIn_54 (by decide) rfl ?_
            refine z_iincN (lv' := [(0, .ref (ad 17)), (1, .int (zi f)), (2, .int (zi ((zin (μ 18) f l ||| 2 ^ l : Nat) : Int))), (3, .int (zi ((l + 1 : Nat) : Int))), (4, .int (zi (μ 18 (12 + l))))]) K dX1_whoIsIn_55 rfl (by decide) rfl ?_
            refine z_goto (tgt := 4) K dX1_whoIsIn_58 (by decide) ?_
            refine z_ipick [0, 1, 2, 3] rfl ?_
            have e9 : zin (μ 18) f l ||| 2 ^ l = zin (μ 18) f (l + 1) := by
              rw [zin_s]
              rw [if_pos ⟨by omega, by omega⟩]
            rw [e9]
            exact ih (l + 1) (by omega) (by omega)
  exact L4 0 (by omega)
set_option maxHeartbeats 4000000 in
set_option maxRecDepth 100000 in
theorem ct_lost_n (la : Launch) (g0 : zG) (ad : Nat → Nat) (μ : zMem) (n nc : Nat) (hp : zPlan μ n nc) (hv : zHW n nc (μ 18)) : zCon la g0 yX1_lost cX1_lost 1 (some .int) 1 ad zSH [.ref (ad 17)] μ (zPd μ ((zpop (zwho (μ 18) 2 n ||| zwho (μ 18) 3 n) : Nat) : Int)) := by
  refine zCon_of (by decide +kernel) (Nat.le_of_ble_eq_true rfl) ?_
  intro χ K T hl1 hg1
  have K : zOk χ cX1_lost RX1 1 1 (some .int) := K
  obtain ⟨hn, hn6, hnc, hnc3, hpl, hpk⟩ := id hp
  obtain ⟨hv1, hv2, hv3, hv4⟩ := id hv
  show zV χ 1 ad zSH 0 0 0 [(0, .ref (ad 17))] [] μ
  refine z_aload_n K dX1_lost_0 rfl ?_
  refine z_iconst K dX1_lost_1 ?_
  refine z_callVd K hl1 hg1 (kb := 17) (As := [.int (zi (2 : Int))]) (rest := []) (ct_who_n la g0 ad _ n nc hp hv 2 ⟨by decide, by decide⟩) (by decide) lk_X1_46 cd_X1_who rfl rfl rfl rfl (Nat.le_of_ble_eq_true rfl) dX1_lost_2 ?_
  refine z_aload_n K dX1_lost_5 rfl ?_
  refine z_iconst K dX1_lost_6 ?_
  refine z_callVd K hl1 hg1 (kb := 17) (As := [.int (zi (3 : Int))]) (rest := [.int (zi ((zwho (μ 18) 2 n : Nat) : Int))]) (ct_who_n la g0 ad _ n nc hp hv 3 ⟨by decide, by decide⟩) (by decide) lk_X1_46 cd_X1_who rfl rfl rfl rfl (Nat.le_of_ble_eq_true rfl) dX1_lost_7 ?_
  refine z_iorR (z := zi ((zwho (μ 18) 2 n ||| zwho (μ 18) 3 n : Nat) : Int)) K dX1_lost_10 (zb_or _ _) ?_
  have hb64 : zwho (μ 18) 2 n ||| zwho (μ 18) 3 n < 64 := Nat.or_lt_two_pow (n := 6) (z64 (zwho_lt _ _ _) hn6) (z64 (zwho_lt _ _ _) hn6)
  refine z_callSd K hl1 hg1 (As := [.int (zi ((zwho (μ 18) 2 n ||| zwho (μ 18) 3 n : Nat) : Int))]) (rest := []) (ct_bitCount la g0 ad _ (zwho (μ 18) 2 n ||| zwho (μ 18) 3 n) (by first | exact z64 (zwho_lt _ _ _) hn6 | exact z64 (zin_lt _ _ _) hn6 | exact hb64)) (by decide) lk_X1_50 cd_J6_bitCount_0f7a4 rfl rfl (Nat.le_of_ble_eq_true rfl) dX1_lost_11 ?_
  exact z_iretd K T rfl dX1_lost_14 rfl rfl
set_option maxHeartbeats 4000000 in
set_option maxRecDepth 100000 in
theorem ct_daysLeft_n (la : Launch) (g0 : zG) (ad : Nat → Nat) (μ : zMem) (n nc : Nat) (hp : zPlan μ n nc) (hv : zHW n nc (μ 18)) (l : Nat) (hl : l < n) : zCon la g0 yX1_daysLeft cX1_daysLeft 5 (some .int) 0 ad zSH [.ref (ad 17), .int (zi ((l : Nat) : Int))] μ (zPd μ (zdl n (μ 13) (μ 14) (μ 18) l)) := by
  refine zCon_of (by decide +kernel) (Nat.le_of_ble_eq_true rfl) ?_
  intro χ K T hl1 hg1
  have K : zOk χ cX1_daysLeft RX1 5 0 (some .int) := K
  obtain ⟨hn, hn6, hnc, hnc3, hpl, hpk⟩ := id hp
  obtain ⟨hv1, hv2, hv3, hv4⟩ := id hv
  have hpp := hpl l hl
  have hvv := hv1 l hl
  show zV χ 5 ad zSH 0 0 0 [(0, .ref (ad 17)), (1, .int (zi ((l : Nat) : Int)))] [] μ
  refine z_aload_n K dX1_daysLeft_0 rfl ?_
  refine z_get (k := 17) (v := .ref (ad 10)) K dX1_daysLeft_1 fl_X1_18 rfl rfl rfl ?_
  refine z_get (k := 10) (v := .ref (ad 14)) K dX1_daysLeft_4 fl_X1_58 rfl rfl rfl ?_
  refine z_iload_n K dX1_daysLeft_7 rfl ?_
  refine z_iald (k := 14) (v := μ 14 l) K dX1_daysLeft_8 l rfl (by decide) (by omega) (by omega) rfl ?_
  refine z_aload_n K dX1_daysLeft_9 rfl ?_
  refine z_get (k := 17) (v := .ref (ad 18)) K dX1_daysLeft_10 fl_X1_11 rfl rfl rfl ?_
  refine z_bipush K dX1_daysLeft_13 (by decide +kernel) ?_
  refine z_iload_n K dX1_daysLeft_15 rfl ?_
  refine z_iadd K dX1_daysLeft_16 ?_
  refine z_iald (k := 18) (v := μ 18 (6 + l)) K dX1_daysLeft_17 (6 + l) rfl (by decide) (by omega) (by omega) rfl ?_
  refine z_isub K dX1_daysLeft_18 ?_
  refine z_istore_n (lv' := [(0, .ref (ad 17)), (1, .int (zi ((l : Nat) : Int))), (2, .int (zi ((μ 14 l) - (μ 18 (6 + l)))))]) K dX1_daysLeft_19 (by decide) rfl ?_
  refine z_aload_n K dX1_daysLeft_20 rfl ?_
  refine z_get (k := 17) (v := .ref (ad 10)) K dX1_daysLeft_21 fl_X1_18 rfl rfl rfl ?_
  refine z_get (k := 10) (v := .ref (ad 13)) K dX1_daysLeft_24 fl_X1_61 rfl rfl rfl ?_
  refine z_iload_n K dX1_daysLeft_27 rfl ?_
  refine z_iald (k := 13) (v := μ 13 l) K dX1_daysLeft_28 l rfl (by decide) (by omega) (by omega) rfl ?_
  refine z_iconst K dX1_daysLeft_29 ?_
  refine z_icmpne (tgt := 98) K dX1_daysLeft_30 (by decide) (by omega) ⟨by decide, by decide⟩ (fun h30 => ?_) (fun h30 => ?_)
  · refine z_iload_n K dX1_daysLeft_98 rfl ?_
    refine z_ifge (tgt := 106) K dX1_daysLeft_99 (by decide) (by omega) (fun h99 => ?_) (fun h99 => ?_)
    · refine z_iload_n K dX1_daysLeft_106 rfl ?_
      exact z_iretd K T rfl dX1_daysLeft_107 (by
          unfold zdl
          rw [if_neg h30]
          omega) rfl
    · refine z_iconst K dX1_daysLeft_102 ?_
      refine z_goto (tgt := 107) K dX1_daysLeft_103 (by decide) ?_
      exact z_iretd K T rfl dX1_daysLeft_107 (by
          unfold zdl
          rw [if_neg h30]
          omega) rfl
  · refine z_aload_n K dX1_daysLeft_33 rfl ?_
    refine z_get (k := 17) (v := .ref (ad 18)) K dX1_daysLeft_34 fl_X1_11 rfl rfl rfl ?_
    refine z_iconst K dX1_daysLeft_37 ?_
    refine z_iload_n K dX1_daysLeft_38 rfl ?_
    refine z_iadd K dX1_daysLeft_39 ?_
    refine z_iald (k := 18) (v := μ 18 l) K dX1_daysLeft_40 l rfl (by decide) (by omega) (by omega) rfl ?_
    refine z_istore_n (lv' := [(0, .ref (ad 17)), (1, .int (zi ((l : Nat) : Int))), (2, .int (zi ((μ 14 l) - (μ 18 (6 + l))))), (3, .int (zi (μ 18 l)))]) K dX1_daysLeft_41 (by decide) rfl ?_
    refine z_iconst K dX1_daysLeft_42 ?_
    refine z_istore (lv' := [(0, .ref (ad 17)), (1, .int (zi ((l : Nat) : Int))), (2, .int (zi ((μ 14 l) - (μ 18 (6 + l))))), (3, .int (zi (μ 18 l))), (4, .int (zi (0 : Int)))]) K dX1_daysLeft_43 (by decide) rfl ?_
    have L45 : ∀ o, o ≤ n → zV χ 5 ad zSH 0 0 45 [(0, .ref (ad 17)), (1, .int (zi ((l : Nat) : Int))), (2, .int (zi (μ 14 l - μ 18 (6 + l) + (zcnt (μ 18) l o : Nat)))), (3, .int (zi (μ 18 l))), (4, .int (zi ((o : Nat) : Int)))] [] μ := by
      refine zfor ?_
      intro o ho ih
      refine z_iload K dX1_daysLeft_45 rfl ?_
      refine z_aload_n K dX1_daysLeft_47 rfl ?_
      refine z_get (k := 17) (v := .ref (ad 10)) K dX1_daysLeft_48 fl_X1_18 rfl rfl rfl ?_
      refine z_get (k := 10) (v := .int (zi (μ 10 0))) K dX1_daysLeft_51 fl_X1_22 rfl rfl rfl ?_
      refine z_icmpge (tgt := 98) K dX1_daysLeft_54 (by decide) (by omega) (by omega) (fun h54 => ?_) (fun h54 => ?_)
      · have hcn := zcnt_le (μ 18) l o
        refine z_iload_n K dX1_daysLeft_98 rfl ?_
        refine z_ifge (tgt := 106) K dX1_daysLeft_99 (by decide) (by omega) (fun h99 => ?_) (fun h99 => ?_)
        · refine z_iload_n K dX1_daysLeft_106 rfl ?_
          exact z_iretd K T rfl dX1_daysLeft_107 (by
              unfold zdl
              rw [if_pos h30, show n = o by omega]
              omega) rfl
        · refine z_iconst K dX1_daysLeft_102 ?_
          refine z_goto (tgt := 107) K dX1_daysLeft_103 (by decide) ?_
          exact z_iretd K T rfl dX1_daysLeft_107 (by
              unfold zdl
              rw [if_pos h30, show n = o by omega]
              omega) rfl
      · have hfo := hv1 o (by omega)
        have hcn := zcnt_le (μ 18) l o
        refine z_iload K dX1_daysLeft_57 rfl ?_
        refine z_iload_n K dX1_daysLeft_59 rfl ?_
        refine z_icmpeq (tgt := 92) K dX1_daysLeft_60 (by decide) (by omega) (by omega) (fun h60 => ?_) (fun h60 => ?_)
        · refine z_iincN (lv' := [(0, .ref (ad 17)), (1, .int (zi ((l : Nat) : Int))), (2, .int (zi (μ 14 l - μ 18 (6 + l) + (zcnt (μ 18) l o : Nat)))), (3, .int (zi (μ 18 l))), (4, .int (zi ((o + 1 : Nat) : Int)))]) K dX1_daysLeft_92 rfl (by decide) rfl ?_
          refine z_goto (tgt := 45) K dX1_daysLeft_95 (by decide) ?_
          have e9 : μ 14 l - μ 18 (6 + l) + (zcnt (μ 18) l o : Nat) = μ 14 l - μ 18 (6 + l) + (zcnt (μ 18) l (o + 1) : Nat) := by
            rw [zcnt_s]
            rw [if_neg (by omega)]
          rw [e9]
          exact ih (o + 1) (by omega) (by omega)
        · refine z_aload_n K dX1_daysLeft_63 rfl ?_
          refine z_get (k := 17) (v := .ref (ad 18)) K dX1_daysLeft_64 fl_X1_11 rfl rfl rfl ?_
          refine z_bipush K dX1_daysLeft_67 (by decide +kernel) ?_
          refine z_iload K dX1_daysLeft_69 rfl ?_
          refine z_iadd K dX1_daysLeft_71 ?_
          refine z_iald (k := 18) (v := μ 18 (12 + o)) K dX1_daysLeft_72 (12 + o) rfl (by decide) (by omega) (by omega) rfl ?_
          refine z_ifne (tgt := 92) K dX1_daysLeft_73 (by decide) (by omega) (fun h73 => ?_) (fun h73 => ?_)
          · refine z_iincN (lv' := [(0, .ref (ad 17)), (1, .int (zi ((l : Nat) : Int))), (2, .int (zi (μ 14 l - μ 18 (6 + l) + (zcnt (μ 18) l o : Nat)))), (3, .int (zi (μ 18 l))), (4, .int (zi ((o + 1 : Nat) : Int)))]) K dX1_daysLeft_92 rfl (by decide) rfl ?_
            refine z_goto (tgt := 45) K dX1_daysLeft_95 (by decide) ?_
            have e9 : μ 14 l - μ 18 (6 + l) + (zcnt (μ 18) l o : Nat) = μ 14 l - μ 18 (6 + l) + (zcnt (μ 18) l (o + 1) : Nat) := by
              rw [zcnt_s]
              rw [if_neg (by omega)]
            rw [e9]
            exact ih (o + 1) (by omega) (by omega)
          · refine z_aload_n K dX1_daysLeft_76 rfl ?_
            refine z_get (k := 17) (v := .ref (ad 18)) K dX1_daysLeft_77 fl_X1_11 rfl rfl rfl ?_
            refine z_iconst K dX1_daysLeft_80 ?_
            refine z_iload K dX1_daysLeft_81 rfl ?_
            refine z_iadd K dX1_daysLeft_83 ?_
            refine z_iald (k := 18) (v := μ 18 o) K dX1_daysLeft_84 o rfl (by decide) (by omega) (by omega) rfl ?_
            refine z_iload_n K dX1_daysLeft_85 rfl ?_
            refine z_icmpne (tgt := 92) K dX1_daysLeft_86 (by decide) (by omega) (by omega) (fun h86 => ?_) (fun h86 => ?_)
            · refine z_iincN (lv' := [(0, .ref (ad 17)), (1, .int (zi ((l : Nat) : Int))), (2, .int (zi (μ 14 l - μ 18 (6 + l) + (zcnt (μ 18) l o : Nat)))), (3, .int (zi (μ 18 l))), (4, .int (zi ((o + 1 : Nat) : Int)))]) K dX1_daysLeft_92 rfl (by decide) rfl ?_
              refine z_goto (tgt := 45) K dX1_daysLeft_95 (by decide) ?_
              have e9 : μ 14 l - μ 18 (6 + l) + (zcnt (μ 18) l o : Nat) = μ 14 l - μ 18 (6 + l) + (zcnt (μ 18) l (o + 1) : Nat) := by
                rw [zcnt_s]
                rw [if_neg (by omega)]
              rw [e9]
              exact ih (o + 1) (by omega) (by omega)
            · refine z_iinc (lv' := [(0, .ref (ad 17)), (1, .int (zi ((l : Nat) : Int))), (2, .int (zi (μ 14 l - μ 18 (6 + l) + (zcnt (μ 18) l o : Nat) + (1 : Int)))), (3, .int (zi (μ 18 l))), (4, .int (zi ((o : Nat) : Int)))]) K dX1_daysLeft_89 rfl (by decide) rfl ?_
              refine z_iincN (lv' := [(0, .ref (ad 17)), (1, .int (zi ((l : Nat) : Int))), (2, .int (zi (μ 14 l - μ 18 (6 + l) + (zcnt (μ 18) l o : Nat) + (1 : Int)))), (3, .int (zi (μ 18 l))), (4, .int (zi ((o + 1 : Nat) : Int)))]) K dX1_daysLeft_92 rfl (by decide) rfl ?_
              refine z_goto (tgt := 45) K dX1_daysLeft_95 (by decide) ?_
              have e9 : μ 14 l - μ 18 (6 + l) + (zcnt (μ 18) l o : Nat) + (1 : Int) = μ 14 l - μ 18 (6 + l) + (zcnt (μ 18) l (o + 1) : Nat) := by
                rw [zcnt_s]
                rw [if_pos ⟨by omega, by omega, by omega⟩]; omega
              rw [e9]
              exact ih (o + 1) (by omega) (by omega)
    have e9 : (μ 14 l) - (μ 18 (6 + l)) = μ 14 l - μ 18 (6 + l) + (zcnt (μ 18) l 0 : Nat) := by unfold zcnt; omega
    rw [e9]
    exact L45 0 (by omega)
set_option maxHeartbeats 4000000 in
set_option maxRecDepth 100000 in
theorem ct_fateOf_n (la : Launch) (g0 : zG) (ad : Nat → Nat) (μ : zMem) (n nc : Nat) (hp : zPlan μ n nc) (hv : zHW n nc (μ 18)) (l : Nat) (hl : l < n) : zCon la g0 yX1_fateOf cX1_fateOf 2 (some .int) 0 ad zSH [.ref (ad 17), .int (zi ((l : Nat) : Int))] μ (zPd μ (μ 18 (12 + l))) := by
  refine zCon_of (by decide +kernel) (Nat.le_of_ble_eq_true rfl) ?_
  intro χ K T hl1 hg1
  have K : zOk χ cX1_fateOf RX1 2 0 (some .int) := K
  obtain ⟨hn, hn6, hnc, hnc3, hpl, hpk⟩ := id hp
  obtain ⟨hv1, hv2, hv3, hv4⟩ := id hv
  show zV χ 2 ad zSH 0 0 0 [(0, .ref (ad 17)), (1, .int (zi ((l : Nat) : Int)))] [] μ
  refine z_aload_n K dX1_fateOf_0 rfl ?_
  refine z_get (k := 17) (v := .ref (ad 18)) K dX1_fateOf_1 fl_X1_11 rfl rfl rfl ?_
  refine z_bipush K dX1_fateOf_4 (by decide +kernel) ?_
  refine z_iload_n K dX1_fateOf_6 rfl ?_
  refine z_iadd K dX1_fateOf_7 ?_
  refine z_iald (k := 18) (v := μ 18 (12 + l)) K dX1_fateOf_8 (12 + l) rfl (by decide) (by omega) (by omega) rfl ?_
  exact z_iretd K T rfl dX1_fateOf_9 rfl rfl
set_option maxHeartbeats 4000000 in
set_option maxRecDepth 100000 in
theorem ct_canPut_n (la : Launch) (g0 : zG) (ad : Nat → Nat) (μ : zMem) (n nc : Nat) (hp : zPlan μ n nc) (hv : zHW n nc (μ 18)) (x y : Int) (hx : zR x) (hy : zR y) : zCon la g0 yX1_canPut cX1_canPut 3 (some .boolean) 1 ad zSH [.ref (ad 17), .int (zi x), .int (zi y)] μ (zPd μ (if (0 ≤ x ∧ x < (n : Int)) ∧ (0 ≤ y ∧ y < 12) ∧ μ 18 (12 + x.toNat) = 0 ∧ μ 18 x.toNat ≠ y ∧ zpop (zin (μ 18) y n) < 2 then 1 else 0)) := by
  refine zCon_of (by decide +kernel) (Nat.le_of_ble_eq_true rfl) ?_
  intro χ K T hl1 hg1
  have K : zOk χ cX1_canPut RX1 3 1 (some .boolean) := K
  obtain ⟨hn, hn6, hnc, hnc3, hpl, hpk⟩ := id hp
  obtain ⟨hv1, hv2, hv3, hv4⟩ := id hv
  show zV χ 3 ad zSH 0 0 0 [(0, .ref (ad 17)), (1, .int (zi x)), (2, .int (zi y))] [] μ
  refine z_aload_n K dX1_canPut_0 rfl ?_
  refine z_get (k := 17) (v := .ref (ad 10)) K dX1_canPut_1 fl_X1_18 rfl rfl rfl ?_
  refine z_iload_n K dX1_canPut_4 rfl ?_
  refine z_callVd K hl1 hg1 (kb := 10) (As := [.int (zi x)]) (rest := []) (ct_hasLetter la g0 ad _ n nc hp x hx) (by decide) lk_X1_64 cd_X4_hasLetter rfl rfl rfl rfl (Nat.le_of_ble_eq_true rfl) dX1_canPut_5 ?_
  refine z_ifeq (tgt := 58) K dX1_canPut_8 (by decide) (by omega) (fun h8 => ?_) (fun h8 => ?_)
  · refine z_iconst K dX1_canPut_58 ?_
    exact z_zretd K T rfl dX1_canPut_59 (Or.inl rfl) (if_neg (by omega)).symm rfl
  · refine z_iload_n K dX1_canPut_11 rfl ?_
    refine z_callSd K hl1 hg1 (As := [.int (zi y)]) (rest := []) (ct_isHole la g0 ad _ y hy) (by decide) lk_X1_68 cd_X8_isHole rfl rfl (Nat.le_of_ble_eq_true rfl) dX1_canPut_12 ?_
    refine z_ifeq (tgt := 58) K dX1_canPut_15 (by decide) (by omega) (fun h15 => ?_) (fun h15 => ?_)
    · refine z_iconst K dX1_canPut_58 ?_
      exact z_zretd K T rfl dX1_canPut_59 (Or.inl rfl) (if_neg (by omega)).symm rfl
    · have hfl := hv1 x.toNat (by omega)
      refine z_aload_n K dX1_canPut_18 rfl ?_
      refine z_get (k := 17) (v := .ref (ad 18)) K dX1_canPut_19 fl_X1_11 rfl rfl rfl ?_
      refine z_bipush K dX1_canPut_22 (by decide +kernel) ?_
      refine z_iload_n K dX1_canPut_24 rfl ?_
      refine z_iadd K dX1_canPut_25 ?_
      refine z_iald (k := 18) (v := μ 18 (12 + x.toNat)) K dX1_canPut_26 (12 + x.toNat) rfl (by decide) (by omega) (by omega) rfl ?_
      refine z_ifne (tgt := 58) K dX1_canPut_27 (by decide) (by omega) (fun h27 => ?_) (fun h27 => ?_)
      · refine z_iconst K dX1_canPut_58 ?_
        exact z_zretd K T rfl dX1_canPut_59 (Or.inl rfl) (if_neg (by omega)).symm rfl
      · refine z_aload_n K dX1_canPut_30 rfl ?_
        refine z_get (k := 17) (v := .ref (ad 18)) K dX1_canPut_31 fl_X1_11 rfl rfl rfl ?_
        refine z_iconst K dX1_canPut_34 ?_
        refine z_iload_n K dX1_canPut_35 rfl ?_
        refine z_iadd K dX1_canPut_36 ?_
        refine z_iald (k := 18) (v := μ 18 x.toNat) K dX1_canPut_37 x.toNat rfl (by decide) (by omega) (by omega) rfl ?_
        refine z_iload_n K dX1_canPut_38 rfl ?_
        refine z_icmpeq (tgt := 58) K dX1_canPut_39 (by decide) (by omega) (by omega) (fun h39 => ?_) (fun h39 => ?_)
        · refine z_iconst K dX1_canPut_58 ?_
          exact z_zretd K T rfl dX1_canPut_59 (Or.inl rfl) (if_neg (by omega)).symm rfl
        · refine z_aload_n K dX1_canPut_42 rfl ?_
          refine z_iload_n K dX1_canPut_43 rfl ?_
          refine z_callVd K hl1 hg1 (kb := 17) (As := [.int (zi y)]) (rest := []) (ct_whoIsIn_n la g0 ad _ n nc hp hv y hy) (by decide) lk_X1_55 cd_X1_whoIsIn rfl rfl rfl rfl (Nat.le_of_ble_eq_true rfl) dX1_canPut_44 ?_
          refine z_callSd K hl1 hg1 (As := [.int (zi ((zin (μ 18) y n : Nat) : Int))]) (rest := []) (ct_bitCount la g0 ad _ (zin (μ 18) y n) (by first | exact z64 (zwho_lt _ _ _) hn6 | exact z64 (zin_lt _ _ _) hn6 | exact hb64)) (by decide) lk_X1_50 cd_J6_bitCount_0f7a4 rfl rfl (Nat.le_of_ble_eq_true rfl) dX1_canPut_47 ?_
          have hq6 := zpop_le (zin (μ 18) y n)
          refine z_iconst K dX1_canPut_50 ?_
          refine z_icmpge (tgt := 58) K dX1_canPut_51 (by decide) (by omega) ⟨by decide, by decide⟩ (fun h51 => ?_) (fun h51 => ?_)
          · refine z_iconst K dX1_canPut_58 ?_
            exact z_zretd K T rfl dX1_canPut_59 (Or.inl rfl) (if_neg (by omega)).symm rfl
          · refine z_iconst K dX1_canPut_54 ?_
            refine z_goto (tgt := 59) K dX1_canPut_55 (by decide) ?_
            exact z_zretd K T rfl dX1_canPut_59 (Or.inr rfl) (if_pos ⟨by omega, by omega, by omega, by omega, by omega⟩).symm rfl
set_option maxHeartbeats 4000000 in
set_option maxRecDepth 100000 in
theorem ct_canSend_n (la : Launch) (g0 : zG) (ad : Nat → Nat) (μ : zMem) (n nc : Nat) (hp : zPlan μ n nc) (hv : zHW n nc (μ 18)) (x y : Int) (hx : zR x) (hy : zR y) : zCon la g0 yX1_canSend cX1_canSend 3 (some .boolean) 1 ad zSH [.ref (ad 17), .int (zi x), .int (zi y)] μ (zPd μ (if (0 ≤ x ∧ x < (nc : Int)) ∧ (0 ≤ y ∧ y < 3) ∧ μ 18 (18 + x.toNat) ≠ y then 1 else 0)) := by
  refine zCon_of (by decide +kernel) (Nat.le_of_ble_eq_true rfl) ?_
  intro χ K T hl1 hg1
  have K : zOk χ cX1_canSend RX1 3 1 (some .boolean) := K
  obtain ⟨hn, hn6, hnc, hnc3, hpl, hpk⟩ := id hp
  obtain ⟨hv1, hv2, hv3, hv4⟩ := id hv
  show zV χ 3 ad zSH 0 0 0 [(0, .ref (ad 17)), (1, .int (zi x)), (2, .int (zi y))] [] μ
  refine z_aload_n K dX1_canSend_0 rfl ?_
  refine z_get (k := 17) (v := .ref (ad 10)) K dX1_canSend_1 fl_X1_18 rfl rfl rfl ?_
  refine z_iload_n K dX1_canSend_4 rfl ?_
  refine z_callVd K hl1 hg1 (kb := 10) (As := [.int (zi x)]) (rest := []) (ct_hasClerk la g0 ad _ n nc hp x hx) (by decide) lk_X1_71 cd_X4_hasClerk rfl rfl rfl rfl (Nat.le_of_ble_eq_true rfl) dX1_canSend_5 ?_
  refine z_ifeq (tgt := 35) K dX1_canSend_8 (by decide) (by omega) (fun h8 => ?_) (fun h8 => ?_)
  · refine z_iconst K dX1_canSend_35 ?_
    exact z_zretd K T rfl dX1_canSend_36 (Or.inl rfl) (if_neg (by omega)).symm rfl
  · refine z_iload_n K dX1_canSend_11 rfl ?_
    refine z_callSd K hl1 hg1 (As := [.int (zi y)]) (rest := []) (ct_isRow la g0 ad _ y hy) (by decide) lk_X1_74 cd_X8_isRow rfl rfl (Nat.le_of_ble_eq_true rfl) dX1_canSend_12 ?_
    refine z_ifeq (tgt := 35) K dX1_canSend_15 (by decide) (by omega) (fun h15 => ?_) (fun h15 => ?_)
    · refine z_iconst K dX1_canSend_35 ?_
      exact z_zretd K T rfl dX1_canSend_36 (Or.inl rfl) (if_neg (by omega)).symm rfl
    · have hfl := hv2 x.toNat (by omega)
      refine z_aload_n K dX1_canSend_18 rfl ?_
      refine z_get (k := 17) (v := .ref (ad 18)) K dX1_canSend_19 fl_X1_11 rfl rfl rfl ?_
      refine z_bipush K dX1_canSend_22 (by decide +kernel) ?_
      refine z_iload_n K dX1_canSend_24 rfl ?_
      refine z_iadd K dX1_canSend_25 ?_
      refine z_iald (k := 18) (v := μ 18 (18 + x.toNat)) K dX1_canSend_26 (18 + x.toNat) rfl (by decide) (by omega) (by omega) rfl ?_
      refine z_iload_n K dX1_canSend_27 rfl ?_
      refine z_icmpeq (tgt := 35) K dX1_canSend_28 (by decide) (by omega) (by omega) (fun h28 => ?_) (fun h28 => ?_)
      · refine z_iconst K dX1_canSend_35 ?_
        exact z_zretd K T rfl dX1_canSend_36 (Or.inl rfl) (if_neg (by omega)).symm rfl
      · refine z_iconst K dX1_canSend_31 ?_
        refine z_goto (tgt := 36) K dX1_canSend_32 (by decide) ?_
        exact z_zretd K T rfl dX1_canSend_36 (Or.inr rfl) (if_pos ⟨by omega, by omega, by omega⟩).symm rfl
set_option maxHeartbeats 4000000 in
set_option maxRecDepth 100000 in
/-- Hall.who -/
theorem ct_who_t (la : Launch) (g0 : zG) (ad : Nat → Nat) (μ : zMem) (n nc : Nat) (hp : zPlan μ n nc) (hv : zHW n nc (μ 26)) (f : Int) (hf : zR f) : zCon la g0 yX1_who cX1_who 4 (some .int) 0 ad zSH [.ref (ad 25), .int (zi f)] μ (zPd μ ((zwho (μ 26) f n : Nat) : Int)) := by
  refine zCon_of (by decide +kernel) (Nat.le_of_ble_eq_true rfl) ?_
  intro χ K T hl1 hg1
  have K : zOk χ cX1_who RX1 4 0 (some .int) := K
  obtain ⟨hn, hn6, hnc, hnc3, hpl, hpk⟩ := id hp
  obtain ⟨hv1, hv2, hv3, hv4⟩ := id hv
  show zV χ 4 ad zSH 0 0 0 [(0, .ref (ad 25)), (1, .int (zi f))] [] μ
  refine z_iconst K dX1_who_0 ?_
  refine z_istore_n (lv' := [(0, .ref (ad 25)), (1, .int (zi f)), (2, .int (zi (0 : Int)))]) K dX1_who_1 (by decide) rfl ?_
  refine z_iconst K dX1_who_2 ?_
  refine z_istore_n (lv' := [(0, .ref (ad 25)), (1, .int (zi f)), (2, .int (zi (0 : Int))), (3, .int (zi (0 : Int)))]) K dX1_who_3 (by decide) rfl ?_
  have L4 : ∀ l, l ≤ n → zV χ 4 ad zSH 0 0 4 [(0, .ref (ad 25)), (1, .int (zi f)), (2, .int (zi ((zwho (μ 26) f l : Nat) : Int))), (3, .int (zi ((l : Nat) : Int)))] [] μ := by
    refine zfor ?_
    intro l hl ih
    refine z_iload_n K dX1_who_4 rfl ?_
    refine z_aload_n K dX1_who_5 rfl ?_
    refine z_get (k := 25) (v := .ref (ad 10)) K dX1_who_6 fl_X1_18 rfl rfl rfl ?_
    refine z_get (k := 10) (v := .int (zi (μ 10 0))) K dX1_who_9 fl_X1_22 rfl rfl rfl ?_
    refine z_icmpge (tgt := 40) K dX1_who_12 (by decide) (by omega) (by omega) (fun h12 => ?_) (fun h12 => ?_)
    · refine z_iload_n K dX1_who_40 rfl ?_
      exact z_iretd K T rfl dX1_who_41 (by rw [show l = n by omega]) rfl
    · have hfl := hv1 l (by omega)
      refine z_aload_n K dX1_who_15 rfl ?_
      refine z_get (k := 25) (v := .ref (ad 26)) K dX1_who_16 fl_X1_11 rfl rfl rfl ?_
      refine z_bipush K dX1_who_19 (by decide +kernel) ?_
      refine z_iload_n K dX1_who_21 rfl ?_
      refine z_iadd K dX1_who_22 ?_
      refine z_iald (k := 26) (v := μ 26 (12 + l)) K dX1_who_23 (12 + l) rfl (by decide) (by omega) (by omega) rfl ?_
      refine z_iload_n K dX1_who_24 rfl ?_
      refine z_icmpne (tgt := 34) K dX1_who_25 (by decide) (by omega) (by omega) (fun h25 => ?_) (fun h25 => ?_)
      · refine z_iincN (lv' := [(0, .ref (ad 25)), (1, .int (zi f)), (2, .int (zi ((zwho (μ 26) f l : Nat) : Int))), (3, .int (zi ((l + 1 : Nat) : Int)))]) K dX1_who_34 rfl (by decide) rfl ?_
        refine z_goto (tgt := 4) K dX1_who_37 (by decide) ?_
        have e9 : zwho (μ 26) f l = zwho (μ 26) f (l + 1) := by simp [zwho, h25]
        rw [e9]
        exact ih (l + 1) (by omega) (by omega)
      · refine z_iload_n K dX1_who_28 rfl ?_
        refine z_iconst K dX1_who_29 ?_
        refine z_iload_n K dX1_who_30 rfl ?_
        refine z_ishlR (z := zi ((2 ^ l : Nat) : Int)) K dX1_who_31 (zb_shl l (by omega)) ?_
        refine z_iorR (z := zi ((zwho (μ 26) f l ||| 2 ^ l : Nat) : Int)) K dX1_who_32 (zb_or _ _) ?_
        refine z_istore_n (lv' := [(0, .ref (ad 25)), (1, .int (zi f)), (2, .int (zi ((zwho (μ 26) f l ||| 2 ^ l : Nat) : Int))), (3, .int (zi ((l : Nat) : Int)))]) K dX1_who_33 (by decide) rfl ?_
        refine z_iincN (lv' := [(0, .ref (ad 25)), (1, .int (zi f)), (2, .int (zi ((zwho (μ 26) f l ||| 2 ^ l : Nat) : Int))), (3, .int (zi ((l + 1 : Nat) : Int)))]) K dX1_who_34 rfl (by decide) rfl ?_
        refine z_goto (tgt := 4) K dX1_who_37 (by decide) ?_
        have e9 : zwho (μ 26) f l ||| 2 ^ l = zwho (μ 26) f (l + 1) := by simp [zwho, h25]
        rw [e9]
        exact ih (l + 1) (by omega) (by omega)
  exact L4 0 (by omega)
set_option maxHeartbeats 4000000 in
set_option maxRecDepth 100000 in
/-- Hall.whoIsIn -/
theorem ct_whoIsIn_t (la : Launch) (g0 : zG) (ad : Nat → Nat) (μ : zMem) (n nc : Nat) (hp : zPlan μ n nc) (hv : zHW n nc (μ 26)) (f : Int) (hf : zR f) : zCon la g0 yX1_whoIsIn cX1_whoIsIn 5 (some .int) 0 ad zSH [.ref (ad 25), .int (zi f)] μ (zPd μ ((zin (μ 26) f n : Nat) : Int)) := by
  refine zCon_of (by decide +kernel) (Nat.le_of_ble_eq_true rfl) ?_
  intro χ K T hl1 hg1
  have K : zOk χ cX1_whoIsIn RX1 5 0 (some .int) := K
  obtain ⟨hn, hn6, hnc, hnc3, hpl, hpk⟩ := id hp
  obtain ⟨hv1, hv2, hv3, hv4⟩ := id hv
  show zV χ 5 ad zSH 0 0 0 [(0, .ref (ad 25)), (1, .int (zi f))] [] μ
  refine z_iconst K dX1_whoIsIn_0 ?_
  refine z_istore_n (lv' := [(0, .ref (ad 25)), (1, .int (zi f)), (2, .int (zi (0 : Int)))]) K dX1_whoIsIn_1 (by decide) rfl ?_
  refine z_iconst K dX1_whoIsIn_2 ?_
  refine z_istore_n (lv' := [(0, .ref (ad 25)), (1, .int (zi f)), (2, .int (zi (0 : Int))), (3, .int (zi (0 : Int)))]) K dX1_whoIsIn_3 (by decide) rfl ?_
  have L4 : ∀ l, l ≤ n → zV χ 5 ad zSH 0 0 4 [(0, .ref (ad 25)), (1, .int (zi f)), (2, .int (zi ((zin (μ 26) f l : Nat) : Int))), (3, .int (zi ((l : Nat) : Int)))] [] μ := by
    refine zfor ?_
    intro l hl ih
    refine z_iload_n K dX1_whoIsIn_4 rfl ?_
    refine z_aload_n K dX1_whoIsIn_5 rfl ?_
    refine z_get (k := 25) (v := .ref (ad 10)) K dX1_whoIsIn_6 fl_X1_18 rfl rfl rfl ?_
    refine z_get (k := 10) (v := .int (zi (μ 10 0))) K dX1_whoIsIn_9 fl_X1_22 rfl rfl rfl ?_
    refine z_icmpge (tgt := 61) K dX1_whoIsIn_12 (by decide) (by omega) (by omega) (fun h12 => ?_) (fun h12 => ?_)
    · refine z_iload_n K dX1_whoIsIn_61 rfl ?_
      exact z_iretd K T rfl dX1_whoIsIn_62 (by rw [show l = n by omega]) rfl
    · have hfl := hv1 l (by omega)
      refine z_aload_n K dX1_whoIsIn_15 rfl ?_
      refine z_get (k := 25) (v := .ref (ad 26)) K dX1_whoIsIn_16 fl_X1_11 rfl rfl rfl ?_
      refine z_bipush K dX1_whoIsIn_19 (by decide +kernel) ?_
      refine z_iload_n K dX1_whoIsIn_21 rfl ?_
      refine z_iadd K dX1_whoIsIn_22 ?_
      refine z_iald (k := 26) (v := μ 26 (12 + l)) K dX1_whoIsIn_23 (12 + l) rfl (by decide) (by omega) (by omega) rfl ?_
      refine z_istore (lv' := [(0, .ref (ad 25)), (1, .int (zi f)), (2, .int (zi ((zin (μ 26) f l : Nat) : Int))), (3, .int (zi ((l : Nat) : Int))), (4, .int (zi (μ 26 (12 + l))))]) K dX1_whoIsIn_24 (by decide) rfl ?_
      refine z_aload_n K dX1_whoIsIn_26 rfl ?_
      refine z_get (k := 25) (v := .ref (ad 26)) K dX1_whoIsIn_27 fl_X1_11 rfl rfl rfl ?_
      refine z_iconst K dX1_whoIsIn_30 ?_
      refine z_iload_n K dX1_whoIsIn_31 rfl ?_
      refine z_iadd K dX1_whoIsIn_32 ?_
      refine z_iald (k := 26) (v := μ 26 l) K dX1_whoIsIn_33 l rfl (by decide) (by omega) (by omega) rfl ?_
      refine z_iload_n K dX1_whoIsIn_34 rfl ?_
      refine z_icmpne (tgt := 55) K dX1_whoIsIn_35 (by decide) (by omega) (by omega) (fun h35 => ?_) (fun h35 => ?_)
      · refine z_iincN (lv' := [(0, .ref (ad 25)), (1, .int (zi f)), (2, .int (zi ((zin (μ 26) f l : Nat) : Int))), (3, .int (zi ((l + 1 : Nat) : Int))), (4, .int (zi (μ 26 (12 + l))))]) K dX1_whoIsIn_55 rfl (by decide) rfl ?_
        refine z_goto (tgt := 4) K dX1_whoIsIn_58 (by decide) ?_
        refine z_ipick [0, 1, 2, 3] rfl ?_
        have e9 : zin (μ 26) f l = zin (μ 26) f (l + 1) := by
          rw [zin_s]
          rw [if_neg (by omega)]
        rw [e9]
        exact ih (l + 1) (by omega) (by omega)
      · refine z_iload K dX1_whoIsIn_38 rfl ?_
        refine z_ifeq (tgt := 49) K dX1_whoIsIn_40 (by decide) (by omega) (fun h40 => ?_) (fun h40 => ?_)
        · refine z_iload_n K dX1_whoIsIn_49 rfl ?_
          refine z_iconst K dX1_whoIsIn_50 ?_
          refine z_iload_n K dX1_whoIsIn_51 rfl ?_
          refine z_ishlR (z := zi ((2 ^ l : Nat) : Int)) K dX1_whoIsIn_52 (zb_shl l (by omega)) ?_
          refine z_iorR (z := zi ((zin (μ 26) f l ||| 2 ^ l : Nat) : Int)) K dX1_whoIsIn_53 (zb_or _ _) ?_
          refine z_istore_n (lv' := [(0, .ref (ad 25)), (1, .int (zi f)), (2, .int (zi ((zin (μ 26) f l ||| 2 ^ l : Nat) : Int))), (3, .int (zi ((l : Nat) : Int))), (4, .int (zi (μ 26 (12 + l))))]) K dX1_whoIsIn_54 (by decide) rfl ?_
          refine z_iincN (lv' := [(0, .ref (ad 25)), (1, .int (zi f)), (2, .int (zi ((zin (μ 26) f l ||| 2 ^ l : Nat) : Int))), (3, .int (zi ((l + 1 : Nat) : Int))), (4, .int (zi (μ 26 (12 + l))))]) K dX1_whoIsIn_55 rfl (by decide) rfl ?_
          refine z_goto (tgt := 4) K dX1_whoIsIn_58 (by decide) ?_
          refine z_ipick [0, 1, 2, 3] rfl ?_
          have e9 : zin (μ 26) f l ||| 2 ^ l = zin (μ 26) f (l + 1) := by
            rw [zin_s]
            rw [if_pos ⟨by omega, by omega⟩]
          rw [e9]
          exact ih (l + 1) (by omega) (by omega)
        · refine z_iload K dX1_whoIsIn_43 rfl ?_
          refine z_iconst K dX1_whoIsIn_45 ?_
          refine z_icmpne (tgt := 55) K dX1_whoIsIn_46 (by decide) (by omega) ⟨by decide, by decide⟩ (fun h46 => ?_) (fun h46 => ?_)
          · refine z_iincN (lv' := [(0, .ref (ad 25)), (1, .int (zi f)), (2, .int (zi ((zin (μ 26) f l : Nat) : Int))), (3, .int (zi ((l + 1 : Nat) : Int))), (4, .int (zi (μ 26 (12 + l))))]) K dX1_whoIsIn_55 rfl (by decide) rfl ?_
            refine z_goto (tgt := 4) K dX1_whoIsIn_58 (by decide) ?_
            refine z_ipick [0, 1, 2, 3] rfl ?_
            have e9 : zin (μ 26) f l = zin (μ 26) f (l + 1) := by
              rw [zin_s]
              rw [if_neg (by omega)]
            rw [e9]
            exact ih (l + 1) (by omega) (by omega)
          · refine z_iload_n K dX1_whoIsIn_49 rfl ?_
            refine z_iconst K dX1_whoIsIn_50 ?_
            refine z_iload_n K dX1_whoIsIn_51 rfl ?_
            refine z_ishlR (z := zi ((2 ^ l : Nat) : Int)) K dX1_whoIsIn_52 (zb_shl l (by omega)) ?_
            refine z_iorR (z := zi ((zin (μ 26) f l ||| 2 ^ l : Nat) : Int)) K dX1_whoIsIn_53 (zb_or _ _) ?_
            refine z_istore_n (lv' := [(0, .ref (ad 25)), (1, .int (zi f)), (2, .int (zi ((zin (μ 26) f l ||| 2 ^ l : Nat) : Int))), (3, .int (zi ((l : Nat) : Int))), (4, .int (zi (μ 26 (12 + l))))]) K dX1_whoIsIn_54 (by decide) rfl ?_
            refine z_iincN (lv' := [(0, .ref (ad 25)), (1, .int (zi f)), (2, .int (zi ((zin (μ 26) f l ||| 2 ^ l : Nat) : Int))), (3, .int (zi ((l + 1 : Nat) : Int))), (4, .int (zi (μ 26 (12 + l))))]) K dX1_whoIsIn_55 rfl (by decide) rfl ?_
            refine z_goto (tgt := 4) K dX1_whoIsIn_58 (by decide) ?_
            refine z_ipick [0, 1, 2, 3] rfl ?_
            have e9 : zin (μ 26) f l ||| 2 ^ l = zin (μ 26) f (l + 1) := by
              rw [zin_s]
              rw [if_pos ⟨by omega, by omega⟩]
            rw [e9]
            exact ih (l + 1) (by omega) (by omega)
  exact L4 0 (by omega)
set_option maxHeartbeats 4000000 in
set_option maxRecDepth 100000 in
theorem ct_lost_t (la : Launch) (g0 : zG) (ad : Nat → Nat) (μ : zMem) (n nc : Nat) (hp : zPlan μ n nc) (hv : zHW n nc (μ 26)) : zCon la g0 yX1_lost cX1_lost 1 (some .int) 1 ad zSH [.ref (ad 25)] μ (zPd μ ((zpop (zwho (μ 26) 2 n ||| zwho (μ 26) 3 n) : Nat) : Int)) := by
  refine zCon_of (by decide +kernel) (Nat.le_of_ble_eq_true rfl) ?_
  intro χ K T hl1 hg1
  have K : zOk χ cX1_lost RX1 1 1 (some .int) := K
  obtain ⟨hn, hn6, hnc, hnc3, hpl, hpk⟩ := id hp
  obtain ⟨hv1, hv2, hv3, hv4⟩ := id hv
  show zV χ 1 ad zSH 0 0 0 [(0, .ref (ad 25))] [] μ
  refine z_aload_n K dX1_lost_0 rfl ?_
  refine z_iconst K dX1_lost_1 ?_
  refine z_callVd K hl1 hg1 (kb := 25) (As := [.int (zi (2 : Int))]) (rest := []) (ct_who_t la g0 ad _ n nc hp hv 2 ⟨by decide, by decide⟩) (by decide) lk_X1_46 cd_X1_who rfl rfl rfl rfl (Nat.le_of_ble_eq_true rfl) dX1_lost_2 ?_
  refine z_aload_n K dX1_lost_5 rfl ?_
  refine z_iconst K dX1_lost_6 ?_
  refine z_callVd K hl1 hg1 (kb := 25) (As := [.int (zi (3 : Int))]) (rest := [.int (zi ((zwho (μ 26) 2 n : Nat) : Int))]) (ct_who_t la g0 ad _ n nc hp hv 3 ⟨by decide, by decide⟩) (by decide) lk_X1_46 cd_X1_who rfl rfl rfl rfl (Nat.le_of_ble_eq_true rfl) dX1_lost_7 ?_
  refine z_iorR (z := zi ((zwho (μ 26) 2 n ||| zwho (μ 26) 3 n : Nat) : Int)) K dX1_lost_10 (zb_or _ _) ?_
  have hb64 : zwho (μ 26) 2 n ||| zwho (μ 26) 3 n < 64 := Nat.or_lt_two_pow (n := 6) (z64 (zwho_lt _ _ _) hn6) (z64 (zwho_lt _ _ _) hn6)
  refine z_callSd K hl1 hg1 (As := [.int (zi ((zwho (μ 26) 2 n ||| zwho (μ 26) 3 n : Nat) : Int))]) (rest := []) (ct_bitCount la g0 ad _ (zwho (μ 26) 2 n ||| zwho (μ 26) 3 n) (by first | exact z64 (zwho_lt _ _ _) hn6 | exact z64 (zin_lt _ _ _) hn6 | exact hb64)) (by decide) lk_X1_50 cd_J6_bitCount_0f7a4 rfl rfl (Nat.le_of_ble_eq_true rfl) dX1_lost_11 ?_
  exact z_iretd K T rfl dX1_lost_14 rfl rfl
set_option maxHeartbeats 4000000 in
set_option maxRecDepth 100000 in
theorem ct_daysLeft_t (la : Launch) (g0 : zG) (ad : Nat → Nat) (μ : zMem) (n nc : Nat) (hp : zPlan μ n nc) (hv : zHW n nc (μ 26)) (l : Nat) (hl : l < n) : zCon la g0 yX1_daysLeft cX1_daysLeft 5 (some .int) 0 ad zSH [.ref (ad 25), .int (zi ((l : Nat) : Int))] μ (zPd μ (zdl n (μ 13) (μ 14) (μ 26) l)) := by
  refine zCon_of (by decide +kernel) (Nat.le_of_ble_eq_true rfl) ?_
  intro χ K T hl1 hg1
  have K : zOk χ cX1_daysLeft RX1 5 0 (some .int) := K
  obtain ⟨hn, hn6, hnc, hnc3, hpl, hpk⟩ := id hp
  obtain ⟨hv1, hv2, hv3, hv4⟩ := id hv
  have hpp := hpl l hl
  have hvv := hv1 l hl
  show zV χ 5 ad zSH 0 0 0 [(0, .ref (ad 25)), (1, .int (zi ((l : Nat) : Int)))] [] μ
  refine z_aload_n K dX1_daysLeft_0 rfl ?_
  refine z_get (k := 25) (v := .ref (ad 10)) K dX1_daysLeft_1 fl_X1_18 rfl rfl rfl ?_
  refine z_get (k := 10) (v := .ref (ad 14)) K dX1_daysLeft_4 fl_X1_58 rfl rfl rfl ?_
  refine z_iload_n K dX1_daysLeft_7 rfl ?_
  refine z_iald (k := 14) (v := μ 14 l) K dX1_daysLeft_8 l rfl (by decide) (by omega) (by omega) rfl ?_
  refine z_aload_n K dX1_daysLeft_9 rfl ?_
  refine z_get (k := 25) (v := .ref (ad 26)) K dX1_daysLeft_10 fl_X1_11 rfl rfl rfl ?_
  refine z_bipush K dX1_daysLeft_13 (by decide +kernel) ?_
  refine z_iload_n K dX1_daysLeft_15 rfl ?_
  refine z_iadd K dX1_daysLeft_16 ?_
  refine z_iald (k := 26) (v := μ 26 (6 + l)) K dX1_daysLeft_17 (6 + l) rfl (by decide) (by omega) (by omega) rfl ?_
  refine z_isub K dX1_daysLeft_18 ?_
  refine z_istore_n (lv' := [(0, .ref (ad 25)), (1, .int (zi ((l : Nat) : Int))), (2, .int (zi ((μ 14 l) - (μ 26 (6 + l)))))]) K dX1_daysLeft_19 (by decide) rfl ?_
  refine z_aload_n K dX1_daysLeft_20 rfl ?_
  refine z_get (k := 25) (v := .ref (ad 10)) K dX1_daysLeft_21 fl_X1_18 rfl rfl rfl ?_
  refine z_get (k := 10) (v := .ref (ad 13)) K dX1_daysLeft_24 fl_X1_61 rfl rfl rfl ?_
  refine z_iload_n K dX1_daysLeft_27 rfl ?_
  refine z_iald (k := 13) (v := μ 13 l) K dX1_daysLeft_28 l rfl (by decide) (by omega) (by omega) rfl ?_
  refine z_iconst K dX1_daysLeft_29 ?_
  refine z_icmpne (tgt := 98) K dX1_daysLeft_30 (by decide) (by omega) ⟨by decide, by decide⟩ (fun h30 => ?_) (fun h30 => ?_)
  · refine z_iload_n K dX1_daysLeft_98 rfl ?_
    refine z_ifge (tgt := 106) K dX1_daysLeft_99 (by decide) (by omega) (fun h99 => ?_) (fun h99 => ?_)
    · refine z_iload_n K dX1_daysLeft_106 rfl ?_
      exact z_iretd K T rfl dX1_daysLeft_107 (by
          unfold zdl
          rw [if_neg h30]
          omega) rfl
    · refine z_iconst K dX1_daysLeft_102 ?_
      refine z_goto (tgt := 107) K dX1_daysLeft_103 (by decide) ?_
      exact z_iretd K T rfl dX1_daysLeft_107 (by
          unfold zdl
          rw [if_neg h30]
          omega) rfl
  · refine z_aload_n K dX1_daysLeft_33 rfl ?_
    refine z_get (k := 25) (v := .ref (ad 26)) K dX1_daysLeft_34 fl_X1_11 rfl rfl rfl ?_
    refine z_iconst K dX1_daysLeft_37 ?_
    refine z_iload_n K dX1_daysLeft_38 rfl ?_
    refine z_iadd K dX1_daysLeft_39 ?_
    refine z_iald (k := 26) (v := μ 26 l) K dX1_daysLeft_40 l rfl (by decide) (by omega) (by omega) rfl ?_
    refine z_istore_n (lv' := [(0, .ref (ad 25)), (1, .int (zi ((l : Nat) : Int))), (2, .int (zi ((μ 14 l) - (μ 26 (6 + l))))), (3, .int (zi (μ 26 l)))]) K dX1_daysLeft_41 (by decide) rfl ?_
    refine z_iconst K dX1_daysLeft_42 ?_
    refine z_istore (lv' := [(0, .ref (ad 25)), (1, .int (zi ((l : Nat) : Int))), (2, .int (zi ((μ 14 l) - (μ 26 (6 + l))))), (3, .int (zi (μ 26 l))), (4, .int (zi (0 : Int)))]) K dX1_daysLeft_43 (by decide) rfl ?_
    have L45 : ∀ o, o ≤ n → zV χ 5 ad zSH 0 0 45 [(0, .ref (ad 25)), (1, .int (zi ((l : Nat) : Int))), (2, .int (zi (μ 14 l - μ 26 (6 + l) + (zcnt (μ 26) l o : Nat)))), (3, .int (zi (μ 26 l))), (4, .int (zi ((o : Nat) : Int)))] [] μ := by
      refine zfor ?_
      intro o ho ih
      refine z_iload K dX1_daysLeft_45 rfl ?_
      refine z_aload_n K dX1_daysLeft_47 rfl ?_
      refine z_get (k := 25) (v := .ref (ad 10)) K dX1_daysLeft_48 fl_X1_18 rfl rfl rfl ?_
      refine z_get (k := 10) (v := .int (zi (μ 10 0))) K dX1_daysLeft_51 fl_X1_22 rfl rfl rfl ?_
      refine z_icmpge (tgt := 98) K dX1_daysLeft_54 (by decide) (by omega) (by omega) (fun h54 => ?_) (fun h54 => ?_)
      · have hcn := zcnt_le (μ 26) l o
        refine z_iload_n K dX1_daysLeft_98 rfl ?_
        refine z_ifge (tgt := 106) K dX1_daysLeft_99 (by decide) (by omega) (fun h99 => ?_) (fun h99 => ?_)
        · refine z_iload_n K dX1_daysLeft_106 rfl ?_
          exact z_iretd K T rfl dX1_daysLeft_107 (by
              unfold zdl
              rw [if_pos h30, show n = o by omega]
              omega) rfl
        · refine z_iconst K dX1_daysLeft_102 ?_
          refine z_goto (tgt := 107) K dX1_daysLeft_103 (by decide) ?_
          exact z_iretd K T rfl dX1_daysLeft_107 (by
              unfold zdl
              rw [if_pos h30, show n = o by omega]
              omega) rfl
      · have hfo := hv1 o (by omega)
        have hcn := zcnt_le (μ 26) l o
        refine z_iload K dX1_daysLeft_57 rfl ?_
        refine z_iload_n K dX1_daysLeft_59 rfl ?_
        refine z_icmpeq (tgt := 92) K dX1_daysLeft_60 (by decide) (by omega) (by omega) (fun h60 => ?_) (fun h60 => ?_)
        · refine z_iincN (lv' := [(0, .ref (ad 25)), (1, .int (zi ((l : Nat) : Int))), (2, .int (zi (μ 14 l - μ 26 (6 + l) + (zcnt (μ 26) l o : Nat)))), (3, .int (zi (μ 26 l))), (4, .int (zi ((o + 1 : Nat) : Int)))]) K dX1_daysLeft_92 rfl (by decide) rfl ?_
          refine z_goto (tgt := 45) K dX1_daysLeft_95 (by decide) ?_
          have e9 : μ 14 l - μ 26 (6 + l) + (zcnt (μ 26) l o : Nat) = μ 14 l - μ 26 (6 + l) + (zcnt (μ 26) l (o + 1) : Nat) := by
            rw [zcnt_s]
            rw [if_neg (by omega)]
          rw [e9]
          exact ih (o + 1) (by omega) (by omega)
        · refine z_aload_n K dX1_daysLeft_63 rfl ?_
          refine z_get (k := 25) (v := .ref (ad 26)) K dX1_daysLeft_64 fl_X1_11 rfl rfl rfl ?_
          refine z_bipush K dX1_daysLeft_67 (by decide +kernel) ?_
          refine z_iload K dX1_daysLeft_69 rfl ?_
          refine z_iadd K dX1_daysLeft_71 ?_
          refine z_iald (k := 26) (v := μ 26 (12 + o)) K dX1_daysLeft_72 (12 + o) rfl (by decide) (by omega) (by omega) rfl ?_
          refine z_ifne (tgt := 92) K dX1_daysLeft_73 (by decide) (by omega) (fun h73 => ?_) (fun h73 => ?_)
          · refine z_iincN (lv' := [(0, .ref (ad 25)), (1, .int (zi ((l : Nat) : Int))), (2, .int (zi (μ 14 l - μ 26 (6 + l) + (zcnt (μ 26) l o : Nat)))), (3, .int (zi (μ 26 l))), (4, .int (zi ((o + 1 : Nat) : Int)))]) K dX1_daysLeft_92 rfl (by decide) rfl ?_
            refine z_goto (tgt := 45) K dX1_daysLeft_95 (by decide) ?_
            have e9 : μ 14 l - μ 26 (6 + l) + (zcnt (μ 26) l o : Nat) = μ 14 l - μ 26 (6 + l) + (zcnt (μ 26) l (o + 1) : Nat) := by
              rw [zcnt_s]
              rw [if_neg (by omega)]
            rw [e9]
            exact ih (o + 1) (by omega) (by omega)
          · refine z_aload_n K dX1_daysLeft_76 rfl ?_
            refine z_get (k := 25) (v := .ref (ad 26)) K dX1_daysLeft_77 fl_X1_11 rfl rfl rfl ?_
            refine z_iconst K dX1_daysLeft_80 ?_
            refine z_iload K dX1_daysLeft_81 rfl ?_
            refine z_iadd K dX1_daysLeft_83 ?_
            refine z_iald (k := 26) (v := μ 26 o) K dX1_daysLeft_84 o rfl (by decide) (by omega) (by omega) rfl ?_
            refine z_iload_n K dX1_daysLeft_85 rfl ?_
            refine z_icmpne (tgt := 92) K dX1_daysLeft_86 (by decide) (by omega) (by omega) (fun h86 => ?_) (fun h86 => ?_)
            · refine z_iincN (lv' := [(0, .ref (ad 25)), (1, .int (zi ((l : Nat) : Int))), (2, .int (zi (μ 14 l - μ 26 (6 + l) + (zcnt (μ 26) l o : Nat)))), (3, .int (zi (μ 26 l))), (4, .int (zi ((o + 1 : Nat) : Int)))]) K dX1_daysLeft_92 rfl (by decide) rfl ?_
              refine z_goto (tgt := 45) K dX1_daysLeft_95 (by decide) ?_
              have e9 : μ 14 l - μ 26 (6 + l) + (zcnt (μ 26) l o : Nat) = μ 14 l - μ 26 (6 + l) + (zcnt (μ 26) l (o + 1) : Nat) := by
                rw [zcnt_s]
                rw [if_neg (by omega)]
              rw [e9]
              exact ih (o + 1) (by omega) (by omega)
            · refine z_iinc (lv' := [(0, .ref (ad 25)), (1, .int (zi ((l : Nat) : Int))), (2, .int (zi (μ 14 l - μ 26 (6 + l) + (zcnt (μ 26) l o : Nat) + (1 : Int)))), (3, .int (zi (μ 26 l))), (4, .int (zi ((o : Nat) : Int)))]) K dX1_daysLeft_89 rfl (by decide) rfl ?_
              refine z_iincN (lv' := [(0, .ref (ad 25)), (1, .int (zi ((l : Nat) : Int))), (2, .int (zi (μ 14 l - μ 26 (6 + l) + (zcnt (μ 26) l o : Nat) + (1 : Int)))), (3, .int (zi (μ 26 l))), (4, .int (zi ((o + 1 : Nat) : Int)))]) K dX1_daysLeft_92 rfl (by decide) rfl ?_
              refine z_goto (tgt := 45) K dX1_daysLeft_95 (by decide) ?_
              have e9 : μ 14 l - μ 26 (6 + l) + (zcnt (μ 26) l o : Nat) + (1 : Int) = μ 14 l - μ 26 (6 + l) + (zcnt (μ 26) l (o + 1) : Nat) := by
                rw [zcnt_s]
                rw [if_pos ⟨by omega, by omega, by omega⟩]; omega
              rw [e9]
              exact ih (o + 1) (by omega) (by omega)
    have e9 : (μ 14 l) - (μ 26 (6 + l)) = μ 14 l - μ 26 (6 + l) + (zcnt (μ 26) l 0 : Nat) := by unfold zcnt; omega
    rw [e9]
    exact L45 0 (by omega)
set_option maxHeartbeats 4000000 in
set_option maxRecDepth 100000 in
theorem ct_fateOf_t (la : Launch) (g0 : zG) (ad : Nat → Nat) (μ : zMem) (n nc : Nat) (hp : zPlan μ n nc) (hv : zHW n nc (μ 26)) (l : Nat) (hl : l < n) : zCon la g0 yX1_fateOf cX1_fateOf 2 (some .int) 0 ad zSH [.ref (ad 25), .int (zi ((l : Nat) : Int))] μ (zPd μ (μ 26 (12 + l))) := by
  refine zCon_of (by decide +kernel) (Nat.le_of_ble_eq_true rfl) ?_
  intro χ K T hl1 hg1
  have K : zOk χ cX1_fateOf RX1 2 0 (some .int) := K
  obtain ⟨hn, hn6, hnc, hnc3, hpl, hpk⟩ := id hp
  obtain ⟨hv1, hv2, hv3, hv4⟩ := id hv
  show zV χ 2 ad zSH 0 0 0 [(0, .ref (ad 25)), (1, .int (zi ((l : Nat) : Int)))] [] μ
  refine z_aload_n K dX1_fateOf_0 rfl ?_
  refine z_get (k := 25) (v := .ref (ad 26)) K dX1_fateOf_1 fl_X1_11 rfl rfl rfl ?_
  refine z_bipush K dX1_fateOf_4 (by decide +kernel) ?_
  refine z_iload_n K dX1_fateOf_6 rfl ?_
  refine z_iadd K dX1_fateOf_7 ?_
  refine z_iald (k := 26) (v := μ 26 (12 + l)) K dX1_fateOf_8 (12 + l) rfl (by decide) (by omega) (by omega) rfl ?_
  exact z_iretd K T rfl dX1_fateOf_9 rfl rfl
set_option maxHeartbeats 4000000 in
set_option maxRecDepth 100000 in
theorem ct_canPut_t (la : Launch) (g0 : zG) (ad : Nat → Nat) (μ : zMem) (n nc : Nat) (hp : zPlan μ n nc) (hv : zHW n nc (μ 26)) (x y : Int) (hx : zR x) (hy : zR y) : zCon la g0 yX1_canPut cX1_canPut 3 (some .boolean) 1 ad zSH [.ref (ad 25), .int (zi x), .int (zi y)] μ (zPd μ (if (0 ≤ x ∧ x < (n : Int)) ∧ (0 ≤ y ∧ y < 12) ∧ μ 26 (12 + x.toNat) = 0 ∧ μ 26 x.toNat ≠ y ∧ zpop (zin (μ 26) y n) < 2 then 1 else 0)) := by
  refine zCon_of (by decide +kernel) (Nat.le_of_ble_eq_true rfl) ?_
  intro χ K T hl1 hg1
  have K : zOk χ cX1_canPut RX1 3 1 (some .boolean) := K
  obtain ⟨hn, hn6, hnc, hnc3, hpl, hpk⟩ := id hp
  obtain ⟨hv1, hv2, hv3, hv4⟩ := id hv
  show zV χ 3 ad zSH 0 0 0 [(0, .ref (ad 25)), (1, .int (zi x)), (2, .int (zi y))] [] μ
  refine z_aload_n K dX1_canPut_0 rfl ?_
  refine z_get (k := 25) (v := .ref (ad 10)) K dX1_canPut_1 fl_X1_18 rfl rfl rfl ?_
  refine z_iload_n K dX1_canPut_4 rfl ?_
  refine z_callVd K hl1 hg1 (kb := 10) (As := [.int (zi x)]) (rest := []) (ct_hasLetter la g0 ad _ n nc hp x hx) (by decide) lk_X1_64 cd_X4_hasLetter rfl rfl rfl rfl (Nat.le_of_ble_eq_true rfl) dX1_canPut_5 ?_
  refine z_ifeq (tgt := 58) K dX1_canPut_8 (by decide) (by omega) (fun h8 => ?_) (fun h8 => ?_)
  · refine z_iconst K dX1_canPut_58 ?_
    exact z_zretd K T rfl dX1_canPut_59 (Or.inl rfl) (if_neg (by omega)).symm rfl
  · refine z_iload_n K dX1_canPut_11 rfl ?_
    refine z_callSd K hl1 hg1 (As := [.int (zi y)]) (rest := []) (ct_isHole la g0 ad _ y hy) (by decide) lk_X1_68 cd_X8_isHole rfl rfl (Nat.le_of_ble_eq_true rfl) dX1_canPut_12 ?_
    refine z_ifeq (tgt := 58) K dX1_canPut_15 (by decide) (by omega) (fun h15 => ?_) (fun h15 => ?_)
    · refine z_iconst K dX1_canPut_58 ?_
      exact z_zretd K T rfl dX1_canPut_59 (Or.inl rfl) (if_neg (by omega)).symm rfl
    · have hfl := hv1 x.toNat (by omega)
      refine z_aload_n K dX1_canPut_18 rfl ?_
      refine z_get (k := 25) (v := .ref (ad 26)) K dX1_canPut_19 fl_X1_11 rfl rfl rfl ?_
      refine z_bipush K dX1_canPut_22 (by decide +kernel) ?_
      refine z_iload_n K dX1_canPut_24 rfl ?_
      refine z_iadd K dX1_canPut_25 ?_
      refine z_iald (k := 26) (v := μ 26 (12 + x.toNat)) K dX1_canPut_26 (12 + x.toNat) rfl (by decide) (by omega) (by omega) rfl ?_
      refine z_ifne (tgt := 58) K dX1_canPut_27 (by decide) (by omega) (fun h27 => ?_) (fun h27 => ?_)
      · refine z_iconst K dX1_canPut_58 ?_
        exact z_zretd K T rfl dX1_canPut_59 (Or.inl rfl) (if_neg (by omega)).symm rfl
      · refine z_aload_n K dX1_canPut_30 rfl ?_
        refine z_get (k := 25) (v := .ref (ad 26)) K dX1_canPut_31 fl_X1_11 rfl rfl rfl ?_
        refine z_iconst K dX1_canPut_34 ?_
        refine z_iload_n K dX1_canPut_35 rfl ?_
        refine z_iadd K dX1_canPut_36 ?_
        refine z_iald (k := 26) (v := μ 26 x.toNat) K dX1_canPut_37 x.toNat rfl (by decide) (by omega) (by omega) rfl ?_
        refine z_iload_n K dX1_canPut_38 rfl ?_
        refine z_icmpeq (tgt := 58) K dX1_canPut_39 (by decide) (by omega) (by omega) (fun h39 => ?_) (fun h39 => ?_)
        · refine z_iconst K dX1_canPut_58 ?_
          exact z_zretd K T rfl dX1_canPut_59 (Or.inl rfl) (if_neg (by omega)).symm rfl
        · refine z_aload_n K dX1_canPut_42 rfl ?_
          refine z_iload_n K dX1_canPut_43 rfl ?_
          refine z_callVd K hl1 hg1 (kb := 25) (As := [.int (zi y)]) (rest := []) (ct_whoIsIn_t la g0 ad _ n nc hp hv y hy) (by decide) lk_X1_55 cd_X1_whoIsIn rfl rfl rfl rfl (Nat.le_of_ble_eq_true rfl) dX1_canPut_44 ?_
          refine z_callSd K hl1 hg1 (As := [.int (zi ((zin (μ 26) y n : Nat) : Int))]) (rest := []) (ct_bitCount la g0 ad _ (zin (μ 26) y n) (by first | exact z64 (zwho_lt _ _ _) hn6 | exact z64 (zin_lt _ _ _) hn6 | exact hb64)) (by decide) lk_X1_50 cd_J6_bitCount_0f7a4 rfl rfl (Nat.le_of_ble_eq_true rfl) dX1_canPut_47 ?_
          have hq6 := zpop_le (zin (μ 26) y n)
          refine z_iconst K dX1_canPut_50 ?_
          refine z_icmpge (tgt := 58) K dX1_canPut_51 (by decide) (by omega) ⟨by decide, by decide⟩ (fun h51 => ?_) (fun h51 => ?_)
          · refine z_iconst K dX1_canPut_58 ?_
            exact z_zretd K T rfl dX1_canPut_59 (Or.inl rfl) (if_neg (by omega)).symm rfl
          · refine z_iconst K dX1_canPut_54 ?_
            refine z_goto (tgt := 59) K dX1_canPut_55 (by decide) ?_
            exact z_zretd K T rfl dX1_canPut_59 (Or.inr rfl) (if_pos ⟨by omega, by omega, by omega, by omega, by omega⟩).symm rfl
set_option maxHeartbeats 4000000 in
set_option maxRecDepth 100000 in
theorem ct_canSend_t (la : Launch) (g0 : zG) (ad : Nat → Nat) (μ : zMem) (n nc : Nat) (hp : zPlan μ n nc) (hv : zHW n nc (μ 26)) (x y : Int) (hx : zR x) (hy : zR y) : zCon la g0 yX1_canSend cX1_canSend 3 (some .boolean) 1 ad zSH [.ref (ad 25), .int (zi x), .int (zi y)] μ (zPd μ (if (0 ≤ x ∧ x < (nc : Int)) ∧ (0 ≤ y ∧ y < 3) ∧ μ 26 (18 + x.toNat) ≠ y then 1 else 0)) := by
  refine zCon_of (by decide +kernel) (Nat.le_of_ble_eq_true rfl) ?_
  intro χ K T hl1 hg1
  have K : zOk χ cX1_canSend RX1 3 1 (some .boolean) := K
  obtain ⟨hn, hn6, hnc, hnc3, hpl, hpk⟩ := id hp
  obtain ⟨hv1, hv2, hv3, hv4⟩ := id hv
  show zV χ 3 ad zSH 0 0 0 [(0, .ref (ad 25)), (1, .int (zi x)), (2, .int (zi y))] [] μ
  refine z_aload_n K dX1_canSend_0 rfl ?_
  refine z_get (k := 25) (v := .ref (ad 10)) K dX1_canSend_1 fl_X1_18 rfl rfl rfl ?_
  refine z_iload_n K dX1_canSend_4 rfl ?_
  refine z_callVd K hl1 hg1 (kb := 10) (As := [.int (zi x)]) (rest := []) (ct_hasClerk la g0 ad _ n nc hp x hx) (by decide) lk_X1_71 cd_X4_hasClerk rfl rfl rfl rfl (Nat.le_of_ble_eq_true rfl) dX1_canSend_5 ?_
  refine z_ifeq (tgt := 35) K dX1_canSend_8 (by decide) (by omega) (fun h8 => ?_) (fun h8 => ?_)
  · refine z_iconst K dX1_canSend_35 ?_
    exact z_zretd K T rfl dX1_canSend_36 (Or.inl rfl) (if_neg (by omega)).symm rfl
  · refine z_iload_n K dX1_canSend_11 rfl ?_
    refine z_callSd K hl1 hg1 (As := [.int (zi y)]) (rest := []) (ct_isRow la g0 ad _ y hy) (by decide) lk_X1_74 cd_X8_isRow rfl rfl (Nat.le_of_ble_eq_true rfl) dX1_canSend_12 ?_
    refine z_ifeq (tgt := 35) K dX1_canSend_15 (by decide) (by omega) (fun h15 => ?_) (fun h15 => ?_)
    · refine z_iconst K dX1_canSend_35 ?_
      exact z_zretd K T rfl dX1_canSend_36 (Or.inl rfl) (if_neg (by omega)).symm rfl
    · have hfl := hv2 x.toNat (by omega)
      refine z_aload_n K dX1_canSend_18 rfl ?_
      refine z_get (k := 25) (v := .ref (ad 26)) K dX1_canSend_19 fl_X1_11 rfl rfl rfl ?_
      refine z_bipush K dX1_canSend_22 (by decide +kernel) ?_
      refine z_iload_n K dX1_canSend_24 rfl ?_
      refine z_iadd K dX1_canSend_25 ?_
      refine z_iald (k := 26) (v := μ 26 (18 + x.toNat)) K dX1_canSend_26 (18 + x.toNat) rfl (by decide) (by omega) (by omega) rfl ?_
      refine z_iload_n K dX1_canSend_27 rfl ?_
      refine z_icmpeq (tgt := 35) K dX1_canSend_28 (by decide) (by omega) (by omega) (fun h28 => ?_) (fun h28 => ?_)
      · refine z_iconst K dX1_canSend_35 ?_
        exact z_zretd K T rfl dX1_canSend_36 (Or.inl rfl) (if_neg (by omega)).symm rfl
      · refine z_iconst K dX1_canSend_31 ?_
        refine z_goto (tgt := 36) K dX1_canSend_32 (by decide) ?_
        exact z_zretd K T rfl dX1_canSend_36 (Or.inr rfl) (if_pos ⟨by omega, by omega, by omega⟩).symm rfl
set_option maxHeartbeats 4000000 in
set_option maxRecDepth 100000 in
theorem ct_holeOf (la : Launch) (g0 : zG) (ad : Nat → Nat) (μ : zMem) (n nc : Nat) (hp : zPlan μ n nc) (hv : zHW n nc (μ 18)) (l : Nat) (hl : l < n) : zCon la g0 yX1_holeOf cX1_holeOf 2 (some .int) 0 ad zSH [.ref (ad 17), .int (zi ((l : Nat) : Int))] μ (zPd μ (μ 18 (l))) := by
  refine zCon_of (by decide +kernel) (Nat.le_of_ble_eq_true rfl) ?_
  intro χ K T hl1 hg1
  have K : zOk χ cX1_holeOf RX1 2 0 (some .int) := K
  obtain ⟨hn, hn6, hnc, hnc3, hpl, hpk⟩ := id hp
  obtain ⟨hv1, hv2, hv3, hv4⟩ := id hv
  show zV χ 2 ad zSH 0 0 0 [(0, .ref (ad 17)), (1, .int (zi ((l : Nat) : Int)))] [] μ
  refine z_aload_n K dX1_holeOf_0 rfl ?_
  refine z_get (k := 17) (v := .ref (ad 18)) K dX1_holeOf_1 fl_X1_11 rfl rfl rfl ?_
  refine z_iconst K dX1_holeOf_4 ?_
  refine z_iload_n K dX1_holeOf_5 rfl ?_
  refine z_iadd K dX1_holeOf_6 ?_
  refine z_iald (k := 18) (v := μ 18 l) K dX1_holeOf_7 l rfl (by decide) (by omega) (by omega) rfl ?_
  exact z_iretd K T rfl dX1_holeOf_8 rfl rfl
set_option maxHeartbeats 4000000 in
set_option maxRecDepth 100000 in
theorem ct_waitedOf (la : Launch) (g0 : zG) (ad : Nat → Nat) (μ : zMem) (n nc : Nat) (hp : zPlan μ n nc) (hv : zHW n nc (μ 18)) (l : Nat) (hl : l < n) : zCon la g0 yX1_waitedOf cX1_waitedOf 2 (some .int) 0 ad zSH [.ref (ad 17), .int (zi ((l : Nat) : Int))] μ (zPd μ (μ 18 (6 + l))) := by
  refine zCon_of (by decide +kernel) (Nat.le_of_ble_eq_true rfl) ?_
  intro χ K T hl1 hg1
  have K : zOk χ cX1_waitedOf RX1 2 0 (some .int) := K
  obtain ⟨hn, hn6, hnc, hnc3, hpl, hpk⟩ := id hp
  obtain ⟨hv1, hv2, hv3, hv4⟩ := id hv
  show zV χ 2 ad zSH 0 0 0 [(0, .ref (ad 17)), (1, .int (zi ((l : Nat) : Int)))] [] μ
  refine z_aload_n K dX1_waitedOf_0 rfl ?_
  refine z_get (k := 17) (v := .ref (ad 18)) K dX1_waitedOf_1 fl_X1_11 rfl rfl rfl ?_
  refine z_bipush K dX1_waitedOf_4 (by decide +kernel) ?_
  refine z_iload_n K dX1_waitedOf_6 rfl ?_
  refine z_iadd K dX1_waitedOf_7 ?_
  refine z_iald (k := 18) (v := μ 18 (6 + l)) K dX1_waitedOf_8 (6 + l) rfl (by decide) (by omega) (by omega) rfl ?_
  exact z_iretd K T rfl dX1_waitedOf_9 rfl rfl
set_option maxHeartbeats 4000000 in
set_option maxRecDepth 100000 in
theorem ct_rowOf (la : Launch) (g0 : zG) (ad : Nat → Nat) (μ : zMem) (n nc : Nat) (hp : zPlan μ n nc) (hv : zHW n nc (μ 18)) (l : Nat) (hl : l < nc) : zCon la g0 yX1_rowOf cX1_rowOf 2 (some .int) 0 ad zSH [.ref (ad 17), .int (zi ((l : Nat) : Int))] μ (zPd μ (μ 18 (18 + l))) := by
  refine zCon_of (by decide +kernel) (Nat.le_of_ble_eq_true rfl) ?_
  intro χ K T hl1 hg1
  have K : zOk χ cX1_rowOf RX1 2 0 (some .int) := K
  obtain ⟨hn, hn6, hnc, hnc3, hpl, hpk⟩ := id hp
  obtain ⟨hv1, hv2, hv3, hv4⟩ := id hv
  show zV χ 2 ad zSH 0 0 0 [(0, .ref (ad 17)), (1, .int (zi ((l : Nat) : Int)))] [] μ
  refine z_aload_n K dX1_rowOf_0 rfl ?_
  refine z_get (k := 17) (v := .ref (ad 18)) K dX1_rowOf_1 fl_X1_11 rfl rfl rfl ?_
  refine z_bipush K dX1_rowOf_4 (by decide +kernel) ?_
  refine z_iload_n K dX1_rowOf_6 rfl ?_
  refine z_iadd K dX1_rowOf_7 ?_
  refine z_iald (k := 18) (v := μ 18 (18 + l)) K dX1_rowOf_8 (18 + l) rfl (by decide) (by omega) (by omega) rfl ?_
  exact z_iretd K T rfl dX1_rowOf_9 rfl rfl
set_option maxHeartbeats 4000000 in
set_option maxRecDepth 100000 in
theorem ct_grain (la : Launch) (g0 : zG) (ad : Nat → Nat) (μ : zMem)  : zCon la g0 yX1_grain cX1_grain 1 (some .int) 0 ad zSH [.ref (ad 17)] μ (zPd μ (μ 18 21)) := by
  refine zCon_of (by decide +kernel) (Nat.le_of_ble_eq_true rfl) ?_
  intro χ K T hl1 hg1
  have K : zOk χ cX1_grain RX1 1 0 (some .int) := K
  show zV χ 1 ad zSH 0 0 0 [(0, .ref (ad 17))] [] μ
  refine z_aload_n K dX1_grain_0 rfl ?_
  refine z_get (k := 17) (v := .ref (ad 18)) K dX1_grain_1 fl_X1_11 rfl rfl rfl ?_
  refine z_bipush K dX1_grain_4 (by decide +kernel) ?_
  refine z_iald (k := 18) (v := μ 18 21) K dX1_grain_6 21 rfl (by decide) (by omega) (by omega) rfl ?_
  exact z_iretd K T rfl dX1_grain_7 rfl rfl
set_option maxHeartbeats 4000000 in
set_option maxRecDepth 100000 in
theorem ct_theDay (la : Launch) (g0 : zG) (ad : Nat → Nat) (μ : zMem)  : zCon la g0 yX1_theDay cX1_theDay 1 (some .int) 0 ad zSH [.ref (ad 17)] μ (zPd μ (μ 18 22)) := by
  refine zCon_of (by decide +kernel) (Nat.le_of_ble_eq_true rfl) ?_
  intro χ K T hl1 hg1
  have K : zOk χ cX1_theDay RX1 1 0 (some .int) := K
  show zV χ 1 ad zSH 0 0 0 [(0, .ref (ad 17))] [] μ
  refine z_aload_n K dX1_theDay_0 rfl ?_
  refine z_get (k := 17) (v := .ref (ad 18)) K dX1_theDay_1 fl_X1_11 rfl rfl rfl ?_
  refine z_bipush K dX1_theDay_4 (by decide +kernel) ?_
  refine z_iald (k := 18) (v := μ 18 22) K dX1_theDay_6 22 rfl (by decide) (by omega) (by omega) rfl ?_
  exact z_iretd K T rfl dX1_theDay_7 rfl rfl
set_option maxHeartbeats 4000000 in
set_option maxRecDepth 100000 in
theorem ct_pairs (la : Launch) (g0 : zG) (ad : Nat → Nat) (μ : zMem) (n nc : Nat) (hp : zPlan μ n nc) (hv : zHW n nc (μ 18)) : zCon la g0 yX1_pairs cX1_pairs 4 (some .int) 1 ad zSH [.ref (ad 17)] μ (zPd μ ((zpair (μ 18) n 12 : Nat) : Int)) := by
  refine zCon_of (by decide +kernel) (Nat.le_of_ble_eq_true rfl) ?_
  intro χ K T hl1 hg1
  have K : zOk χ cX1_pairs RX1 4 1 (some .int) := K
  obtain ⟨hn, hn6, hnc, hnc3, hpl, hpk⟩ := id hp
  obtain ⟨hv1, hv2, hv3, hv4⟩ := id hv
  show zV χ 4 ad zSH 0 0 0 [(0, .ref (ad 17))] [] μ
  refine z_aload_n K dX1_pairs_0 rfl ?_
  refine z_iconst K dX1_pairs_1 ?_
  refine z_callVd K hl1 hg1 (kb := 17) (As := [.int (zi (2 : Int))]) (rest := []) (ct_who_n la g0 ad _ n nc hp hv 2 ⟨by decide, by decide⟩) (by decide) lk_X1_46 cd_X1_who rfl rfl rfl rfl (Nat.le_of_ble_eq_true rfl) dX1_pairs_2 ?_
  refine z_istore_n (lv' := [(0, .ref (ad 17)), (1, .int (zi ((zwho (μ 18) 2 n : Nat) : Int)))]) K dX1_pairs_5 (by decide) rfl ?_
  refine z_iconst K dX1_pairs_6 ?_
  refine z_istore_n (lv' := [(0, .ref (ad 17)), (1, .int (zi ((zwho (μ 18) 2 n : Nat) : Int))), (2, .int (zi (0 : Int)))]) K dX1_pairs_7 (by decide) rfl ?_
  refine z_iconst K dX1_pairs_8 ?_
  refine z_istore_n (lv' := [(0, .ref (ad 17)), (1, .int (zi ((zwho (μ 18) 2 n : Nat) : Int))), (2, .int (zi (0 : Int))), (3, .int (zi (0 : Int)))]) K dX1_pairs_9 (by decide) rfl ?_
  have L10 : ∀ h, h ≤ 12 → zV χ 4 ad zSH 0 0 10 [(0, .ref (ad 17)), (1, .int (zi ((zwho (μ 18) 2 n : Nat) : Int))), (2, .int (zi ((zpair (μ 18) n h : Nat) : Int))), (3, .int (zi ((h : Nat) : Int)))] [] μ := by
    refine zfor ?_
    intro h hh ih
    refine z_iload_n K dX1_pairs_10 rfl ?_
    refine z_bipush K dX1_pairs_11 (by decide +kernel) ?_
    refine z_icmpge (tgt := 42) K dX1_pairs_13 (by decide) (by omega) ⟨by decide, by decide⟩ (fun h13 => ?_) (fun h13 => ?_)
    · refine z_iload_n K dX1_pairs_42 rfl ?_
      exact z_iretd K T rfl dX1_pairs_43 (by rw [show h = 12 by omega]) rfl
    · refine z_aload_n K dX1_pairs_16 rfl ?_
      refine z_iload_n K dX1_pairs_17 rfl ?_
      refine z_callVd K hl1 hg1 (kb := 17) (As := [.int (zi ((h : Nat) : Int))]) (rest := []) (ct_whoIsIn_n la g0 ad _ n nc hp hv (h : Int) ⟨by omega, by omega⟩) (by decide) lk_X1_55 cd_X1_whoIsIn rfl rfl rfl rfl (Nat.le_of_ble_eq_true rfl) dX1_pairs_18 ?_
      refine z_iload_n K dX1_pairs_21 rfl ?_
      refine z_iandR (z := zi ((zin (μ 18) h n &&& zwho (μ 18) 2 n : Nat) : Int)) K dX1_pairs_22 (zb_and _ _) ?_
      have hb64 : zin (μ 18) h n &&& zwho (μ 18) 2 n < 64 := Nat.lt_of_le_of_lt Nat.and_le_left (z64 (zin_lt _ _ _) hn6)
      refine z_callSd K hl1 hg1 (As := [.int (zi ((zin (μ 18) h n &&& zwho (μ 18) 2 n : Nat) : Int))]) (rest := []) (ct_bitCount la g0 ad _ (zin (μ 18) h n &&& zwho (μ 18) 2 n) (by first | exact z64 (zwho_lt _ _ _) hn6 | exact z64 (zin_lt _ _ _) hn6 | exact hb64)) (by decide) lk_X1_50 cd_J6_bitCount_0f7a4 rfl rfl (Nat.le_of_ble_eq_true rfl) dX1_pairs_23 ?_
      have hq6 := zpop_le (zin (μ 18) h n &&& zwho (μ 18) 2 n)
      refine z_iconst K dX1_pairs_26 ?_
      refine z_icmplt (tgt := 36) K dX1_pairs_27 (by decide) (by omega) ⟨by decide, by decide⟩ (fun h27 => ?_) (fun h27 => ?_)
      · refine z_iincN (lv' := [(0, .ref (ad 17)), (1, .int (zi ((zwho (μ 18) 2 n : Nat) : Int))), (2, .int (zi ((zpair (μ 18) n h : Nat) : Int))), (3, .int (zi ((h + 1 : Nat) : Int)))]) K dX1_pairs_36 rfl (by decide) rfl ?_
        refine z_goto (tgt := 10) K dX1_pairs_39 (by decide) ?_
        have e9 : zpair (μ 18) n h = zpair (μ 18) n (h + 1) := by
          rw [zpair_s]
          rw [if_neg (by omega)]
        rw [e9]
        exact ih (h + 1) (by omega) (by omega)
      · refine z_iload_n K dX1_pairs_30 rfl ?_
        refine z_iconst K dX1_pairs_31 ?_
        refine z_iload_n K dX1_pairs_32 rfl ?_
        refine z_ishlR (z := zi ((2 ^ h : Nat) : Int)) K dX1_pairs_33 (zb_shl h (by omega)) ?_
        refine z_iorR (z := zi ((zpair (μ 18) n h ||| 2 ^ h : Nat) : Int)) K dX1_pairs_34 (zb_or _ _) ?_
        refine z_istore_n (lv' := [(0, .ref (ad 17)), (1, .int (zi ((zwho (μ 18) 2 n : Nat) : Int))), (2, .int (zi ((zpair (μ 18) n h ||| 2 ^ h : Nat) : Int))), (3, .int (zi ((h : Nat) : Int)))]) K dX1_pairs_35 (by decide) rfl ?_
        refine z_iincN (lv' := [(0, .ref (ad 17)), (1, .int (zi ((zwho (μ 18) 2 n : Nat) : Int))), (2, .int (zi ((zpair (μ 18) n h ||| 2 ^ h : Nat) : Int))), (3, .int (zi ((h + 1 : Nat) : Int)))]) K dX1_pairs_36 rfl (by decide) rfl ?_
        refine z_goto (tgt := 10) K dX1_pairs_39 (by decide) ?_
        have e9 : zpair (μ 18) n h ||| 2 ^ h = zpair (μ 18) n (h + 1) := by
          rw [zpair_s]
          rw [if_pos (by omega)]
        rw [e9]
        exact ih (h + 1) (by omega) (by omega)
  exact L10 0 (by omega)
end
section
-- what can be stays so
theorem zHW_fate {n nc : Nat} {c : Nat → Int} (hn : n ≤ 6) (h : zHW n nc c) {l : Nat} (hl : l < n) {v : Int} (hv : 0 ≤ v ∧ v ≤ 3) : zHW n nc (zu1 c (12 + l) v) := by
  obtain ⟨h1, h2, h3, h4⟩ := h
  refine ⟨fun l' hl' => ?_, fun k hk => ?_, ?_, ?_⟩
  · have := h1 l' hl'; simp only [zu1]; omega
  · have := h2 k hk; simp only [zu1]; omega
  · simp only [zu1]; omega
  · simp only [zu1]; omega
theorem zHW_hole {n nc : Nat} {c : Nat → Int} (hn : n ≤ 6) (h : zHW n nc c) {l : Nat} (hl : l < n) {v : Int} (hv : 0 ≤ v ∧ v < 12) : zHW n nc (zu1 c l v) := by
  obtain ⟨h1, h2, h3, h4⟩ := h
  refine ⟨fun l' hl' => ?_, fun k hk => ?_, ?_, ?_⟩
  · have := h1 l' hl'; simp only [zu1]; omega
  · have := h2 k hk; simp only [zu1]; omega
  · simp only [zu1]; omega
  · simp only [zu1]; omega
theorem zHW_wait {n nc : Nat} {c : Nat → Int} (hn : n ≤ 6) (h : zHW n nc c) {l : Nat} (hl : l < n) {v : Int} (hv : 0 ≤ v ∧ v ≤ 15) : zHW n nc (zu1 c (6 + l) v) := by
  obtain ⟨h1, h2, h3, h4⟩ := h
  refine ⟨fun l' hl' => ?_, fun k hk => ?_, ?_, ?_⟩
  · have := h1 l' hl'; simp only [zu1]; omega
  · have := h2 k hk; simp only [zu1]; omega
  · simp only [zu1]; omega
  · simp only [zu1]; omega
theorem zHW_row {n nc : Nat} {c : Nat → Int} (hn : n ≤ 6) (hc : nc ≤ 3) (h : zHW n nc c) {l : Nat} (hl : l < nc) {v : Int} (hv : 0 ≤ v ∧ v ≤ 3) : zHW n nc (zu1 c (18 + l) v) := by
  obtain ⟨h1, h2, h3, h4⟩ := h
  refine ⟨fun l' hl' => ?_, fun k hk => ?_, ?_, ?_⟩
  · have := h1 l' hl'; simp only [zu1]; omega
  · have := h2 k hk; simp only [zu1]; omega
  · simp only [zu1]; omega
  · simp only [zu1]; omega
theorem zHW_grain {n nc : Nat} {c : Nat → Int} (hn : n ≤ 6) (hc : nc ≤ 3) (h : zHW n nc c) {v : Int} (hv : 0 ≤ v ∧ v ≤ 99) : zHW n nc (zu1 c 21 v) := by
  obtain ⟨h1, h2, h3, h4⟩ := h
  refine ⟨fun l' hl' => ?_, fun k hk => ?_, ?_, ?_⟩
  · have := h1 l' hl'; simp only [zu1]; omega
  · have := h2 k hk; simp only [zu1]; omega
  · simp only [zu1]; omega
  · simp only [zu1]; omega
theorem zHW_day {n nc : Nat} {c : Nat → Int} (hn : n ≤ 6) (hc : nc ≤ 3) (h : zHW n nc c) {v : Int} : zHW n nc (zu1 c 22 v) := by
  obtain ⟨h1, h2, h3, h4⟩ := h
  refine ⟨fun l' hl' => ?_, fun k hk => ?_, ?_, ?_⟩
  · have := h1 l' hl'; simp only [zu1]; omega
  · have := h2 k hk; simp only [zu1]; omega
  · simp only [zu1]; omega
  · simp only [zu1]; omega
-- what a plan's functions must be
def zPK (n nc : Nat) (kd al an : Nat → Int) : Prop := n ≤ 6 ∧ nc ≤ 3 ∧ (∀ l, l < n → 0 ≤ kd l ∧ kd l ≤ 3 ∧ 1 ≤ al l ∧ al l ≤ 9) ∧ ∀ k, k < nc → 1 ≤ an k ∧ an k ≤ 3
theorem zPlan.pk {μ : zMem} {n nc : Nat} (h : zPlan μ n nc) : zPK n nc (μ 13) (μ 14) (μ 16) := ⟨h.2.1, h.2.2.2.1, h.2.2.2.2.1, h.2.2.2.2.2⟩
theorem zdl_rg {n nc : Nat} {kd al an c : Nat → Int} (hp : zPK n nc kd al an) (h : zHW n nc c) {l : Nat} (hl : l < n) : 0 ≤ zdl n kd al c l ∧ zdl n kd al c l ≤ 15 := by
  have h1 := hp.2.2.1 l hl
  have h2 := h.1 l hl
  have h3 := zcnt_le c l n
  have h4 := hp.1
  unfold zdl
  split <;> omega
theorem zmp_rg {n nc : Nat} {kd al an c : Nat → Int} (hp : zPK n nc kd al an) (h : zHW n nc c) (row : Int) : ∀ i, i ≤ n → ((zmp n kd al c row i).1 = -9 ∨ (0 ≤ (zmp n kd al c row i).1 ∧ (zmp n kd al c row i).1 < i ∧ c (12 + (zmp n kd al c row i).1.toNat) = 0)) ∧ 0 ≤ (zmp n kd al c row i).2 ∧ (zmp n kd al c row i).2 ≤ 15 := by
  intro i
  induction i with
  | zero => intro _; simp [zmp]
  | succ i ih =>
    intro hi
    have h1 := ih (by omega)
    have h2 := zdl_rg hp h (l := i) (by omega)
    rw [zmp_s]
    split
    · rename_i hc
      refine ⟨Or.inr ⟨?_, ?_, ?_⟩, ?_, ?_⟩
      · show (0 : Int) ≤ (i : Int); omega
      · show (i : Int) < ((i + 1 : Nat) : Int); omega
      · show c (12 + ((i : Int)).toNat) = 0
        rw [Int.toNat_natCast]; exact hc.1
      · exact h2.1
      · exact h2.2
    · obtain ⟨h1, h3⟩ := h1
      refine ⟨?_, h3⟩
      rcases h1 with h1 | h1
      · exact Or.inl h1
      · exact Or.inr ⟨h1.1, by have := h1.2.1; omega, h1.2.2⟩
theorem zca_ok {n nc : Nat} {kd al an : Nat → Int} (hp : zPK n nc kd al an) (k : Nat) : ∀ (r : Nat) (s : zS), zHW n nc s.1 → zHW n nc (zca n kd al k r s).1 := by
  intro r
  induction r with
  | zero => intro s h; exact h
  | succ r ih =>
    intro s h
    rw [zca_s]
    split
    · exact h
    · rename_i hne
      have h1 := zmp_rg hp h (s.1 (18 + k)) n (Nat.le_refl _)
      exact ih _ (zHW_fate hp.1 h (by omega) ⟨by decide, by decide⟩)
theorem zcl_ok {n nc : Nat} {kd al an : Nat → Int} (hp : zPK n nc kd al an) : ∀ (k : Nat) (s : zS), zHW n nc s.1 → zHW n nc (zcl n kd al an k s).1 := by
  intro k
  induction k with
  | zero => intro s h; exact h
  | succ k ih => intro s h; rw [zcl_s]; exact zca_ok hp k _ _ (ih s h)
/-- a state in which the letters from l on have yet to wait their day -/
theorem zwt_ok {n nc : Nat} {c : Nat → Int} (hn : n ≤ 6) (h : zHV n nc c) : ∀ l, l ≤ n → zHW n nc (zwt c l) ∧ (∀ o, l ≤ o → o < n → zwt c l (12 + o) = 0 → zwt c l (6 + o) ≤ 14) := by
  intro l
  induction l with
  | zero => intro _; exact ⟨h.1, fun o _ h1 => h.2 o h1⟩
  | succ l ih =>
    intro hl
    obtain ⟨h1, h2⟩ := ih (by omega)
    have h3 := h1.1 l (by omega)
    rw [zwt_s]
    split
    · rename_i hz
      have h4 := h2 l (by omega) (by omega) hz
      refine ⟨zHW_wait hn h1 (by omega) ⟨by omega, by omega⟩, fun o h5 h6 h7 => ?_⟩
      have h8 := h2 o (by omega) h6
      simp only [zu1] at h7 ⊢
      rw [if_neg (by omega)] at h7
      rw [if_neg (by omega)]
      exact h8 h7
    · exact ⟨h1, fun o h5 h6 h7 => h2 o (by omega) h6 h7⟩
theorem zpo_ok {n nc : Nat} {c : Nat → Int} (hn : n ≤ 6) (h : zHW n nc c) {x : Int} (hx : 4 ≤ x ∧ x < 12) : ∀ o, o ≤ n → zHW n nc (zpo c x o) := by
  intro o
  induction o with
  | zero => intro _; exact h
  | succ o ih =>
    intro ho
    rw [zpo_s]
    split
    · exact zHW_hole hn (ih (by omega)) (by omega) ⟨by omega, by omega⟩
    · exact ih (by omega)
theorem zhat_ok {n nc : Nat} {kd c : Nat → Int} (hn : n ≤ 6) (h : zHW n nc c) {l : Nat} (hl : l < n) : zHW n nc (zhat n kd c l) := by
  have h1 := h.1 l hl
  unfold zhat
  split
  · exact zpo_ok hn (zHW_fate hn h hl ⟨by decide, by decide⟩) ⟨by omega, by omega⟩ n (Nat.le_refl _)
  · exact zHW_fate hn h hl ⟨by decide, by decide⟩
theorem zpo_keep (c : Nat → Int) (x : Int) (n : Nat) (hn : n ≤ 6) : ∀ o, o ≤ n → ∀ j, 6 ≤ j → zpo c x o j = c j := by
  intro o
  induction o with
  | zero => intro _ j _; rfl
  | succ o ih =>
    intro ho j hj
    rw [zpo_s]
    split
    · rw [zu1_ne _ _ (by omega)]; exact ih (by omega) j hj
    · exact ih (by omega) j hj
theorem zhat_keep {n : Nat} {kd c : Nat → Int} (hn : n ≤ 6) (l : Nat) {j : Nat} (hj : 6 ≤ j) (hne : j ≠ 12 + l) : zhat n kd c l j = c j := by
  unfold zhat
  split
  · rw [zpo_keep _ _ n hn n (Nat.le_refl _) j hj, zu1_ne _ _ hne]
  · rw [zu1_ne _ _ hne]
theorem zhat_at {n : Nat} {kd c : Nat → Int} (hn : n ≤ 6) (l : Nat) : zhat n kd c l (12 + l) = 2 := by
  unfold zhat
  split
  · rw [zpo_keep _ _ n hn n (Nat.le_refl _) _ (by omega), zu1_eq]
  · rw [zu1_eq]
theorem zht_ok {n nc : Nat} {kd al an c : Nat → Int} (hp : zPK n nc kd al an) (h : zHW n nc c) : ∀ l, l ≤ n → zHW n nc (zht n kd al c l).1 ∧ (∀ o, o < l → (zht n kd al c l).1 (12 + o) = 0 → (zht n kd al c l).1 (6 + o) ≤ 14) ∧ (zht n kd al c l).2 ≤ l := by
  intro l
  induction l with
  | zero => intro _; exact ⟨h, fun o h1 => absurd h1 (by omega), Nat.le_refl _⟩
  | succ l ih =>
    intro hl
    obtain ⟨h1, h2, h3⟩ := ih (by omega)
    rw [zht_s]
    split
    · refine ⟨zhat_ok hp.1 h1 (by omega), fun o h4 h5 => ?_, by show _ + 1 ≤ l + 1; omega⟩
      have h5 : zhat n kd (zht n kd al c l).1 l (12 + o) = 0 := h5
      show zhat n kd (zht n kd al c l).1 l (6 + o) ≤ 14
      by_cases ho : o = l
      · subst ho
        rw [zhat_at hp.1] at h5
        exact absurd h5 (by decide)
      · rw [zhat_keep hp.1 l (by omega) (by omega)] at h5 ⊢
        exact h2 o (by omega) h5
    · rename_i hne
      refine ⟨h1, fun o h4 h5 => ?_, by omega⟩
      by_cases ho : o = l
      · subst ho
        have h6 : ¬ zdl n kd al (zht n kd al c o).1 o = 0 := fun q => hne ⟨h5, q⟩
        have h7 := hp.2.2.1 o (by omega)
        have h8 := zcnt_le (zht n kd al c o).1 o n
        have h9 := hp.1
        unfold zdl at h6
        split at h6 <;> omega
      · exact h2 o (by omega) h5
theorem zeat_ok {n nc : Nat} {c : Nat → Int} (hn : n ≤ 6) (hc : nc ≤ 3) (h : zHV n nc c) : ∀ l, l ≤ n → zHV n nc (zeat c l) := by
  intro l
  induction l with
  | zero => intro _; exact h
  | succ l ih =>
    intro hl
    have h1 := ih (by omega)
    rw [zeat_s]
    split
    · rename_i h2
      split
      · rename_i h3
        have h4 := h1.1.2.2
        refine ⟨zHW_grain hn hc h1.1 ⟨by omega, by omega⟩, fun o ho h5 => ?_⟩
        rw [zu1_ne _ _ (by omega)] at h5 ⊢
        exact h1.2 o ho h5
      · refine ⟨zHW_fate hn h1.1 (by omega) ⟨by decide, by decide⟩, fun o ho h5 => ?_⟩
        by_cases ho2 : o = l
        · subst ho2
          rw [zu1_eq] at h5
          exact absurd h5 (by decide)
        · rw [zu1_ne _ _ (by omega)] at h5 ⊢
          exact h1.2 o ho h5
    · exact h1
theorem zca_wait {n : Nat} {kd al : Nat → Int} (k : Nat) {nc : Nat} {an : Nat → Int} (hp : zPK n nc kd al an) : ∀ (r : Nat) (s : zS), zHV n nc s.1 → zHV n nc (zca n kd al k r s).1 := by
  intro r
  induction r with
  | zero => intro s h; exact h
  | succ r ih =>
    intro s h
    rw [zca_s]
    split
    · exact h
    · rename_i hne
      have h1 := zmp_rg hp h.1 (s.1 (18 + k)) n (Nat.le_refl _)
      have h9 := hp.1
      refine ih _ ⟨zHW_fate hp.1 h.1 (by omega) ⟨by decide, by decide⟩, fun o ho h5 => ?_⟩
      simp only [zu1] at h5 ⊢
      rw [if_neg (by omega)]
      split at h5
      · exact absurd h5 (by decide)
      · exact h.2 o ho h5
theorem zcl_wait {n nc : Nat} {kd al an : Nat → Int} (hp : zPK n nc kd al an) : ∀ (k : Nat) (s : zS), zHV n nc s.1 → zHV n nc (zcl n kd al an k s).1 := by
  intro k
  induction k with
  | zero => intro s h; exact h
  | succ k ih => intro s h; rw [zcl_s]; exact zca_wait k hp _ _ (ih s h)
theorem zdayA_ok {n nc : Nat} {kd al an : Nat → Int} (hp : zPK n nc kd al an) {s : zS} (h : zHV n nc s.1) : zHV n nc (zdayA n kd al nc an s).1 ∧ (zdayA n kd al nc an s).2 ≤ n := by
  have h1 := zcl_wait hp nc s h
  have h2 := (zwt_ok hp.1 h1 n (Nat.le_refl _)).1
  have h3 := zht_ok hp h2 n (Nat.le_refl _)
  exact ⟨⟨h3.1, h3.2.1⟩, h3.2.2⟩
theorem zday_ok {n nc : Nat} {kd al an : Nat → Int} (hp : zPK n nc kd al an) {s : zS} (h : zHV n nc s.1) : zHV n nc (zday n kd al nc an s).1 := by
  have h1 := zeat_ok hp.1 hp.2.1 (zdayA_ok hp h).1 n (Nat.le_refl _)
  refine ⟨zHW_day hp.1 hp.2.1 h1.1, fun o ho h5 => ?_⟩
  have h9 := hp.1
  have h5 : zu1 (zeat (zdayA n kd al nc an s).1 n) 22 (zeat (zdayA n kd al nc an s).1 n 22 + 1) (12 + o) = 0 := h5
  show zu1 (zeat (zdayA n kd al nc an s).1 n) 22 (zeat (zdayA n kd al nc an s).1 n 22 + 1) (6 + o) ≤ 14
  rw [zu1_ne _ _ (by omega)] at h5 ⊢
  exact h1.2 o ho h5
end
section
set_option maxHeartbeats 4000000 in
set_option maxRecDepth 100000 in
theorem ct_mostPressing_n (la : Launch) (g0 : zG) (ad : Nat → Nat) (μ : zMem) (n nc : Nat) (hp : zPlan μ n nc) (hv : zHW n nc (μ 18)) (row : Int) (hrow : 0 ≤ row ∧ row ≤ 3) : zCon la g0 yX1_mostPressing cX1_mostPressing 6 (some .int) 1 ad zSH [.ref (ad 17), .int (zi row)] μ (zPd μ (zmp n (μ 13) (μ 14) (μ 18) row n).1) := by
  refine zCon_of (by decide +kernel) (Nat.le_of_ble_eq_true rfl) ?_
  intro χ K T hl1 hg1
  have K : zOk χ cX1_mostPressing RX1 6 1 (some .int) := K
  obtain ⟨hn, hn6, hnc, hnc3, hpl, hpk⟩ := id hp
  obtain ⟨hv1, hv2, hv3, hv4⟩ := id hv
  show zV χ 6 ad zSH 0 0 0 [(0, .ref (ad 17)), (1, .int (zi row))] [] μ
  refine z_bipush K dX1_mostPressing_0 (by decide +kernel) ?_
  refine z_istore_n (lv' := [(0, .ref (ad 17)), (1, .int (zi row)), (2, .int (zi (-9 : Int)))]) K dX1_mostPressing_2 (by decide) rfl ?_
  refine z_iconst K dX1_mostPressing_3 ?_
  refine z_istore_n (lv' := [(0, .ref (ad 17)), (1, .int (zi row)), (2, .int (zi (-9 : Int))), (3, .int (zi (0 : Int)))]) K dX1_mostPressing_4 (by decide) rfl ?_
  refine z_iconst K dX1_mostPressing_5 ?_
  refine z_istore (lv' := [(0, .ref (ad 17)), (1, .int (zi row)), (2, .int (zi (-9 : Int))), (3, .int (zi (0 : Int))), (4, .int (zi (0 : Int)))]) K dX1_mostPressing_6 (by decide) rfl ?_
  have L8 : ∀ l, l ≤ n → zV χ 6 ad zSH 0 0 8 [(0, .ref (ad 17)), (1, .int (zi row)), (2, .int (zi ((zmp n (μ 13) (μ 14) (μ 18) row l).1))), (3, .int (zi ((zmp n (μ 13) (μ 14) (μ 18) row l).2))), (4, .int (zi ((l : Nat) : Int)))] [] μ := by
    refine zfor ?_
    intro l hl ih
    have hrg := zmp_rg hp.pk hv row l hl
    refine z_iload K dX1_mostPressing_8 rfl ?_
    refine z_aload_n K dX1_mostPressing_10 rfl ?_
    refine z_get (k := 17) (v := .ref (ad 10)) K dX1_mostPressing_11 fl_X1_18 rfl rfl rfl ?_
    refine z_get (k := 10) (v := .int (zi (μ 10 0))) K dX1_mostPressing_14 fl_X1_22 rfl rfl rfl ?_
    refine z_icmpge (tgt := 80) K dX1_mostPressing_17 (by decide) (by omega) (by omega) (fun h17 => ?_) (fun h17 => ?_)
    · refine z_iload_n K dX1_mostPressing_80 rfl ?_
      exact z_iretd K T rfl dX1_mostPressing_81 (by rw [show l = n by omega]) rfl
    · have hfl := hv1 l (by omega)
      have hdl := zdl_rg hp.pk hv (l := l) (by omega)
      refine z_aload_n K dX1_mostPressing_20 rfl ?_
      refine z_get (k := 17) (v := .ref (ad 18)) K dX1_mostPressing_21 fl_X1_11 rfl rfl rfl ?_
      refine z_bipush K dX1_mostPressing_24 (by decide +kernel) ?_
      refine z_iload K dX1_mostPressing_26 rfl ?_
      refine z_iadd K dX1_mostPressing_28 ?_
      refine z_iald (k := 18) (v := μ 18 (12 + l)) K dX1_mostPressing_29 (12 + l) rfl (by decide) (by omega) (by omega) rfl ?_
      refine z_ifne (tgt := 74) K dX1_mostPressing_30 (by decide) (by omega) (fun h30 => ?_) (fun h30 => ?_)
      · refine z_iincN (lv' := [(0, .ref (ad 17)), (1, .int (zi row)), (2, .int (zi ((zmp n (μ 13) (μ 14) (μ 18) row l).1))), (3, .int (zi ((zmp n (μ 13) (μ 14) (μ 18) row l).2))), (4, .int (zi ((l + 1 : Nat) : Int)))]) K dX1_mostPressing_74 rfl (by decide) rfl ?_
        refine z_goto (tgt := 8) K dX1_mostPressing_77 (by decide) ?_
        have e9 : zmp n (μ 13) (μ 14) (μ 18) row (l + 1) = zmp n (μ 13) (μ 14) (μ 18) row l := by
          rw [zmp_s]
          rw [if_neg (by omega)]
        have q := ih (l + 1) (by omega) (by omega)
        rw [e9] at q
        exact q
      · refine z_aload_n K dX1_mostPressing_33 rfl ?_
        refine z_get (k := 17) (v := .ref (ad 18)) K dX1_mostPressing_34 fl_X1_11 rfl rfl rfl ?_
        refine z_iconst K dX1_mostPressing_37 ?_
        refine z_iload K dX1_mostPressing_38 rfl ?_
        refine z_iadd K dX1_mostPressing_40 ?_
        refine z_iald (k := 18) (v := μ 18 l) K dX1_mostPressing_41 l rfl (by decide) (by omega) (by omega) rfl ?_
        refine z_iconst K dX1_mostPressing_42 ?_
        refine z_idiv K dX1_mostPressing_43 (by omega) (by omega) ?_
        refine z_iload_n K dX1_mostPressing_44 rfl ?_
        refine z_icmpne (tgt := 74) K dX1_mostPressing_45 (by decide) (by omega) (by omega) (fun h45 => ?_) (fun h45 => ?_)
        · refine z_iincN (lv' := [(0, .ref (ad 17)), (1, .int (zi row)), (2, .int (zi ((zmp n (μ 13) (μ 14) (μ 18) row l).1))), (3, .int (zi ((zmp n (μ 13) (μ 14) (μ 18) row l).2))), (4, .int (zi ((l + 1 : Nat) : Int)))]) K dX1_mostPressing_74 rfl (by decide) rfl ?_
          refine z_goto (tgt := 8) K dX1_mostPressing_77 (by decide) ?_
          have e9 : zmp n (μ 13) (μ 14) (μ 18) row (l + 1) = zmp n (μ 13) (μ 14) (μ 18) row l := by
            rw [zmp_s]
            rw [if_neg (by omega)]
          have q := ih (l + 1) (by omega) (by omega)
          rw [e9] at q
          exact q
        · refine z_aload_n K dX1_mostPressing_48 rfl ?_
          refine z_iload K dX1_mostPressing_49 rfl ?_
          refine z_callVd K hl1 hg1 (kb := 17) (As := [.int (zi ((l : Nat) : Int))]) (rest := []) (ct_daysLeft_n la g0 ad μ n nc hp hv l (by omega)) (by decide) lk_X1_87 cd_X1_daysLeft rfl rfl rfl rfl (Nat.le_of_ble_eq_true rfl) dX1_mostPressing_51 ?_
          refine z_istore (lv' := [(0, .ref (ad 17)), (1, .int (zi row)), (2, .int (zi ((zmp n (μ 13) (μ 14) (μ 18) row l).1))), (3, .int (zi ((zmp n (μ 13) (μ 14) (μ 18) row l).2))), (4, .int (zi ((l : Nat) : Int))), (5, .int (zi (zdl n (μ 13) (μ 14) (μ 18) l)))]) K dX1_mostPressing_54 (by decide) rfl ?_
          refine z_iload_n K dX1_mostPressing_56 rfl ?_
          refine z_bipush K dX1_mostPressing_57 (by decide +kernel) ?_
          refine z_icmpeq (tgt := 68) K dX1_mostPressing_59 (by decide) (by omega) ⟨by decide, by decide⟩ (fun h59 => ?_) (fun h59 => ?_)
          · refine z_iload K dX1_mostPressing_68 rfl ?_
            refine z_istore_n (lv' := [(0, .ref (ad 17)), (1, .int (zi row)), (2, .int (zi ((l : Nat) : Int))), (3, .int (zi ((zmp n (μ 13) (μ 14) (μ 18) row l).2))), (4, .int (zi ((l : Nat) : Int))), (5, .int (zi (zdl n (μ 13) (μ 14) (μ 18) l)))]) K dX1_mostPressing_70 (by decide) rfl ?_
            refine z_iload K dX1_mostPressing_71 rfl ?_
            refine z_istore_n (lv' := [(0, .ref (ad 17)), (1, .int (zi row)), (2, .int (zi ((l : Nat) : Int))), (3, .int (zi (zdl n (μ 13) (μ 14) (μ 18) l))), (4, .int (zi ((l : Nat) : Int))), (5, .int (zi (zdl n (μ 13) (μ 14) (μ 18) l)))]) K dX1_mostPressing_73 (by decide) rfl ?_
            refine z_iincN (lv' := [(0, .ref (ad 17)), (1, .int (zi row)), (2, .int (zi ((l : Nat) : Int))), (3, .int (zi (zdl n (μ 13) (μ 14) (μ 18) l))), (4, .int (zi ((l + 1 : Nat) : Int))), (5, .int (zi (zdl n (μ 13) (μ 14) (μ 18) l)))]) K dX1_mostPressing_74 rfl (by decide) rfl ?_
            refine z_goto (tgt := 8) K dX1_mostPressing_77 (by decide) ?_
            refine z_ipick [0, 1, 2, 3, 4] rfl ?_
            have e9 : zmp n (μ 13) (μ 14) (μ 18) row (l + 1) = ((l : Int), zdl n (μ 13) (μ 14) (μ 18) l) := by
              rw [zmp_s]
              rw [if_pos ⟨by omega, by omega, by omega⟩]
            have q := ih (l + 1) (by omega) (by omega)
            rw [e9] at q
            exact q
          · refine z_iload K dX1_mostPressing_62 rfl ?_
            refine z_iload_n K dX1_mostPressing_64 rfl ?_
            refine z_icmpge (tgt := 74) K dX1_mostPressing_65 (by decide) (by omega) (by omega) (fun h65 => ?_) (fun h65 => ?_)
            · refine z_iincN (lv' := [(0, .ref (ad 17)), (1, .int (zi row)), (2, .int (zi ((zmp n (μ 13) (μ 14) (μ 18) row l).1))), (3, .int (zi ((zmp n (μ 13) (μ 14) (μ 18) row l).2))), (4, .int (zi ((l + 1 : Nat) : Int))), (5, .int (zi (zdl n (μ 13) (μ 14) (μ 18) l)))]) K dX1_mostPressing_74 rfl (by decide) rfl ?_
              refine z_goto (tgt := 8) K dX1_mostPressing_77 (by decide) ?_
              refine z_ipick [0, 1, 2, 3, 4] rfl ?_
              have e9 : zmp n (μ 13) (μ 14) (μ 18) row (l + 1) = zmp n (μ 13) (μ 14) (μ 18) row l := by
                rw [zmp_s]
                rw [if_neg (by omega)]
              have q := ih (l + 1) (by omega) (by omega)
              rw [e9] at q
              exact q
            · refine z_iload K dX1_mostPressing_68 rfl ?_
              refine z_istore_n (lv' := [(0, .ref (ad 17)), (1, .int (zi row)), (2, .int (zi ((l : Nat) : Int))), (3, .int (zi ((zmp n (μ 13) (μ 14) (μ 18) row l).2))), (4, .int (zi ((l : Nat) : Int))), (5, .int (zi (zdl n (μ 13) (μ 14) (μ 18) l)))]) K dX1_mostPressing_70 (by decide) rfl ?_
              refine z_iload K dX1_mostPressing_71 rfl ?_
              refine z_istore_n (lv' := [(0, .ref (ad 17)), (1, .int (zi row)), (2, .int (zi ((l : Nat) : Int))), (3, .int (zi (zdl n (μ 13) (μ 14) (μ 18) l))), (4, .int (zi ((l : Nat) : Int))), (5, .int (zi (zdl n (μ 13) (μ 14) (μ 18) l)))]) K dX1_mostPressing_73 (by decide) rfl ?_
              refine z_iincN (lv' := [(0, .ref (ad 17)), (1, .int (zi row)), (2, .int (zi ((l : Nat) : Int))), (3, .int (zi (zdl n (μ 13) (μ 14) (μ 18) l))), (4, .int (zi ((l + 1 : Nat) : Int))), (5, .int (zi (zdl n (μ 13) (μ 14) (μ 18) l)))]) K dX1_mostPressing_74 rfl (by decide) rfl ?_
              refine z_goto (tgt := 8) K dX1_mostPressing_77 (by decide) ?_
              refine z_ipick [0, 1, 2, 3, 4] rfl ?_
              have e9 : zmp n (μ 13) (μ 14) (μ 18) row (l + 1) = ((l : Int), zdl n (μ 13) (μ 14) (μ 18) l) := by
                rw [zmp_s]
                rw [if_pos ⟨by omega, by omega, by omega⟩]
              have q := ih (l + 1) (by omega) (by omega)
              rw [e9] at q
              exact q
  exact L8 0 (by omega)
end
section
set_option maxHeartbeats 4000000 in
set_option maxRecDepth 100000 in
theorem ct_clerkAnswers_n (la : Launch) (g0 : zG) (ad : Nat → Nat) (μ : zMem) (n nc : Nat) (hp : zPlan μ n nc) (hv : zHW n nc (μ 18)) (k : Nat) (hk : k < nc) : zCon la g0 yX1_clerkAnswers cX1_clerkAnswers 4 none 2 ad zSH [.ref (ad 17), .int (zi ((k : Nat) : Int))] μ (zPm (zup (zup μ 18 (zca n (μ 13) (μ 14) k (μ 16 k).toNat (μ 18, μ 19)).1) 19 (zca n (μ 13) (μ 14) k (μ 16 k).toNat (μ 18, μ 19)).2)) := by
  refine zCon_of (by decide +kernel) (Nat.le_of_ble_eq_true rfl) ?_
  intro χ K T hl1 hg1
  have K : zOk χ cX1_clerkAnswers RX1 4 2 none := K
  obtain ⟨hn, hn6, hnc, hnc3, hpl, hpk⟩ := id hp
  have hpk1 := hpk k hk
  refine z_mem (ν := zup (zup μ 18 (μ 18)) 19 (μ 19)) (zup_id2 μ 18 19 (by decide)) ?_
  show zV χ 4 ad zSH 0 0 0 [(0, .ref (ad 17)), (1, .int (zi ((k : Nat) : Int)))] [] (zup (zup μ 18 (μ 18)) 19 (μ 19))
  refine z_iconst K dX1_clerkAnswers_0 ?_
  refine z_istore_n (lv' := [(0, .ref (ad 17)), (1, .int (zi ((k : Nat) : Int))), (2, .int (zi (0 : Int)))]) K dX1_clerkAnswers_1 (by decide) rfl ?_
  have L2 : ∀ i, i ≤ (μ 16 k).toNat → ∀ (c a : Nat → Int), zHW n nc c → zca n (μ 13) (μ 14) k ((μ 16 k).toNat - i) (c, a) = zca n (μ 13) (μ 14) k (μ 16 k).toNat (μ 18, μ 19) → zV χ 4 ad zSH 0 0 2 [(0, .ref (ad 17)), (1, .int (zi ((k : Nat) : Int))), (2, .int (zi ((i : Nat) : Int)))] [] (zup (zup μ 18 c) 19 a) := by
    refine zfor ?_
    intro i hi ih c a hw hF
    have hw2 := hw.2.1 k hk
    have hb := zmp_rg hp.pk hw (c (18 + k)) n (Nat.le_refl _)
    refine z_iload_n K dX1_clerkAnswers_2 rfl ?_
    refine z_aload_n K dX1_clerkAnswers_3 rfl ?_
    refine z_get (k := 17) (v := .ref (ad 10)) K dX1_clerkAnswers_4 fl_X1_18 rfl rfl rfl ?_
    refine z_get (k := 10) (v := .ref (ad 16)) K dX1_clerkAnswers_7 fl_X1_96 rfl rfl rfl ?_
    refine z_iload_n K dX1_clerkAnswers_10 rfl ?_
    refine z_iald (k := 16) (v := μ 16 k) K dX1_clerkAnswers_11 k rfl (by decide) (by omega) (by omega) rfl ?_
    refine z_icmpge (tgt := 62) K dX1_clerkAnswers_12 (by decide) (by omega) (by omega) (fun h12 => ?_) (fun h12 => ?_)
    · exact z_vretd K T rfl dX1_clerkAnswers_62 (by rw [← hF, show (μ 16 k).toNat - i = 0 by omega]; rfl)
    · refine z_aload_n K dX1_clerkAnswers_15 rfl ?_
      refine z_aload_n K dX1_clerkAnswers_16 rfl ?_
      refine z_get (k := 17) (v := .ref (ad 18)) K dX1_clerkAnswers_17 fl_X1_11 rfl rfl rfl ?_
      refine z_bipush K dX1_clerkAnswers_20 (by decide +kernel) ?_
      refine z_iload_n K dX1_clerkAnswers_22 rfl ?_
      refine z_iadd K dX1_clerkAnswers_23 ?_
      refine z_iald (k := 18) (v := c (18 + k)) K dX1_clerkAnswers_24 (18 + k) rfl (by decide) (by omega) (by omega) rfl ?_
      refine z_callVd K hl1 hg1 (kb := 17) (As := [.int (zi (c (18 + k)))]) (rest := []) (ct_mostPressing_n la g0 ad (zup (zup μ 18 c) 19 a) n nc hp hw (c (18 + k)) hw2) (by decide) lk_X1_99 cd_X1_mostPressing rfl rfl rfl rfl (Nat.le_of_ble_eq_true rfl) dX1_clerkAnswers_25 ?_
      refine z_istore_n (lv' := [(0, .ref (ad 17)), (1, .int (zi ((k : Nat) : Int))), (2, .int (zi ((i : Nat) : Int))), (3, .int (zi ((zmp n (μ 13) (μ 14) c (c (18 + k)) n).1)))]) K dX1_clerkAnswers_28 (by decide) rfl ?_
      refine z_iload_n K dX1_clerkAnswers_29 rfl ?_
      refine z_bipush K dX1_clerkAnswers_30 (by decide +kernel) ?_
      refine z_icmpne (tgt := 36) K dX1_clerkAnswers_32 (by decide) (by omega) ⟨by decide, by decide⟩ (fun h32 => ?_) (fun h32 => ?_)
      · refine z_aload_n K dX1_clerkAnswers_36 rfl ?_
        refine z_get (k := 17) (v := .ref (ad 18)) K dX1_clerkAnswers_37 fl_X1_11 rfl rfl rfl ?_
        refine z_bipush K dX1_clerkAnswers_40 (by decide +kernel) ?_
        refine z_iload_n K dX1_clerkAnswers_42 rfl ?_
        refine z_iadd K dX1_clerkAnswers_43 ?_
        refine z_iconst K dX1_clerkAnswers_44 ?_
        refine z_iast (k := 18) K dX1_clerkAnswers_45 (12 + (zmp n (μ 13) (μ 14) c (c (18 + k)) n).1.toNat) rfl (by decide) (by omega) (by omega) (z_mem (ν := zup (zup μ 18 (zu1 c (12 + (zmp n (μ 13) (μ 14) c (c (18 + k)) n).1.toNat) (1 : Int))) 19 a) (zup_sw _ (by decide) _ _ _) ?_)
        refine z_aload_n K dX1_clerkAnswers_46 rfl ?_
        refine z_get (k := 17) (v := .ref (ad 19)) K dX1_clerkAnswers_47 fl_X1_15 rfl rfl rfl ?_
        refine z_iload_n K dX1_clerkAnswers_50 rfl ?_
        refine z_dup2 K dX1_clerkAnswers_51 rfl rfl ?_
        refine z_iald (k := 19) (v := a k) K dX1_clerkAnswers_52 k rfl (by decide) (by omega) (by omega) rfl ?_
        refine z_iconst K dX1_clerkAnswers_53 ?_
        refine z_iadd K dX1_clerkAnswers_54 ?_
        refine z_iast (k := 19) K dX1_clerkAnswers_55 k rfl (by decide) (by omega) (by omega) (z_mem (ν := zup (zup μ 18 (zu1 c (12 + (zmp n (μ 13) (μ 14) c (c (18 + k)) n).1.toNat) (1 : Int))) 19 (zu1 a k ((a k) + (1 : Int)))) (zup_same _ _ _ _) ?_)
        refine z_iincN (lv' := [(0, .ref (ad 17)), (1, .int (zi ((k : Nat) : Int))), (2, .int (zi ((i + 1 : Nat) : Int))), (3, .int (zi ((zmp n (μ 13) (μ 14) c (c (18 + k)) n).1)))]) K dX1_clerkAnswers_56 rfl (by decide) rfl ?_
        refine z_goto (tgt := 2) K dX1_clerkAnswers_59 (by decide) ?_
        refine z_ipick [0, 1, 2] rfl ?_
        exact ih (i + 1) (by omega) (by omega) _ _ (zHW_fate hn6 hw (by omega) ⟨by decide, by decide⟩) (by
          rw [show (μ 16 k).toNat - i = ((μ 16 k).toNat - (i + 1)) + 1 by omega, zca_s, if_neg h32] at hF
          exact hF)
      · exact z_vretd K T rfl dX1_clerkAnswers_35 (by rw [← hF, show (μ 16 k).toNat - i = ((μ 16 k).toNat - (i + 1)) + 1 by omega, zca_s, if_pos h32])
  exact L2 0 (by omega) _ _ hv rfl
end
section
set_option maxHeartbeats 4000000 in
set_option maxRecDepth 100000 in
theorem ct_hatch_n (la : Launch) (g0 : zG) (ad : Nat → Nat) (μ : zMem) (n nc : Nat) (hp : zPlan μ n nc) (hv : zHW n nc (μ 18)) (l : Nat) (hl : l < n) : zCon la g0 yX1_hatch cX1_hatch 4 none 0 ad zSH [.ref (ad 17), .int (zi ((l : Nat) : Int))] μ (zPm (zup μ 18 (zhat n (μ 13) (μ 18) l))) := by
  refine zCon_of (by decide +kernel) (Nat.le_of_ble_eq_true rfl) ?_
  intro χ K T hl1 hg1
  have K : zOk χ cX1_hatch RX1 4 0 none := K
  obtain ⟨hn, hn6, hnc, hnc3, hpl, hpk⟩ := id hp
  have hvl := hv.1 l hl
  have hpp := hpl l hl
  have hw := zHW_fate hn6 hv hl (v := 2) ⟨by decide, by decide⟩
  refine z_mem (ν := zup μ 18 (μ 18)) (zup_id μ 18) ?_
  show zV χ 4 ad zSH 0 0 0 [(0, .ref (ad 17)), (1, .int (zi ((l : Nat) : Int)))] [] (zup μ 18 (μ 18))
  refine z_aload_n K dX1_hatch_0 rfl ?_
  refine z_get (k := 17) (v := .ref (ad 18)) K dX1_hatch_1 fl_X1_11 rfl rfl rfl ?_
  refine z_bipush K dX1_hatch_4 (by decide +kernel) ?_
  refine z_iload_n K dX1_hatch_6 rfl ?_
  refine z_iadd K dX1_hatch_7 ?_
  refine z_iconst K dX1_hatch_8 ?_
  refine z_iast (k := 18) K dX1_hatch_9 (12 + l) rfl (by decide) (by omega) (by omega) (z_mem (ν := zup μ 18 (zu1 (μ 18) (12 + l) (2 : Int))) (zup_same _ _ _ _) ?_)
  refine z_aload_n K dX1_hatch_10 rfl ?_
  refine z_get (k := 17) (v := .ref (ad 18)) K dX1_hatch_11 fl_X1_11 rfl rfl rfl ?_
  refine z_iconst K dX1_hatch_14 ?_
  refine z_iload_n K dX1_hatch_15 rfl ?_
  refine z_iadd K dX1_hatch_16 ?_
  refine z_iald (k := 18) (v := μ 18 l) K dX1_hatch_17 l rfl (by decide) (by omega) (by omega) (zu1_ne _ _ (by omega)) ?_
  refine z_istore_n (lv' := [(0, .ref (ad 17)), (1, .int (zi ((l : Nat) : Int))), (2, .int (zi (μ 18 l)))]) K dX1_hatch_18 (by decide) rfl ?_
  refine z_aload_n K dX1_hatch_19 rfl ?_
  refine z_get (k := 17) (v := .ref (ad 10)) K dX1_hatch_20 fl_X1_18 rfl rfl rfl ?_
  refine z_get (k := 10) (v := .ref (ad 13)) K dX1_hatch_23 fl_X1_61 rfl rfl rfl ?_
  refine z_iload_n K dX1_hatch_26 rfl ?_
  refine z_iald (k := 13) (v := μ 13 l) K dX1_hatch_27 l rfl (by decide) (by omega) (by omega) rfl ?_
  refine z_iconst K dX1_hatch_28 ?_
  refine z_icmpne (tgt := 37) K dX1_hatch_29 (by decide) (by omega) ⟨by decide, by decide⟩ (fun h29 => ?_) (fun h29 => ?_)
  · exact z_vretd K T rfl dX1_hatch_37 (by unfold zhat; rw [if_neg (by omega)])
  · refine z_iload_n K dX1_hatch_32 rfl ?_
    refine z_iconst K dX1_hatch_33 ?_
    refine z_icmpge (tgt := 38) K dX1_hatch_34 (by decide) (by omega) ⟨by decide, by decide⟩ (fun h34 => ?_) (fun h34 => ?_)
    · refine z_iconst K dX1_hatch_38 ?_
      refine z_istore_n (lv' := [(0, .ref (ad 17)), (1, .int (zi ((l : Nat) : Int))), (2, .int (zi (μ 18 l))), (3, .int (zi (0 : Int)))]) K dX1_hatch_39 (by decide) rfl ?_
      have L40 : ∀ o, o ≤ n → zV χ 4 ad zSH 0 0 40 [(0, .ref (ad 17)), (1, .int (zi ((l : Nat) : Int))), (2, .int (zi (μ 18 l))), (3, .int (zi ((o : Nat) : Int)))] [] (zup μ 18 (zpo (zu1 (μ 18) (12 + l) 2) (μ 18 l) o)) := by
        refine zfor ?_
        intro o ho ih
        have hwo := zpo_ok hn6 hw (x := μ 18 l) ⟨by omega, by omega⟩ o ho
        refine z_iload_n K dX1_hatch_40 rfl ?_
        refine z_aload_n K dX1_hatch_41 rfl ?_
        refine z_get (k := 17) (v := .ref (ad 10)) K dX1_hatch_42 fl_X1_18 rfl rfl rfl ?_
        refine z_get (k := 10) (v := .int (zi (μ 10 0))) K dX1_hatch_45 fl_X1_22 rfl rfl rfl ?_
        refine z_icmpge (tgt := 92) K dX1_hatch_48 (by decide) (by omega) (by omega) (fun h48 => ?_) (fun h48 => ?_)
        · exact z_vretd K T rfl dX1_hatch_92 (by unfold zhat; rw [if_pos ⟨by omega, by omega⟩, show n = o by omega])
        · have hwl := hwo.1 o (by omega)
          refine z_aload_n K dX1_hatch_51 rfl ?_
          refine z_get (k := 17) (v := .ref (ad 18)) K dX1_hatch_52 fl_X1_11 rfl rfl rfl ?_
          refine z_bipush K dX1_hatch_55 (by decide +kernel) ?_
          refine z_iload_n K dX1_hatch_57 rfl ?_
          refine z_iadd K dX1_hatch_58 ?_
          refine z_iald (k := 18) (v := (zpo (zu1 (μ 18) (12 + l) 2) (μ 18 l) o) (12 + o)) K dX1_hatch_59 (12 + o) rfl (by decide) (by omega) (by omega) rfl ?_
          refine z_ifne (tgt := 86) K dX1_hatch_60 (by decide) (by omega) (fun h60 => ?_) (fun h60 => ?_)
          · refine z_iincN (lv' := [(0, .ref (ad 17)), (1, .int (zi ((l : Nat) : Int))), (2, .int (zi (μ 18 l))), (3, .int (zi ((o + 1 : Nat) : Int)))]) K dX1_hatch_86 rfl (by decide) rfl ?_
            refine z_goto (tgt := 40) K dX1_hatch_89 (by decide) ?_
            have e9 : zpo (zu1 (μ 18) (12 + l) 2) (μ 18 l) (o + 1) = zpo (zu1 (μ 18) (12 + l) 2) (μ 18 l) o := by
              rw [zpo_s]
              rw [if_neg (by omega)]
            have q := ih (o + 1) (by omega) (by omega)
            rw [e9] at q
            exact q
          · refine z_aload_n K dX1_hatch_63 rfl ?_
            refine z_get (k := 17) (v := .ref (ad 18)) K dX1_hatch_64 fl_X1_11 rfl rfl rfl ?_
            refine z_iconst K dX1_hatch_67 ?_
            refine z_iload_n K dX1_hatch_68 rfl ?_
            refine z_iadd K dX1_hatch_69 ?_
            refine z_iald (k := 18) (v := (zpo (zu1 (μ 18) (12 + l) 2) (μ 18 l) o) o) K dX1_hatch_70 o rfl (by decide) (by omega) (by omega) rfl ?_
            refine z_iload_n K dX1_hatch_71 rfl ?_
            refine z_icmpne (tgt := 86) K dX1_hatch_72 (by decide) (by omega) (by omega) (fun h72 => ?_) (fun h72 => ?_)
            · refine z_iincN (lv' := [(0, .ref (ad 17)), (1, .int (zi ((l : Nat) : Int))), (2, .int (zi (μ 18 l))), (3, .int (zi ((o + 1 : Nat) : Int)))]) K dX1_hatch_86 rfl (by decide) rfl ?_
              refine z_goto (tgt := 40) K dX1_hatch_89 (by decide) ?_
              have e9 : zpo (zu1 (μ 18) (12 + l) 2) (μ 18 l) (o + 1) = zpo (zu1 (μ 18) (12 + l) 2) (μ 18 l) o := by
                rw [zpo_s]
                rw [if_neg (by omega)]
              have q := ih (o + 1) (by omega) (by omega)
              rw [e9] at q
              exact q
            · refine z_aload_n K dX1_hatch_75 rfl ?_
              refine z_get (k := 17) (v := .ref (ad 18)) K dX1_hatch_76 fl_X1_11 rfl rfl rfl ?_
              refine z_iconst K dX1_hatch_79 ?_
              refine z_iload_n K dX1_hatch_80 rfl ?_
              refine z_iadd K dX1_hatch_81 ?_
              refine z_iload_n K dX1_hatch_82 rfl ?_
              refine z_iconst K dX1_hatch_83 ?_
              refine z_isub K dX1_hatch_84 ?_
              refine z_iast (k := 18) K dX1_hatch_85 o rfl (by decide) (by omega) (by omega) (z_mem (ν := zup μ 18 (zu1 (zpo (zu1 (μ 18) (12 + l) 2) (μ 18 l) o) o ((μ 18 l) - (4 : Int)))) (zup_same _ _ _ _) ?_)
              refine z_iincN (lv' := [(0, .ref (ad 17)), (1, .int (zi ((l : Nat) : Int))), (2, .int (zi (μ 18 l))), (3, .int (zi ((o + 1 : Nat) : Int)))]) K dX1_hatch_86 rfl (by decide) rfl ?_
              refine z_goto (tgt := 40) K dX1_hatch_89 (by decide) ?_
              have e9 : zpo (zu1 (μ 18) (12 + l) 2) (μ 18 l) (o + 1) = zu1 (zpo (zu1 (μ 18) (12 + l) 2) (μ 18 l) o) o ((μ 18 l) - (4 : Int)) := by
                rw [zpo_s]
                rw [if_pos ⟨by omega, by omega⟩]
              have q := ih (o + 1) (by omega) (by omega)
              rw [e9] at q
              exact q
      exact L40 0 (by omega)
    · exact z_vretd K T rfl dX1_hatch_37 (by unfold zhat; rw [if_neg (by omega)])
end
section
set_option maxHeartbeats 4000000 in
set_option maxRecDepth 100000 in
theorem ct_birdsEat_n (la : Launch) (g0 : zG) (ad : Nat → Nat) (μ : zMem) (n nc : Nat) (hp : zPlan μ n nc) (hv : zHV n nc (μ 18)) : zCon la g0 yX1_birdsEat cX1_birdsEat 2 none 0 ad zSH [.ref (ad 17)] μ (zPm (zup μ 18 (zeat (μ 18) n))) := by
  refine zCon_of (by decide +kernel) (Nat.le_of_ble_eq_true rfl) ?_
  intro χ K T hl1 hg1
  have K : zOk χ cX1_birdsEat RX1 2 0 none := K
  obtain ⟨hn, hn6, hnc, hnc3, hpl, hpk⟩ := id hp
  refine z_mem (ν := zup μ 18 (μ 18)) (zup_id μ 18) ?_
  show zV χ 2 ad zSH 0 0 0 [(0, .ref (ad 17))] [] (zup μ 18 (μ 18))
  refine z_iconst K dX1_birdsEat_0 ?_
  refine z_istore_n (lv' := [(0, .ref (ad 17)), (1, .int (zi (0 : Int)))]) K dX1_birdsEat_1 (by decide) rfl ?_
  have L2 : ∀ l, l ≤ n → zV χ 2 ad zSH 0 0 2 [(0, .ref (ad 17)), (1, .int (zi ((l : Nat) : Int)))] [] (zup μ 18 (zeat (μ 18) l)) := by
    refine zfor ?_
    intro l hl ih
    have hw := zeat_ok hn6 hnc3 hv l hl
    have hw21 := hw.1.2.2
    refine z_iload_n K dX1_birdsEat_2 rfl ?_
    refine z_aload_n K dX1_birdsEat_3 rfl ?_
    refine z_get (k := 17) (v := .ref (ad 10)) K dX1_birdsEat_4 fl_X1_18 rfl rfl rfl ?_
    refine z_get (k := 10) (v := .int (zi (μ 10 0))) K dX1_birdsEat_7 fl_X1_22 rfl rfl rfl ?_
    refine z_icmpge (tgt := 66) K dX1_birdsEat_10 (by decide) (by omega) (by omega) (fun h10 => ?_) (fun h10 => ?_)
    · exact z_vretd K T rfl dX1_birdsEat_66 (by rw [show n = l by omega])
    · have hwl := hw.1.1 l (by omega)
      refine z_aload_n K dX1_birdsEat_13 rfl ?_
      refine z_get (k := 17) (v := .ref (ad 18)) K dX1_birdsEat_14 fl_X1_11 rfl rfl rfl ?_
      refine z_bipush K dX1_birdsEat_17 (by decide +kernel) ?_
      refine z_iload_n K dX1_birdsEat_19 rfl ?_
      refine z_iadd K dX1_birdsEat_20 ?_
      refine z_iald (k := 18) (v := (zeat (μ 18) l) (12 + l)) K dX1_birdsEat_21 (12 + l) rfl (by decide) (by omega) (by omega) rfl ?_
      refine z_iconst K dX1_birdsEat_22 ?_
      refine z_icmpne (tgt := 60) K dX1_birdsEat_23 (by decide) (by omega) ⟨by decide, by decide⟩ (fun h23 => ?_) (fun h23 => ?_)
      · refine z_iincN (lv' := [(0, .ref (ad 17)), (1, .int (zi ((l + 1 : Nat) : Int)))]) K dX1_birdsEat_60 rfl (by decide) rfl ?_
        refine z_goto (tgt := 2) K dX1_birdsEat_63 (by decide) ?_
        have e9 : zeat (μ 18) (l + 1) = zeat (μ 18) l := by
          rw [zeat_s]
          rw [if_neg (by omega)]
        have q := ih (l + 1) (by omega) (by omega)
        rw [e9] at q
        exact q
      · refine z_aload_n K dX1_birdsEat_26 rfl ?_
        refine z_get (k := 17) (v := .ref (ad 18)) K dX1_birdsEat_27 fl_X1_11 rfl rfl rfl ?_
        refine z_bipush K dX1_birdsEat_30 (by decide +kernel) ?_
        refine z_iald (k := 18) (v := (zeat (μ 18) l) 21) K dX1_birdsEat_32 21 rfl (by decide) (by omega) (by omega) rfl ?_
        refine z_ifle (tgt := 50) K dX1_birdsEat_33 (by decide) (by omega) (fun h33 => ?_) (fun h33 => ?_)
        · refine z_aload_n K dX1_birdsEat_50 rfl ?_
          refine z_get (k := 17) (v := .ref (ad 18)) K dX1_birdsEat_51 fl_X1_11 rfl rfl rfl ?_
          refine z_bipush K dX1_birdsEat_54 (by decide +kernel) ?_
          refine z_iload_n K dX1_birdsEat_56 rfl ?_
          refine z_iadd K dX1_birdsEat_57 ?_
          refine z_iconst K dX1_birdsEat_58 ?_
          refine z_iast (k := 18) K dX1_birdsEat_59 (12 + l) rfl (by decide) (by omega) (by omega) (z_mem (ν := zup μ 18 (zu1 (zeat (μ 18) l) (12 + l) (3 : Int))) (zup_same _ _ _ _) ?_)
          refine z_iincN (lv' := [(0, .ref (ad 17)), (1, .int (zi ((l + 1 : Nat) : Int)))]) K dX1_birdsEat_60 rfl (by decide) rfl ?_
          refine z_goto (tgt := 2) K dX1_birdsEat_63 (by decide) ?_
          have e9 : zeat (μ 18) (l + 1) = zu1 (zeat (μ 18) l) (12 + l) (3 : Int) := by
            rw [zeat_s]
            rw [if_pos (by omega), if_neg (by omega)]
          have q := ih (l + 1) (by omega) (by omega)
          rw [e9] at q
          exact q
        · refine z_aload_n K dX1_birdsEat_36 rfl ?_
          refine z_get (k := 17) (v := .ref (ad 18)) K dX1_birdsEat_37 fl_X1_11 rfl rfl rfl ?_
          refine z_bipush K dX1_birdsEat_40 (by decide +kernel) ?_
          refine z_dup2 K dX1_birdsEat_42 rfl rfl ?_
          refine z_iald (k := 18) (v := (zeat (μ 18) l) 21) K dX1_birdsEat_43 21 rfl (by decide) (by omega) (by omega) rfl ?_
          refine z_iconst K dX1_birdsEat_44 ?_
          refine z_isub K dX1_birdsEat_45 ?_
          refine z_iast (k := 18) K dX1_birdsEat_46 21 rfl (by decide) (by omega) (by omega) (z_mem (ν := zup μ 18 (zu1 (zeat (μ 18) l) 21 (((zeat (μ 18) l) 21) - (1 : Int)))) (zup_same _ _ _ _) ?_)
          refine z_goto (tgt := 60) K dX1_birdsEat_47 (by decide) ?_
          refine z_iincN (lv' := [(0, .ref (ad 17)), (1, .int (zi ((l + 1 : Nat) : Int)))]) K dX1_birdsEat_60 rfl (by decide) rfl ?_
          refine z_goto (tgt := 2) K dX1_birdsEat_63 (by decide) ?_
          have e9 : zeat (μ 18) (l + 1) = zu1 (zeat (μ 18) l) 21 (((zeat (μ 18) l) 21) - (1 : Int)) := by
            rw [zeat_s]
            rw [if_pos (by omega), if_pos (by omega)]
          have q := ih (l + 1) (by omega) (by omega)
          rw [e9] at q
          exact q
  exact L2 0 (by omega)
end
section
set_option maxHeartbeats 4000000 in
set_option maxRecDepth 100000 in
theorem ct_moveTo_n (la : Launch) (g0 : zG) (ad : Nat → Nat) (μ : zMem) (l : Nat) (hl : l < 6) (x : Int) : zCon la g0 yX1_moveTo cX1_moveTo 3 none 0 ad zSH [.ref (ad 17), .int (zi ((l : Nat) : Int)), .int (zi x)] μ (zPm (zup μ 18 (zu1 (μ 18) l x))) := by
  refine zCon_of (by decide +kernel) (Nat.le_of_ble_eq_true rfl) ?_
  intro χ K T hl1 hg1
  have K : zOk χ cX1_moveTo RX1 3 0 none := K
  show zV χ 3 ad zSH 0 0 0 [(0, .ref (ad 17)), (1, .int (zi ((l : Nat) : Int))), (2, .int (zi x))] [] μ
  refine z_aload_n K dX1_moveTo_0 rfl ?_
  refine z_get (k := 17) (v := .ref (ad 18)) K dX1_moveTo_1 fl_X1_11 rfl rfl rfl ?_
  refine z_iconst K dX1_moveTo_4 ?_
  refine z_iload_n K dX1_moveTo_5 rfl ?_
  refine z_iadd K dX1_moveTo_6 ?_
  refine z_iload_n K dX1_moveTo_7 rfl ?_
  refine z_iast (k := 18) K dX1_moveTo_8 l rfl (by decide) (by omega) (by omega) ?_
  exact z_vretd K T rfl dX1_moveTo_9 rfl
end
section
set_option maxHeartbeats 4000000 in
set_option maxRecDepth 100000 in
theorem ct_sendTo_n (la : Launch) (g0 : zG) (ad : Nat → Nat) (μ : zMem) (k : Nat) (hk : k < 3) (x : Int) : zCon la g0 yX1_sendTo cX1_sendTo 3 none 0 ad zSH [.ref (ad 17), .int (zi ((k : Nat) : Int)), .int (zi x)] μ (zPm (zup μ 18 (zu1 (μ 18) (18 + k) x))) := by
  refine zCon_of (by decide +kernel) (Nat.le_of_ble_eq_true rfl) ?_
  intro χ K T hl1 hg1
  have K : zOk χ cX1_sendTo RX1 3 0 none := K
  show zV χ 3 ad zSH 0 0 0 [(0, .ref (ad 17)), (1, .int (zi ((k : Nat) : Int))), (2, .int (zi x))] [] μ
  refine z_aload_n K dX1_sendTo_0 rfl ?_
  refine z_get (k := 17) (v := .ref (ad 18)) K dX1_sendTo_1 fl_X1_11 rfl rfl rfl ?_
  refine z_bipush K dX1_sendTo_4 (by decide +kernel) ?_
  refine z_iload_n K dX1_sendTo_6 rfl ?_
  refine z_iadd K dX1_sendTo_7 ?_
  refine z_iload_n K dX1_sendTo_8 rfl ?_
  refine z_iast (k := 18) K dX1_sendTo_9 (18 + k) rfl (by decide) (by omega) (by omega) ?_
  exact z_vretd K T rfl dX1_sendTo_10 rfl
end
section
set_option maxHeartbeats 4000000 in
set_option maxRecDepth 100000 in
theorem ct_addGrain_n (la : Launch) (g0 : zG) (ad : Nat → Nat) (μ : zMem) (x : Int) (hx : 0 ≤ x ∧ x ≤ 9) (hg : 0 ≤ μ 18 21 ∧ μ 18 21 ≤ 99) : zCon la g0 yX1_addGrain cX1_addGrain 2 none 1 ad zSH [.ref (ad 17), .int (zi x)] μ (zPm (zup μ 18 (zu1 (μ 18) 21 (min 99 (μ 18 21 + x))))) := by
  refine zCon_of (by decide +kernel) (Nat.le_of_ble_eq_true rfl) ?_
  intro χ K T hl1 hg1
  have K : zOk χ cX1_addGrain RX1 2 1 none := K
  show zV χ 2 ad zSH 0 0 0 [(0, .ref (ad 17)), (1, .int (zi x))] [] μ
  refine z_aload_n K dX1_addGrain_0 rfl ?_
  refine z_get (k := 17) (v := .ref (ad 18)) K dX1_addGrain_1 fl_X1_11 rfl rfl rfl ?_
  refine z_bipush K dX1_addGrain_4 (by decide +kernel) ?_
  refine z_bipush K dX1_addGrain_6 (by decide +kernel) ?_
  refine z_aload_n K dX1_addGrain_8 rfl ?_
  refine z_get (k := 17) (v := .ref (ad 18)) K dX1_addGrain_9 fl_X1_11 rfl rfl rfl ?_
  refine z_bipush K dX1_addGrain_12 (by decide +kernel) ?_
  refine z_iald (k := 18) (v := μ 18 21) K dX1_addGrain_14 21 rfl (by decide) (by omega) (by omega) rfl ?_
  refine z_iload_n K dX1_addGrain_15 rfl ?_
  refine z_iadd K dX1_addGrain_16 ?_
  refine z_min K dX1_addGrain_17 lk_X1_77 (by decide) ⟨by decide, by decide⟩ (by omega) (Nat.le_of_ble_eq_true rfl) ?_
  refine z_iast (k := 18) K dX1_addGrain_20 21 rfl (by decide) (by omega) (by omega) ?_
  exact z_vretd K T rfl dX1_addGrain_21 rfl
end
section
set_option maxHeartbeats 4000000 in
set_option maxRecDepth 100000 in
theorem ct_answer (la : Launch) (g0 : zG) (ad : Nat → Nat) (μ : zMem) (l : Nat) (hl : l < 6) : zCon la g0 yX1_answer cX1_answer 2 none 0 ad zSH [.ref (ad 25), .int (zi ((l : Nat) : Int))] μ (zPm (zup μ 26 (zu1 (μ 26) (12 + l) 1))) := by
  refine zCon_of (by decide +kernel) (Nat.le_of_ble_eq_true rfl) ?_
  intro χ K T hl1 hg1
  have K : zOk χ cX1_answer RX1 2 0 none := K
  show zV χ 2 ad zSH 0 0 0 [(0, .ref (ad 25)), (1, .int (zi ((l : Nat) : Int)))] [] μ
  refine z_aload_n K dX1_answer_0 rfl ?_
  refine z_get (k := 25) (v := .ref (ad 26)) K dX1_answer_1 fl_X1_11 rfl rfl rfl ?_
  refine z_bipush K dX1_answer_4 (by decide +kernel) ?_
  refine z_iload_n K dX1_answer_6 rfl ?_
  refine z_iadd K dX1_answer_7 ?_
  refine z_iconst K dX1_answer_8 ?_
  refine z_iast (k := 26) K dX1_answer_9 (12 + l) rfl (by decide) (by omega) (by omega) ?_
  exact z_vretd K T rfl dX1_answer_10 rfl
end
section
set_option maxHeartbeats 4000000 in
set_option maxRecDepth 100000 in
theorem ct_beLike (la : Launch) (g0 : zG) (ad : Nat → Nat) (μ : zMem)  : zCon la g0 yX1_beLike cX1_beLike 3 none 1 ad zSH [.ref (ad 25), .ref (ad 17)] μ (zPm (zup (zup μ 26 (μ 18)) 27 (fun _ => 0))) := by
  refine zCon_of (by decide +kernel) (Nat.le_of_ble_eq_true rfl) ?_
  intro χ K T hl1 hg1
  have K : zOk χ cX1_beLike RX1 3 1 none := K
  show zV χ 3 ad zSH 0 0 0 [(0, .ref (ad 25)), (1, .ref (ad 17))] [] μ
  refine z_aload_n K dX1_beLike_0 rfl ?_
  refine z_get (k := 17) (v := .ref (ad 18)) K dX1_beLike_1 fl_X1_11 rfl rfl rfl ?_
  refine z_iconst K dX1_beLike_4 ?_
  refine z_aload_n K dX1_beLike_5 rfl ?_
  refine z_get (k := 25) (v := .ref (ad 26)) K dX1_beLike_6 fl_X1_11 rfl rfl rfl ?_
  refine z_iconst K dX1_beLike_9 ?_
  refine z_bipush K dX1_beLike_10 (by decide +kernel) ?_
  refine z_copy (k0 := 18) (k1 := 26) K dX1_beLike_12 lk_X1_40 (by decide) rfl rfl 0 0 23 (by omega) (by omega) (by omega) ⟨by decide, by decide⟩ ⟨by decide, by decide⟩ (Nat.le_of_ble_eq_true rfl) ?_
  refine z_eqv (k := 26) (n := 23) (b := false) (ν := zup (zup μ 26 (μ 18)) 27 (μ 27)) rfl (fun q hq => ?_) (fun j hj => ?_) ?_
  · unfold zup; by_cases h27 : q = 27
    · subst h27; rfl
    · simp [hq, h27]
  · show zcpy (μ 18) (μ 26) 0 0 23 j = μ 18 j
    unfold zcpy; rw [if_pos ⟨by omega, by omega⟩]; congr 1; omega
  refine z_iconst K dX1_beLike_15 ?_
  refine z_istore_n (lv' := [(0, .ref (ad 25)), (1, .ref (ad 17)), (2, .int (zi (0 : Int)))]) K dX1_beLike_16 (by decide) rfl ?_
  have L17 : ∀ i, i ≤ 3 → ∀ (a : Nat → Int), (∀ j, j < i → a j = 0) → zV χ 3 ad zSH 0 0 17 [(0, .ref (ad 25)), (1, .ref (ad 17)), (2, .int (zi ((i : Nat) : Int)))] [] (zup (zup μ 26 (μ 18)) 27 a) := by
    refine zfor ?_
    intro i hi ih a ha
    refine z_iload_n K dX1_beLike_17 rfl ?_
    refine z_iconst K dX1_beLike_18 ?_
    refine z_icmpge (tgt := 35) K dX1_beLike_19 (by decide) (by omega) ⟨by decide, by decide⟩ (fun h19 => ?_) (fun h19 => ?_)
    · refine z_eqv (k := 27) (n := 3) (b := false) (ν := zup (zup μ 26 (μ 18)) 27 (fun _ => 0)) rfl (fun q hq => ?_) (fun j hj => ?_) ?_
      · unfold zup; simp [hq]
      · exact ha j (by omega)
      exact z_vretd K T rfl dX1_beLike_35 (by rfl)
    · refine z_aload_n K dX1_beLike_22 rfl ?_
      refine z_get (k := 25) (v := .ref (ad 27)) K dX1_beLike_23 fl_X1_15 rfl rfl rfl ?_
      refine z_iload_n K dX1_beLike_26 rfl ?_
      refine z_iconst K dX1_beLike_27 ?_
      refine z_iast (k := 27) K dX1_beLike_28 i rfl (by decide) (by omega) (by omega) (z_mem (ν := zup (zup μ 26 (μ 18)) 27 (zu1 a i (0 : Int))) (zup_same _ _ _ _) ?_)
      refine z_iincN (lv' := [(0, .ref (ad 25)), (1, .ref (ad 17)), (2, .int (zi ((i + 1 : Nat) : Int)))]) K dX1_beLike_29 rfl (by decide) rfl ?_
      refine z_goto (tgt := 17) K dX1_beLike_32 (by decide) ?_
      exact ih (i + 1) (by omega) (by omega) _ (fun j hj => by
        simp only [zu1]
        split
        · rfl
        · exact ha j (by omega))
  exact L17 0 (by omega) _ (fun j hj => absurd hj (by omega))
end
section
theorem zz_look : lw_g.length + 0 = lw_g.length := rfl
end
