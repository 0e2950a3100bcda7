section
-- ===== PART A: goes FIRST, ahead of the names: the tables' words, and 'selects' of the private methods out of them =====
/-- a private method of a class that the tables say can be made, by its rows of tables_1 -/
def lw_okq (q : MethodName × Nat) : Prop := (q.1.cls ≠ "java/lang/invoke/MethodHandle" ∧ q.1.cls ≠ "java/lang/invoke/VarHandle") ∧ Cond.instantiable q.1.cls q.2 ∈ tables_1 ∧ Cond.privateMethod q.1 ∈ tables_1 ∧ Cond.instanceMethod q.1 ∈ tables_1
theorem lw_p0 : lw_okq (⟨"TapeSealer", "lookAtHeaders", "()V"⟩, 15) := ⟨⟨by decide +kernel, by decide +kernel⟩, List.mem_of_getElem? (i := 24) (by decide +kernel), List.mem_of_getElem? (i := 297) (by decide +kernel), List.mem_of_getElem? (i := 298) (by decide +kernel)⟩
theorem lw_p1 : lw_okq (⟨"TapeSealer", "counts", "(LTapeSealer$Label;I)Z"⟩, 15) := ⟨⟨by decide +kernel, by decide +kernel⟩, List.mem_of_getElem? (i := 24) (by decide +kernel), List.mem_of_getElem? (i := 301) (by decide +kernel), List.mem_of_getElem? (i := 302) (by decide +kernel)⟩
theorem lw_p2 : lw_okq (⟨"TapeSealer$Sealing", "startHeaderNonce", "(LTapeSealer$Label;)V"⟩, 5) := ⟨⟨by decide +kernel, by decide +kernel⟩, List.mem_of_getElem? (i := 88) (by decide +kernel), List.mem_of_getElem? (i := 316) (by decide +kernel), List.mem_of_getElem? (i := 317) (by decide +kernel)⟩
theorem lw_p3 : lw_okq (⟨"TapeSealer$Sealing", "startNonce", "(II)V"⟩, 5) := ⟨⟨by decide +kernel, by decide +kernel⟩, List.mem_of_getElem? (i := 88) (by decide +kernel), List.mem_of_getElem? (i := 320) (by decide +kernel), List.mem_of_getElem? (i := 321) (by decide +kernel)⟩
theorem lw_p4 : lw_okq (⟨"TapeSealer$Sealing", "makeTag", "([I[II[II)V"⟩, 5) := ⟨⟨by decide +kernel, by decide +kernel⟩, List.mem_of_getElem? (i := 88) (by decide +kernel), List.mem_of_getElem? (i := 330) (by decide +kernel), List.mem_of_getElem? (i := 331) (by decide +kernel)⟩
theorem lw_p5 : lw_okq (⟨"TapeSealer$KeyStream", "mix", "(IIII)V"⟩, 3) := ⟨⟨by decide +kernel, by decide +kernel⟩, List.mem_of_getElem? (i := 94) (by decide +kernel), List.mem_of_getElem? (i := 348) (by decide +kernel), List.mem_of_getElem? (i := 349) (by decide +kernel)⟩
theorem lw_p6 : lw_okq (⟨"TapeSealer$Authenticator", "multiply", "()V"⟩, 5) := ⟨⟨by decide +kernel, by decide +kernel⟩, List.mem_of_getElem? (i := 111) (by decide +kernel), List.mem_of_getElem? (i := 368) (by decide +kernel), List.mem_of_getElem? (i := 369) (by decide +kernel)⟩
theorem lw_p7 : lw_okq (⟨"TapeSealer$Authenticator", "carryOver", "([J)V"⟩, 5) := ⟨⟨by decide +kernel, by decide +kernel⟩, List.mem_of_getElem? (i := 111) (by decide +kernel), List.mem_of_getElem? (i := 373) (by decide +kernel), List.mem_of_getElem? (i := 374) (by decide +kernel)⟩
theorem lw_p8 : lw_okq (⟨"TapeSealer$Authenticator", "byteAt", "(I)I"⟩, 5) := ⟨⟨by decide +kernel, by decide +kernel⟩, List.mem_of_getElem? (i := 111) (by decide +kernel), List.mem_of_getElem? (i := 386) (by decide +kernel), List.mem_of_getElem? (i := 387) (by decide +kernel)⟩
theorem lw_p9 : lw_okq (⟨"TapeSealer$Sealing", "hasTag", "([I)Z"⟩, 5) := ⟨⟨by decide +kernel, by decide +kernel⟩, List.mem_of_getElem? (i := 88) (by decide +kernel), List.mem_of_getElem? (i := 390) (by decide +kernel), List.mem_of_getElem? (i := 391) (by decide +kernel)⟩
theorem lw_p10 : lw_okq (⟨"TapeSealer", "countFiles", "()I"⟩, 15) := ⟨⟨by decide +kernel, by decide +kernel⟩, List.mem_of_getElem? (i := 24) (by decide +kernel), List.mem_of_getElem? (i := 394) (by decide +kernel), List.mem_of_getElem? (i := 395) (by decide +kernel)⟩
theorem lw_p11 : lw_okq (⟨"java/lang/Throwable", "fillInStackTrace", "(I)Ljava/lang/Throwable;"⟩, 6) := ⟨⟨by decide +kernel, by decide +kernel⟩, List.mem_of_getElem? (i := 446) (by decide +kernel), List.mem_of_getElem? (i := 444) (by decide +kernel), List.mem_of_getElem? (i := 445) (by decide +kernel)⟩
theorem lw_p12 : lw_okq (⟨"TapeSealer", "leastMissing", "()I"⟩, 15) := ⟨⟨by decide +kernel, by decide +kernel⟩, List.mem_of_getElem? (i := 24) (by decide +kernel), List.mem_of_getElem? (i := 483) (by decide +kernel), List.mem_of_getElem? (i := 484) (by decide +kernel)⟩
theorem lw_p13 : lw_okq (⟨"TapeSealer", "firstFree", "(I)I"⟩, 15) := ⟨⟨by decide +kernel, by decide +kernel⟩, List.mem_of_getElem? (i := 24) (by decide +kernel), List.mem_of_getElem? (i := 497) (by decide +kernel), List.mem_of_getElem? (i := 498) (by decide +kernel)⟩
theorem lw_p14 : lw_okq (⟨"TapeSealer", "ownerOf", "(I)I"⟩, 15) := ⟨⟨by decide +kernel, by decide +kernel⟩, List.mem_of_getElem? (i := 24) (by decide +kernel), List.mem_of_getElem? (i := 501) (by decide +kernel), List.mem_of_getElem? (i := 502) (by decide +kernel)⟩
theorem lw_p15 : lw_okq (⟨"TapeSealer", "placeDraft", "()Z"⟩, 15) := ⟨⟨by decide +kernel, by decide +kernel⟩, List.mem_of_getElem? (i := 24) (by decide +kernel), List.mem_of_getElem? (i := 517) (by decide +kernel), List.mem_of_getElem? (i := 518) (by decide +kernel)⟩
def lw_privs_1 : List (MethodName × Nat) := [(⟨"TapeSealer", "lookAtHeaders", "()V"⟩, 15), (⟨"TapeSealer", "counts", "(LTapeSealer$Label;I)Z"⟩, 15), (⟨"TapeSealer$Sealing", "startHeaderNonce", "(LTapeSealer$Label;)V"⟩, 5), (⟨"TapeSealer$Sealing", "startNonce", "(II)V"⟩, 5), (⟨"TapeSealer$Sealing", "makeTag", "([I[II[II)V"⟩, 5), (⟨"TapeSealer$KeyStream", "mix", "(IIII)V"⟩, 3), (⟨"TapeSealer$Authenticator", "multiply", "()V"⟩, 5), (⟨"TapeSealer$Authenticator", "carryOver", "([J)V"⟩, 5), (⟨"TapeSealer$Authenticator", "byteAt", "(I)I"⟩, 5), (⟨"TapeSealer$Sealing", "hasTag", "([I)Z"⟩, 5), (⟨"TapeSealer", "countFiles", "()I"⟩, 15), (⟨"java/lang/Throwable", "fillInStackTrace", "(I)Ljava/lang/Throwable;"⟩, 6), (⟨"TapeSealer", "leastMissing", "()I"⟩, 15), (⟨"TapeSealer", "firstFree", "(I)I"⟩, 15), (⟨"TapeSealer", "ownerOf", "(I)I"⟩, 15), (⟨"TapeSealer", "placeDraft", "()Z"⟩, 15)]
theorem lw_r1 : ∀ q ∈ lw_privs_1, lw_okq q := List.forall_mem_cons.mpr ⟨lw_p0, List.forall_mem_cons.mpr ⟨lw_p1, List.forall_mem_cons.mpr ⟨lw_p2, List.forall_mem_cons.mpr ⟨lw_p3, List.forall_mem_cons.mpr ⟨lw_p4, List.forall_mem_cons.mpr ⟨lw_p5, List.forall_mem_cons.mpr ⟨lw_p6, List.forall_mem_cons.mpr ⟨lw_p7, List.forall_mem_cons.mpr ⟨lw_p8, List.forall_mem_cons.mpr ⟨lw_p9, List.forall_mem_cons.mpr ⟨lw_p10, List.forall_mem_cons.mpr ⟨lw_p11, List.forall_mem_cons.mpr ⟨lw_p12, List.forall_mem_cons.mpr ⟨lw_p13, List.forall_mem_cons.mpr ⟨lw_p14, List.forall_mem_cons.mpr ⟨lw_p15, fun _ h => absurd h List.not_mem_nil⟩⟩⟩⟩⟩⟩⟩⟩⟩⟩⟩⟩⟩⟩⟩⟩
theorem lw_p16 : lw_okq (⟨"TapeSealer", "writeGroups", "()Z"⟩, 15) := ⟨⟨by decide +kernel, by decide +kernel⟩, List.mem_of_getElem? (i := 24) (by decide +kernel), List.mem_of_getElem? (i := 526) (by decide +kernel), List.mem_of_getElem? (i := 527) (by decide +kernel)⟩
theorem lw_p17 : lw_okq (⟨"TapeSealer", "fillData", "(I[I)V"⟩, 15) := ⟨⟨by decide +kernel, by decide +kernel⟩, List.mem_of_getElem? (i := 24) (by decide +kernel), List.mem_of_getElem? (i := 530) (by decide +kernel), List.mem_of_getElem? (i := 531) (by decide +kernel)⟩
theorem lw_p18 : lw_okq (⟨"TapeSealer$Sealing", "startSegmentNonce", "(LTapeSealer$Label;I)V"⟩, 5) := ⟨⟨by decide +kernel, by decide +kernel⟩, List.mem_of_getElem? (i := 88) (by decide +kernel), List.mem_of_getElem? (i := 546) (by decide +kernel), List.mem_of_getElem? (i := 547) (by decide +kernel)⟩
theorem lw_p19 : lw_okq (⟨"TapeSealer$Sealing", "turn", "([I[II)V"⟩, 5) := ⟨⟨by decide +kernel, by decide +kernel⟩, List.mem_of_getElem? (i := 88) (by decide +kernel), List.mem_of_getElem? (i := 551) (by decide +kernel), List.mem_of_getElem? (i := 552) (by decide +kernel)⟩
theorem lw_p20 : lw_okq (⟨"TapeSealer", "writeHeader", "(LTapeSealer$Label;)Z"⟩, 15) := ⟨⟨by decide +kernel, by decide +kernel⟩, List.mem_of_getElem? (i := 24) (by decide +kernel), List.mem_of_getElem? (i := 577) (by decide +kernel), List.mem_of_getElem? (i := 578) (by decide +kernel)⟩
theorem lw_p21 : lw_okq (⟨"TapeSealer", "writeTwice", "(I[I)Z"⟩, 15) := ⟨⟨by decide +kernel, by decide +kernel⟩, List.mem_of_getElem? (i := 24) (by decide +kernel), List.mem_of_getElem? (i := 585) (by decide +kernel), List.mem_of_getElem? (i := 586) (by decide +kernel)⟩
theorem lw_p22 : lw_okq (⟨"TapeSealer", "exists", "(I)Z"⟩, 15) := ⟨⟨by decide +kernel, by decide +kernel⟩, List.mem_of_getElem? (i := 24) (by decide +kernel), List.mem_of_getElem? (i := 600) (by decide +kernel), List.mem_of_getElem? (i := 601) (by decide +kernel)⟩
theorem lw_p23 : lw_okq (⟨"TapeSealer", "gatherGroup", "(LTapeSealer$Label;III)Z"⟩, 15) := ⟨⟨by decide +kernel, by decide +kernel⟩, List.mem_of_getElem? (i := 24) (by decide +kernel), List.mem_of_getElem? (i := 634) (by decide +kernel), List.mem_of_getElem? (i := 635) (by decide +kernel)⟩
theorem lw_p24 : lw_okq (⟨"TapeSealer$Stripe", "stands", "(LTapeSealer$Label;II)Z"⟩, 5) := ⟨⟨by decide +kernel, by decide +kernel⟩, List.mem_of_getElem? (i := 151) (by decide +kernel), List.mem_of_getElem? (i := 643) (by decide +kernel), List.mem_of_getElem? (i := 644) (by decide +kernel)⟩
theorem lw_p25 : lw_okq (⟨"TapeSealer$Stripe", "solveOne", "(II)Z"⟩, 5) := ⟨⟨by decide +kernel, by decide +kernel⟩, List.mem_of_getElem? (i := 151) (by decide +kernel), List.mem_of_getElem? (i := 659) (by decide +kernel), List.mem_of_getElem? (i := 660) (by decide +kernel)⟩
theorem lw_p26 : lw_okq (⟨"TapeSealer$Stripe", "restOfParity", "(II)I"⟩, 5) := ⟨⟨by decide +kernel, by decide +kernel⟩, List.mem_of_getElem? (i := 151) (by decide +kernel), List.mem_of_getElem? (i := 663) (by decide +kernel), List.mem_of_getElem? (i := 664) (by decide +kernel)⟩
theorem lw_p27 : lw_okq (⟨"TapeSealer$Stripe", "solveTwo", "(II)Z"⟩, 5) := ⟨⟨by decide +kernel, by decide +kernel⟩, List.mem_of_getElem? (i := 151) (by decide +kernel), List.mem_of_getElem? (i := 667) (by decide +kernel), List.mem_of_getElem? (i := 668) (by decide +kernel)⟩
theorem lw_p28 : lw_okq (⟨"TapeSealer", "isUsed", "(I)Z"⟩, 15) := ⟨⟨by decide +kernel, by decide +kernel⟩, List.mem_of_getElem? (i := 24) (by decide +kernel), List.mem_of_getElem? (i := 738) (by decide +kernel), List.mem_of_getElem? (i := 739) (by decide +kernel)⟩
theorem lw_p29 : lw_okq (⟨"TapeSealer$Stripe", "isWrong", "(I)Z"⟩, 5) := ⟨⟨by decide +kernel, by decide +kernel⟩, List.mem_of_getElem? (i := 151) (by decide +kernel), List.mem_of_getElem? (i := 766) (by decide +kernel), List.mem_of_getElem? (i := 767) (by decide +kernel)⟩
theorem lw_p30 : lw_okq (⟨"TapeSealer", "countFree", "()I"⟩, 15) := ⟨⟨by decide +kernel, by decide +kernel⟩, List.mem_of_getElem? (i := 24) (by decide +kernel), List.mem_of_getElem? (i := 816) (by decide +kernel), List.mem_of_getElem? (i := 817) (by decide +kernel)⟩
theorem lw_p31 : lw_okq (⟨"TapeSealerModel", "files", "()I"⟩, 45) := ⟨⟨by decide +kernel, by decide +kernel⟩, List.mem_of_getElem? (i := 820) (by decide +kernel), List.mem_of_getElem? (i := 978) (by decide +kernel), List.mem_of_getElem? (i := 979) (by decide +kernel)⟩
def lw_privs_2 : List (MethodName × Nat) := [(⟨"TapeSealer", "writeGroups", "()Z"⟩, 15), (⟨"TapeSealer", "fillData", "(I[I)V"⟩, 15), (⟨"TapeSealer$Sealing", "startSegmentNonce", "(LTapeSealer$Label;I)V"⟩, 5), (⟨"TapeSealer$Sealing", "turn", "([I[II)V"⟩, 5), (⟨"TapeSealer", "writeHeader", "(LTapeSealer$Label;)Z"⟩, 15), (⟨"TapeSealer", "writeTwice", "(I[I)Z"⟩, 15), (⟨"TapeSealer", "exists", "(I)Z"⟩, 15), (⟨"TapeSealer", "gatherGroup", "(LTapeSealer$Label;III)Z"⟩, 15), (⟨"TapeSealer$Stripe", "stands", "(LTapeSealer$Label;II)Z"⟩, 5), (⟨"TapeSealer$Stripe", "solveOne", "(II)Z"⟩, 5), (⟨"TapeSealer$Stripe", "restOfParity", "(II)I"⟩, 5), (⟨"TapeSealer$Stripe", "solveTwo", "(II)Z"⟩, 5), (⟨"TapeSealer", "isUsed", "(I)Z"⟩, 15), (⟨"TapeSealer$Stripe", "isWrong", "(I)Z"⟩, 5), (⟨"TapeSealer", "countFree", "()I"⟩, 15), (⟨"TapeSealerModel", "files", "()I"⟩, 45)]
theorem lw_r2 : ∀ q ∈ lw_privs_2, lw_okq q := List.forall_mem_cons.mpr ⟨lw_p16, List.forall_mem_cons.mpr ⟨lw_p17, List.forall_mem_cons.mpr ⟨lw_p18, List.forall_mem_cons.mpr ⟨lw_p19, List.forall_mem_cons.mpr ⟨lw_p20, List.forall_mem_cons.mpr ⟨lw_p21, List.forall_mem_cons.mpr ⟨lw_p22, List.forall_mem_cons.mpr ⟨lw_p23, List.forall_mem_cons.mpr ⟨lw_p24, List.forall_mem_cons.mpr ⟨lw_p25, List.forall_mem_cons.mpr ⟨lw_p26, List.forall_mem_cons.mpr ⟨lw_p27, List.forall_mem_cons.mpr ⟨lw_p28, List.forall_mem_cons.mpr ⟨lw_p29, List.forall_mem_cons.mpr ⟨lw_p30, List.forall_mem_cons.mpr ⟨lw_p31, fun _ h => absurd h List.not_mem_nil⟩⟩⟩⟩⟩⟩⟩⟩⟩⟩⟩⟩⟩⟩⟩⟩
theorem lw_p32 : lw_okq (⟨"TapeSealerModel", "look", "(I)Z"⟩, 45) := ⟨⟨by decide +kernel, by decide +kernel⟩, List.mem_of_getElem? (i := 820) (by decide +kernel), List.mem_of_getElem? (i := 982) (by decide +kernel), List.mem_of_getElem? (i := 983) (by decide +kernel)⟩
theorem lw_p33 : lw_okq (⟨"TapeSealerModel", "isGoodHeader", "(II)Z"⟩, 45) := ⟨⟨by decide +kernel, by decide +kernel⟩, List.mem_of_getElem? (i := 820) (by decide +kernel), List.mem_of_getElem? (i := 986) (by decide +kernel), List.mem_of_getElem? (i := 987) (by decide +kernel)⟩
theorem lw_p34 : lw_okq (⟨"TapeSealerModel", "useEpoch", "(I)V"⟩, 45) := ⟨⟨by decide +kernel, by decide +kernel⟩, List.mem_of_getElem? (i := 820) (by decide +kernel), List.mem_of_getElem? (i := 990) (by decide +kernel), List.mem_of_getElem? (i := 991) (by decide +kernel)⟩
theorem lw_p35 : lw_okq (⟨"TapeSealerModel", "nonce", "(IIII)V"⟩, 45) := ⟨⟨by decide +kernel, by decide +kernel⟩, List.mem_of_getElem? (i := 820) (by decide +kernel), List.mem_of_getElem? (i := 994) (by decide +kernel), List.mem_of_getElem? (i := 995) (by decide +kernel)⟩
theorem lw_p36 : lw_okq (⟨"TapeSealerModel", "opens", "([II)Z"⟩, 45) := ⟨⟨by decide +kernel, by decide +kernel⟩, List.mem_of_getElem? (i := 820) (by decide +kernel), List.mem_of_getElem? (i := 998) (by decide +kernel), List.mem_of_getElem? (i := 999) (by decide +kernel)⟩
theorem lw_p37 : lw_okq (⟨"TapeSealerModel", "tagNow", "()V"⟩, 45) := ⟨⟨by decide +kernel, by decide +kernel⟩, List.mem_of_getElem? (i := 820) (by decide +kernel), List.mem_of_getElem? (i := 1002) (by decide +kernel), List.mem_of_getElem? (i := 1003) (by decide +kernel)⟩
theorem lw_p38 : lw_okq (⟨"TapeSealerModel", "putMac", "([II)V"⟩, 45) := ⟨⟨by decide +kernel, by decide +kernel⟩, List.mem_of_getElem? (i := 820) (by decide +kernel), List.mem_of_getElem? (i := 1006) (by decide +kernel), List.mem_of_getElem? (i := 1007) (by decide +kernel)⟩
theorem lw_p39 : lw_okq (⟨"TapeSealerModel", "stream", "(I)V"⟩, 45) := ⟨⟨by decide +kernel, by decide +kernel⟩, List.mem_of_getElem? (i := 820) (by decide +kernel), List.mem_of_getElem? (i := 1010) (by decide +kernel), List.mem_of_getElem? (i := 1011) (by decide +kernel)⟩
theorem lw_p40 : lw_okq (⟨"TapeSealerModel", "quarter", "(IIII)V"⟩, 45) := ⟨⟨by decide +kernel, by decide +kernel⟩, List.mem_of_getElem? (i := 820) (by decide +kernel), List.mem_of_getElem? (i := 1021) (by decide +kernel), List.mem_of_getElem? (i := 1022) (by decide +kernel)⟩
theorem lw_p41 : lw_okq (⟨"TapeSealerModel", "reckonTag", "()V"⟩, 45) := ⟨⟨by decide +kernel, by decide +kernel⟩, List.mem_of_getElem? (i := 820) (by decide +kernel), List.mem_of_getElem? (i := 1028) (by decide +kernel), List.mem_of_getElem? (i := 1029) (by decide +kernel)⟩
theorem lw_p42 : lw_okq (⟨"TapeSealerModel", "add", "([III)V"⟩, 45) := ⟨⟨by decide +kernel, by decide +kernel⟩, List.mem_of_getElem? (i := 820) (by decide +kernel), List.mem_of_getElem? (i := 1032) (by decide +kernel), List.mem_of_getElem? (i := 1033) (by decide +kernel)⟩
theorem lw_p43 : lw_okq (⟨"TapeSealerModel", "times", "()V"⟩, 45) := ⟨⟨by decide +kernel, by decide +kernel⟩, List.mem_of_getElem? (i := 820) (by decide +kernel), List.mem_of_getElem? (i := 1036) (by decide +kernel), List.mem_of_getElem? (i := 1037) (by decide +kernel)⟩
theorem lw_p44 : lw_okq (⟨"TapeSealerModel", "cover", "()V"⟩, 45) := ⟨⟨by decide +kernel, by decide +kernel⟩, List.mem_of_getElem? (i := 820) (by decide +kernel), List.mem_of_getElem? (i := 1040) (by decide +kernel), List.mem_of_getElem? (i := 1041) (by decide +kernel)⟩
theorem lw_p45 : lw_okq (⟨"TapeSealerModel", "room", "(I)I"⟩, 45) := ⟨⟨by decide +kernel, by decide +kernel⟩, List.mem_of_getElem? (i := 820) (by decide +kernel), List.mem_of_getElem? (i := 1051) (by decide +kernel), List.mem_of_getElem? (i := 1052) (by decide +kernel)⟩
theorem lw_p46 : lw_okq (⟨"TapeSealerModel", "taken", "()I"⟩, 45) := ⟨⟨by decide +kernel, by decide +kernel⟩, List.mem_of_getElem? (i := 820) (by decide +kernel), List.mem_of_getElem? (i := 1055) (by decide +kernel), List.mem_of_getElem? (i := 1056) (by decide +kernel)⟩
theorem lw_p47 : lw_okq (⟨"TapeSealerModel", "saltTo", "([III)V"⟩, 45) := ⟨⟨by decide +kernel, by decide +kernel⟩, List.mem_of_getElem? (i := 820) (by decide +kernel), List.mem_of_getElem? (i := 1063) (by decide +kernel), List.mem_of_getElem? (i := 1064) (by decide +kernel)⟩
def lw_privs_3 : List (MethodName × Nat) := [(⟨"TapeSealerModel", "look", "(I)Z"⟩, 45), (⟨"TapeSealerModel", "isGoodHeader", "(II)Z"⟩, 45), (⟨"TapeSealerModel", "useEpoch", "(I)V"⟩, 45), (⟨"TapeSealerModel", "nonce", "(IIII)V"⟩, 45), (⟨"TapeSealerModel", "opens", "([II)Z"⟩, 45), (⟨"TapeSealerModel", "tagNow", "()V"⟩, 45), (⟨"TapeSealerModel", "putMac", "([II)V"⟩, 45), (⟨"TapeSealerModel", "stream", "(I)V"⟩, 45), (⟨"TapeSealerModel", "quarter", "(IIII)V"⟩, 45), (⟨"TapeSealerModel", "reckonTag", "()V"⟩, 45), (⟨"TapeSealerModel", "add", "([III)V"⟩, 45), (⟨"TapeSealerModel", "times", "()V"⟩, 45), (⟨"TapeSealerModel", "cover", "()V"⟩, 45), (⟨"TapeSealerModel", "room", "(I)I"⟩, 45), (⟨"TapeSealerModel", "taken", "()I"⟩, 45), (⟨"TapeSealerModel", "saltTo", "([III)V"⟩, 45)]
theorem lw_r3 : ∀ q ∈ lw_privs_3, lw_okq q := List.forall_mem_cons.mpr ⟨lw_p32, List.forall_mem_cons.mpr ⟨lw_p33, List.forall_mem_cons.mpr ⟨lw_p34, List.forall_mem_cons.mpr ⟨lw_p35, List.forall_mem_cons.mpr ⟨lw_p36, List.forall_mem_cons.mpr ⟨lw_p37, List.forall_mem_cons.mpr ⟨lw_p38, List.forall_mem_cons.mpr ⟨lw_p39, List.forall_mem_cons.mpr ⟨lw_p40, List.forall_mem_cons.mpr ⟨lw_p41, List.forall_mem_cons.mpr ⟨lw_p42, List.forall_mem_cons.mpr ⟨lw_p43, List.forall_mem_cons.mpr ⟨lw_p44, List.forall_mem_cons.mpr ⟨lw_p45, List.forall_mem_cons.mpr ⟨lw_p46, List.forall_mem_cons.mpr ⟨lw_p47, fun _ h => absurd h List.not_mem_nil⟩⟩⟩⟩⟩⟩⟩⟩⟩⟩⟩⟩⟩⟩⟩⟩
theorem lw_p48 : lw_okq (⟨"TapeSealerModel", "makeSegment", "(I)V"⟩, 45) := ⟨⟨by decide +kernel, by decide +kernel⟩, List.mem_of_getElem? (i := 820) (by decide +kernel), List.mem_of_getElem? (i := 1067) (by decide +kernel), List.mem_of_getElem? (i := 1068) (by decide +kernel)⟩
theorem lw_p49 : lw_okq (⟨"TapeSealerModel", "segments", "()I"⟩, 45) := ⟨⟨by decide +kernel, by decide +kernel⟩, List.mem_of_getElem? (i := 820) (by decide +kernel), List.mem_of_getElem? (i := 1071) (by decide +kernel), List.mem_of_getElem? (i := 1072) (by decide +kernel)⟩
theorem lw_p50 : lw_okq (⟨"TapeSealerModel", "segmentNonce", "(I)V"⟩, 45) := ⟨⟨by decide +kernel, by decide +kernel⟩, List.mem_of_getElem? (i := 820) (by decide +kernel), List.mem_of_getElem? (i := 1075) (by decide +kernel), List.mem_of_getElem? (i := 1076) (by decide +kernel)⟩
theorem lw_p51 : lw_okq (⟨"TapeSealerModel", "useFile", "()V"⟩, 45) := ⟨⟨by decide +kernel, by decide +kernel⟩, List.mem_of_getElem? (i := 820) (by decide +kernel), List.mem_of_getElem? (i := 1079) (by decide +kernel), List.mem_of_getElem? (i := 1080) (by decide +kernel)⟩
theorem lw_p52 : lw_okq (⟨"TapeSealerModel", "seal", "()V"⟩, 45) := ⟨⟨by decide +kernel, by decide +kernel⟩, List.mem_of_getElem? (i := 820) (by decide +kernel), List.mem_of_getElem? (i := 1083) (by decide +kernel), List.mem_of_getElem? (i := 1084) (by decide +kernel)⟩
theorem lw_p53 : lw_okq (⟨"TapeSealerModel", "writeGroup", "(I)Z"⟩, 45) := ⟨⟨by decide +kernel, by decide +kernel⟩, List.mem_of_getElem? (i := 820) (by decide +kernel), List.mem_of_getElem? (i := 1087) (by decide +kernel), List.mem_of_getElem? (i := 1088) (by decide +kernel)⟩
theorem lw_p54 : lw_okq (⟨"TapeSealerModel", "reckonParity", "()V"⟩, 45) := ⟨⟨by decide +kernel, by decide +kernel⟩, List.mem_of_getElem? (i := 820) (by decide +kernel), List.mem_of_getElem? (i := 1091) (by decide +kernel), List.mem_of_getElem? (i := 1092) (by decide +kernel)⟩
theorem lw_p55 : lw_okq (⟨"TapeSealerModel", "write", "(I)Z"⟩, 45) := ⟨⟨by decide +kernel, by decide +kernel⟩, List.mem_of_getElem? (i := 820) (by decide +kernel), List.mem_of_getElem? (i := 1107) (by decide +kernel), List.mem_of_getElem? (i := 1108) (by decide +kernel)⟩
theorem lw_p56 : lw_okq (⟨"TapeSealerModel", "writeHeader", "(I)Z"⟩, 45) := ⟨⟨by decide +kernel, by decide +kernel⟩, List.mem_of_getElem? (i := 820) (by decide +kernel), List.mem_of_getElem? (i := 1111) (by decide +kernel), List.mem_of_getElem? (i := 1112) (by decide +kernel)⟩
theorem lw_p57 : lw_okq (⟨"TapeSealerModel", "gather", "(I)V"⟩, 45) := ⟨⟨by decide +kernel, by decide +kernel⟩, List.mem_of_getElem? (i := 820) (by decide +kernel), List.mem_of_getElem? (i := 1119) (by decide +kernel), List.mem_of_getElem? (i := 1120) (by decide +kernel)⟩
theorem lw_p58 : lw_okq (⟨"TapeSealerModel", "stands", "(II)Z"⟩, 45) := ⟨⟨by decide +kernel, by decide +kernel⟩, List.mem_of_getElem? (i := 820) (by decide +kernel), List.mem_of_getElem? (i := 1123) (by decide +kernel), List.mem_of_getElem? (i := 1124) (by decide +kernel)⟩
theorem lw_p59 : lw_okq (⟨"TapeSealerModel", "recover", "(I)Z"⟩, 45) := ⟨⟨by decide +kernel, by decide +kernel⟩, List.mem_of_getElem? (i := 820) (by decide +kernel), List.mem_of_getElem? (i := 1127) (by decide +kernel), List.mem_of_getElem? (i := 1128) (by decide +kernel)⟩
theorem lw_p60 : lw_okq (⟨"TapeSealerModel", "fromOne", "(III)Z"⟩, 45) := ⟨⟨by decide +kernel, by decide +kernel⟩, List.mem_of_getElem? (i := 820) (by decide +kernel), List.mem_of_getElem? (i := 1131) (by decide +kernel), List.mem_of_getElem? (i := 1132) (by decide +kernel)⟩
theorem lw_p61 : lw_okq (⟨"TapeSealerModel", "lack", "(III)I"⟩, 45) := ⟨⟨by decide +kernel, by decide +kernel⟩, List.mem_of_getElem? (i := 820) (by decide +kernel), List.mem_of_getElem? (i := 1135) (by decide +kernel), List.mem_of_getElem? (i := 1136) (by decide +kernel)⟩
theorem lw_p62 : lw_okq (⟨"TapeSealerModel", "fromBoth", "(III)Z"⟩, 45) := ⟨⟨by decide +kernel, by decide +kernel⟩, List.mem_of_getElem? (i := 820) (by decide +kernel), List.mem_of_getElem? (i := 1139) (by decide +kernel), List.mem_of_getElem? (i := 1140) (by decide +kernel)⟩
theorem lw_p63 : lw_okq (⟨"TapeSealerModel", "isOfFile", "(I)Z"⟩, 45) := ⟨⟨by decide +kernel, by decide +kernel⟩, List.mem_of_getElem? (i := 820) (by decide +kernel), List.mem_of_getElem? (i := 1167) (by decide +kernel), List.mem_of_getElem? (i := 1168) (by decide +kernel)⟩
def lw_privs_4 : List (MethodName × Nat) := [(⟨"TapeSealerModel", "makeSegment", "(I)V"⟩, 45), (⟨"TapeSealerModel", "segments", "()I"⟩, 45), (⟨"TapeSealerModel", "segmentNonce", "(I)V"⟩, 45), (⟨"TapeSealerModel", "useFile", "()V"⟩, 45), (⟨"TapeSealerModel", "seal", "()V"⟩, 45), (⟨"TapeSealerModel", "writeGroup", "(I)Z"⟩, 45), (⟨"TapeSealerModel", "reckonParity", "()V"⟩, 45), (⟨"TapeSealerModel", "write", "(I)Z"⟩, 45), (⟨"TapeSealerModel", "writeHeader", "(I)Z"⟩, 45), (⟨"TapeSealerModel", "gather", "(I)V"⟩, 45), (⟨"TapeSealerModel", "stands", "(II)Z"⟩, 45), (⟨"TapeSealerModel", "recover", "(I)Z"⟩, 45), (⟨"TapeSealerModel", "fromOne", "(III)Z"⟩, 45), (⟨"TapeSealerModel", "lack", "(III)I"⟩, 45), (⟨"TapeSealerModel", "fromBoth", "(III)Z"⟩, 45), (⟨"TapeSealerModel", "isOfFile", "(I)Z"⟩, 45)]
theorem lw_r4 : ∀ q ∈ lw_privs_4, lw_okq q := List.forall_mem_cons.mpr ⟨lw_p48, List.forall_mem_cons.mpr ⟨lw_p49, List.forall_mem_cons.mpr ⟨lw_p50, List.forall_mem_cons.mpr ⟨lw_p51, List.forall_mem_cons.mpr ⟨lw_p52, List.forall_mem_cons.mpr ⟨lw_p53, List.forall_mem_cons.mpr ⟨lw_p54, List.forall_mem_cons.mpr ⟨lw_p55, List.forall_mem_cons.mpr ⟨lw_p56, List.forall_mem_cons.mpr ⟨lw_p57, List.forall_mem_cons.mpr ⟨lw_p58, List.forall_mem_cons.mpr ⟨lw_p59, List.forall_mem_cons.mpr ⟨lw_p60, List.forall_mem_cons.mpr ⟨lw_p61, List.forall_mem_cons.mpr ⟨lw_p62, List.forall_mem_cons.mpr ⟨lw_p63, fun _ h => absurd h List.not_mem_nil⟩⟩⟩⟩⟩⟩⟩⟩⟩⟩⟩⟩⟩⟩⟩⟩
theorem lw_p64 : lw_okq (⟨"TapeSealerModel", "isParity", "(II)Z"⟩, 45) := ⟨⟨by decide +kernel, by decide +kernel⟩, List.mem_of_getElem? (i := 820) (by decide +kernel), List.mem_of_getElem? (i := 1171) (by decide +kernel), List.mem_of_getElem? (i := 1172) (by decide +kernel)⟩
def lw_privs_5 : List (MethodName × Nat) := [(⟨"TapeSealerModel", "isParity", "(II)Z"⟩, 45)]
theorem lw_r5 : ∀ q ∈ lw_privs_5, lw_okq q := List.forall_mem_cons.mpr ⟨lw_p64, fun _ h => absurd h List.not_mem_nil⟩
def lw_privs : List (MethodName × Nat) := lw_privs_1 ++ (lw_privs_2 ++ (lw_privs_3 ++ (lw_privs_4 ++ (lw_privs_5))))
def lw_tbl : List Cond := k2_sels lw_privs ++ tables_1
theorem lw_privs_ok : ∀ q ∈ lw_privs, lw_okq q := by
  show ∀ q ∈ lw_privs_1 ++ (lw_privs_2 ++ (lw_privs_3 ++ (lw_privs_4 ++ (lw_privs_5)))), lw_okq q
  exact List.forall_mem_append.mpr ⟨lw_r1, List.forall_mem_append.mpr ⟨lw_r2, List.forall_mem_append.mpr ⟨lw_r3, List.forall_mem_append.mpr ⟨lw_r4, lw_r5⟩⟩⟩⟩
end
section
/-! The tables' words as every contract of mine takes them: one list for all methods. -/
def gx_B : List Cond := lw_tbl.filter goodWord
theorem gx_mem {w : Cond} (k : Nat) (h : lw_tbl[k]? = some w) (g : goodWord w = true) : w ∈ gx_B := List.mem_filter.mpr ⟨List.mem_of_getElem? h, g⟩
theorem gx_ok {w : Cond} (h : w ∈ gx_B) : (w.onTables && w.keeps) = true ∨ ∃ ty, w = .arrayClass ty := good_of_word (List.mem_filter.mp h).2
theorem gx_good {w w1 : Cond} (h : w ∈ gx_B) : GoodIn (w1 :: gx_B) (w :: gx_B) := fun v hv => by
  have hv' : v ∈ gx_B := (List.mem_cons.mp hv).elim (fun e => by rw [e]; exact h) id
  exact ⟨List.mem_cons_of_mem _ hv', gx_ok hv'⟩
theorem gx_goodV {own C : String} {idx : Nat} {y : MethodName} {w w1 : Cond} (h1 : Cond.methodLink own idx y ∈ gx_B) (h2 : Cond.instanceMethod y ∈ gx_B) (h3 : Cond.selects C y y ∈ gx_B) (h4 : Cond.initialized C ∈ gx_B) (h : w ∈ gx_B) : GoodIn (w1 :: gx_B) (wsV own idx C y (w :: gx_B)) := fun v hv => by
  have hv' : v ∈ gx_B := by
    simp only [wsV, List.mem_append, List.mem_cons, List.not_mem_nil, or_false] at hv
    rcases hv with (rfl | rfl | rfl | rfl) | rfl | hv
    · exact h1
    · exact h2
    · exact h3
    · exact h4
    · exact h
    · exact hv
  exact ⟨List.mem_cons_of_mem _ hv', gx_ok hv'⟩
theorem gx_goodS {own : String} {idx : Nat} {y : MethodName} {w w1 : Cond} (h1 : Cond.methodLink own idx y ∈ gx_B) (h2 : Cond.static y ∈ gx_B) (h4 : Cond.initialized own ∈ gx_B) (h : w ∈ gx_B) : GoodIn (w1 :: gx_B) (wsS own idx y (w :: gx_B)) := fun v hv => by
  have hv' : v ∈ gx_B := by
    simp only [wsS, List.mem_append, List.mem_cons, List.not_mem_nil, or_false] at hv
    rcases hv with (rfl | rfl | rfl) | rfl | hv
    · exact h1
    · exact h2
    · exact h4
    · exact h
    · exact hv
  exact ⟨List.mem_cons_of_mem _ hv', gx_ok hv'⟩
theorem gx_u {C : String} {T : u_T} {N : Nat} (ps : List Nat) (hp : u_ws C T N = ps.filterMap (fun i => lw_tbl[i]?)) (hg : (u_ws C T N).all goodWord = true) : ∀ w ∈ u_ws C T N, w ∈ gx_B := fun w hw => by
  refine List.mem_filter.mpr ⟨?_, List.all_eq_true.mp hg w hw⟩
  rw [hp] at hw
  obtain ⟨i, -, hi⟩ := List.mem_filterMap.mp hw
  exact List.mem_of_getElem? hi
/-! Words of the tables that aren't good ones: nest links, casts, declared constructors. -/
def gx_nk : Cond → Bool
  | .methodLinkNest .. => true
  | .castable .. => true
  | .declares _ => true
  | _ => false
theorem gx_nk_warm {w : Cond} (hw : gx_nk w = true) {s U : State} (hW : s.WarmedH U.vm) (h : va_Nw w s) : va_Nw w U := by
  cases w with
  | methodLinkNest a i x h9 => exact va_Nw.warmM hW h
  | castable a b => exact va_Nw.warmC hW h
  | declares x => exact va_Nw.warmD hW h
  | _ => simp [gx_nk] at hw
theorem gx_nk_on {w : Cond} (hw : gx_nk w = true) : w.onTables = true := by
  cases w <;> first | rfl | (simp [gx_nk] at hw)
/-- a static field of Throwable: where it lies, and that it holds a reference or null -/
def jx_st (n d : String) (aS : Nat) (cS : Cell) (U : State) : Prop := ∃ (c : ClassId) (k : Class) (i : Nat) (f : Field), U.vm.findClass Bundle.tN = some c ∧ U.fieldFound? Bundle.tN n d = some (c, k, i, f) ∧ f.isStatic = true ∧ k.statics = some aS ∧ cS.vm.isStatics = true ∧ cS.cls = c ∧ f.slot < cS.slots.size ∧ k.staticTypes[f.slot]? = some f.type ∧ ∃ v : Value, cS.slots[f.slot]? = some v ∧ v.isRef = true
theorem jx_st.moved {n d : String} {aS : Nat} {cS : Cell} {u U : State} (hvm : u.vm.Alike U.vm) (h : jx_st n d aS cS u) : jx_st n d aS cS U := by
  obtain ⟨c, k, i, f, h1, h2, h3, h4, h5, h6, h7, h8, h9⟩ := h
  obtain ⟨k', hi', he⟩ := State.fieldFound?_setVm hvm h2
  exact ⟨c, k', i, f, by rw [hvm.findClass]; exact h1, hi', h3, by rw [he]; exact h4, h5, h6, h7, by rw [he]; exact h8, h9⟩
theorem jx_st.lays {n d : String} {aS : Nat} {cS : Cell} {U : State} {args : Array Value} (h : jx_st n d aS cS U) (hc : U.heap[aS]? = some cS) : (Cond.laysStatic Bundle.tN n d).before args U = true := by
  obtain ⟨c, k, i, f, h1, h2, h3, h4, h5, h6, h7, h8, h9⟩ := h
  show (Cond.laysStatic Bundle.tN n d).holds args U none U [] = true
  exact Cond.laysStatic_of h1 h2 h3 h4 hc h5 h6 h7 h8
theorem jx_st.isRef {n d : String} {aS : Nat} {cS : Cell} {U : State} {args : Array Value} (h : jx_st n d aS cS U) (hc : U.heap[aS]? = some cS) : (Cond.isRef (.static Bundle.tN n d)).before args U = true := by
  obtain ⟨c, k, i, f, h1, h2, h3, h4, h5, h6, h7, h8, v, h9, h10⟩ := h
  have he : (Term.static Bundle.tN n d).eval args U none [] U = some v := by simp [Term.eval, State.fieldNamed?, h2, h3, h4, hc, h5, h9]
  simp only [Cond.before, Cond.holds, Cond.value, he]
  cases v <;> simp_all [Value.isRef]
theorem jx_st.of {n d : String} {U : State} {args : Array Value} (hl : (Cond.laysStatic Bundle.tN n d).before args U = true) (hr : (Cond.isRef (.static Bundle.tN n d)).before args U = true) : ∃ (aS : Nat) (cS : Cell), U.heap[aS]? = some cS ∧ jx_st n d aS cS U := by
  obtain ⟨c, k, i, f, a, cell, h1, h2, h3, h4, h5, h6, h7, h8, h9⟩ := Cond.laysStatic_spec hl
  cases hv : cell.slots[f.slot]? with
  | none => exact absurd (Array.getElem?_eq_none_iff.mp hv) (by omega)
  | some v =>
    have he : (Term.static Bundle.tN n d).eval args U none [] U = some v := by simp [Term.eval, State.fieldNamed?, h2, h3, h4, h5, h6, hv]
    refine ⟨a, cell, h5, c, k, i, f, h1, h2, h3, h4, h6, h7, h8, h9, v, hv, ?_⟩
    simp only [Cond.before, Cond.holds, Cond.value, he] at hr
    cases v <;> simp_all [Value.isRef]
end
section
/-! Rows of my own for what this class does and the kit's rows have no word for: a method that throws, its catching, a call of a method with a table, a call that leaves the heap as it is. -/
section TXA
variable {l : Launch}
/-- q was thrown, an object of the class E; at most mc cells of ms slots are new, nothing old has changed -/
def tx_Q (E : String) (mc ms : Nat) (st : State) (o : Outcome) (t : State) : Prop :=
  ∃ (q : Addr) (ce : Cell), o = .threw q ∧ t.heap[q]? = some ce ∧ ce.vm = .none ∧ st.vm.findClass E = some ce.cls ∧ st.WarmedH t.vm ∧ st.sameButNew ({ t with vm := st.vm } : State) [] mc ms
/-- the contract of a method that throws -/
def tx_Met (l : Launch) (y : MethodName) (ws : List Cond) (rm : Room) (Pc : Array Value → State → Prop) (E : String) (mc ms : Nat) : Prop :=
  MetFree l y (headSpec ws rm) Pc (fun _ _ _ _ _ => True) (fun _ st o t => tx_Q E mc ms st o t)
def tx_MQ (below : List Frame) (E : String) (s : State) (mc ms : Nat) : State → Prop := fun t => ∃ o, t.status = .running ∧ Ended t below o ∧ tx_Q E mc ms s o t
theorem tx_ofW {y : MethodName} {ws ws' : List Cond} {rm : Room} {Pc : Array Value → State → Prop} {E : String} {mc ms : Nat} {cc : ByteArray} {maxL : Nat} {ret : Option FieldType}
    (hy : plainName y.cls = true) (hw : ws = Cond.code y cc maxL ret :: ws')
    (body : ∀ p e s m args below meth c s₁, BodyLoose p l y (headSpec ws rm) cc maxL ret e s m args below meth c s₁ → c.maxLocals = maxL → Pc args s →
      W p l e (headSpec ws rm).room s m args below meth c s.heap [] 0 0 (tx_MQ below E s mc ms) (entryFrame m args maxL)) : tx_Met l y ws rm Pc E mc ms := by
  refine MetFree.of_bodyS (code := cc) (maxLocals := maxL) (ret := ret) hy ?_ ?_
  · intro args s m h hn
    obtain ⟨meth, c, h1, h2, h3, h4, h5, h6, -, -⟩ := Cond.code_spec hn (atoms_spec (ws := ws) h _ (by rw [hw]; exact List.mem_cons_self))
    exact ⟨meth, c, h1, h2, h3, h4, h5, h6⟩
  · intro p e s m args below meth c s₁ B hml hP _
    have hh0 : s₁.heap = s.heap := by rw [B.state]; rfl
    obtain ⟨t, a1, o, b1, b2, b3⟩ := body p e s m args below meth c s₁ B hml hP s₁ hh0 (Stand.of_body B)
    exact ⟨t, o, a1, b1, b2, b3⟩
end TXA
section TXB
variable {p : Program} {l : Launch} {e : Env} {R : Room} {s : State} {m : MethodId} {args : Array Value} {below : List Frame} {meth : Method} {c : Code} {H : Heap} {locs : List Loc} {cells slots : Nat} {Q : State → Prop}
/-- throw new E(), where nothing has been written so far -/
theorem tx_throw {cc : ByteArray} {pc : Nat} {ls : Array Slot} {rest : List Value} (hexec : p.tables.exec = Jvm.exec) (hb : c.code = cc) (hl : l.stackTraces = false) {own cls : String} {names : List String} {ik ic mc ms : Nat}
    (hown : s.vm.findClass own = some m.cls) (hcls : Bundle.fit cls = true) (hnames : ∀ n ∈ names, Bundle.fit n = true)
    (hk : (Cond.classLink own ik cls).before args s = true) (hini : (Cond.initialized cls).before args s = true) (hat : ∀ w ∈ Bundle.ownAtoms0 own ic cls names, w.before args s = true)
    (hsize : ls.size = c.maxLocals) (d0 : decode cc pc = .ok (.new ik, 3)) (d3 : decode cc (pc + 3) = .ok (.dup, 1)) (d4 : decode cc (pc + 4) = .ok (.invokespecial ic, 3)) (d7 : decode cc (pc + 7) = .ok (.athrow, 1))
    (hout : ∀ x ∈ c.exceptionTable.toList, covers x (pc + 7) = false)
    (hRf : names.length + 3 < R.frames) (hRl : (rest.map fun v => v.category).sum + (13 * (names.length + 1) + 42) ≤ R.locals) (hRc : 1 ≤ R.cells) (hRs : 6 ≤ R.slots) (hlocks : meth.locks = false) (hc : 1 ≤ mc) (hs : 6 ≤ ms) :
    W p l e R s m args below meth c s.heap [] 0 0 (tx_MQ below cls s mc ms) (F0 m pc ls rest) := by
  intro T hT X
  have htr : e.platform.stackTraces = false := (show e.platform.stackTraces = l.stackTraces by rw [X.admits.platform]).trans hl
  have hins : (Cond.instantiable cls 6).before args s = true := hat _ (by simp [Bundle.ownAtoms0])
  obtain ⟨vm₁, cX, kX, hfX, hkX, -, -, X₁, st1⟩ := X.newCold hexec (own := own) (C := cls) (index := ik) (n := 6) hown hk hins hini (g := F0 m pc ls rest) rfl (by rw [hb]; exact d0) (by omega) (by omega)
  generalize hT1 : (T.setVm vm₁).pushCell { cls := cX, slots := kX.instanceTypes.map defaultValue, vm := .none } = T1 at X₁ st1
  have hcellA : T1.heap[T.heap.size]? = some (freshCell cX kX) := by rw [← hT1]; exact State.heap_pushCell_size _ _
  have hcat : (Value.ref T.heap.size).category = 1 := rfl
  have d3' : decode c.code (pc + 3) = .ok (.dup, 1) := by rw [hb]; exact d3
  obtain ⟨U, hsteps, hrun, hend, hW, hsame, ce, hce, hO⟩ := X₁.ctorThrow0 hexec htr (own := own) (cls := cls) (names := names) (ic := ic) hown hcls hnames hat (fun x hx => nomatch hx) hfX hkX hcellA (by rw [hT]; exact Nat.le_refl _)
    (g := { method := m, pc := pc + 4, locals := ls, stack := .ref T.heap.size :: .ref T.heap.size :: rest, locked := none }) rfl hsize rfl rfl (rest := rest) rfl
    (by rw [hb]; exact d4) (by rw [hb]; exact d7) hout hRf (by simp only [List.map_cons, List.sum_cons, hcat]; omega) hlocks
  refine ⟨U, ?_, .threw T.heap.size, hrun, hend, T.heap.size, ce, rfl, hce, hO.vm, hO.cls, hW, hsame.mono (by omega) (by omega)⟩
  refine st1 _ ?_
  show Steps p.tables e below (T1.setTop { method := m, pc := pc + 3, locals := ls, stack := .ref T.heap.size :: rest, locked := none }) _
  jvm_step X₁.here [X₁.here.top, hexec, d3', Value.category]
  exact hsteps
/-- a callee that throws, behind the invoking instruction's own step -/
theorem tx_after {T : State} (X : Stand p l e R s m args below meth c T locs cells slots) {y : MethodName} {ws : List Cond} {rm : Room} {Pc : Array Value → State → Prop} {E : String} {mc ms maxL len : Nat} {bytes : ByteArray} {ret : Option FieldType}
    (hM : tx_Met l y ws rm Pc E mc ms) (hblind : FrameBlind Pc) (hrc : rm.cells = mc) (hrs : rm.slots = ms) (hframes : rm.frames + 1 ≤ R.frames) (hlocals : 8 + (maxL + 11) + rm.locals ≤ R.locals)
    (hws : ∀ w ∈ ws, ∀ a' U, s.WarmedH U.vm → w.before a' U = true) (hcode : Cond.code y bytes maxL ret ∈ ws) (hinit : ∀ a' U, s.WarmedH U.vm → (Cond.initialized y.cls).before a' U = true)
    {g : JFrame} {ig : Instr} {mk : MethodId} {a : Array Value} (hg : g.method = m) (hsize : g.locals.size = c.maxLocals) (hdg : decode c.code g.pc = .ok (ig, len)) (hW : 2 * g.monitorRoom + (g.stack.map fun v => v.category).sum ≤ 8)
    (hn : T.methodNamed? y = some mk) (hc : cells + mc ≤ R.cells) (hs : slots + ms ≤ R.slots) (hp : Pc a T) :
    ∃ (q : Addr) (ce : Cell) (T' : State), Stand p l e R s m args below meth c T' locs (cells + mc) (slots + ms) ∧ T'.heap[q]? = some ce ∧ ce.vm = .none ∧ T.vm.findClass E = some ce.cls ∧ (∀ (z : Addr) (d : Cell), T.heap[z]? = some d → T'.heap[z]? = some d) ∧ T.heap.size ≤ T'.heap.size ∧
      Steps p.tables e below (doInvoke e (T.setTop g) [] mk a).1 ((T'.setTop g).pushFrame (.throwing q)) := by
  have h1 : (headSpec ws rm).pre.before a T = true := atoms_intro fun w hw => hws w hw _ _ X.warmed
  have h2 : (Cond.code y bytes maxL ret).before a T = true := hws _ hcode _ _ X.warmed
  have h3 : (Cond.initialized y.cls).before a T = true := hinit _ _ X.warmed
  have h4 : cells + (headSpec ws rm).room.cells ≤ R.cells := by rw [show (headSpec ws rm).room.cells = mc from hrc]; exact hc
  have h5 : slots + (headSpec ws rm).room.slots ≤ R.slots := by rw [show (headSpec ws rm).room.slots = ms from hrs]; exact hs
  obtain ⟨methY, cY, hmY, hcY, -, hlY, -, -, -, -⟩ := Cond.code_spec hn h2
  obtain ⟨kY, hkY, -⟩ := className_of_methodNamed hn
  have hinitY : kY.init = .initialized := Cond.initialized_spec (findClass_of_methodNamed hn) hkY h3
  have h : At T g.method c below := by rw [hg]; exact X.here
  have hlo : 8 + (maxL + 11) + (headSpec ws rm).room.locals ≤ R.locals := hlocals
  have happ : (headSpec ws rm).appliesLoose y e.platform (T.calling g mk a) = true :=
    Spec.appliesLoose_calling (g := g) h hdg hn hkY hinitY (X.room_calling (g := g) (R' := (headSpec ws rm).room) hsize hmY hcY hframes (by rw [hlY]; omega) h4 h5) h1
  obtain ⟨mid, hmid⟩ := h.above
  have hfr : (T.setTop g).frames = (.java g :: mid) ++ below := by rw [State.frames_setTop' g h.top, hmid]; rfl
  obtain ⟨o, s₂, hsteps, -, hend, q, ce, rfl, hce, hcv, hcl, hW₂, hsm⟩ := Steps.callFree hM p X.admits X.cas X.clock (acts := []) hfr happ (hblind _ _ _ _ hp) trivial
  rw [State.frames_setTop' g h.top, X.tail] at hend
  obtain ⟨T', X', hW', hsame, rfl⟩ := X.outOfThrown hg hend hW₂ hsm
  rw [List.append_nil] at X'
  have hh : T'.heap = ((T'.setTop g).pushFrame (.throwing q)).heap := (Stand.throwing_heap T' g q).symm
  refine ⟨q, ce, T', X', by rw [hh]; exact hce, hcv, hcl, fun z d hd => ?_, hsame.2.1, hsteps⟩
  have := State.sameButNew.old_cell hsame hd
  exact this
end TXB
section TXC
variable {p : Program} {l : Launch} {e : Env} {R : Room} {s : State} {m : MethodId} {args : Array Value} {below : List Frame} {meth : Method} {c : Code} {H : Heap} {locs : List Loc} {cells slots : Nat} {Q : State → Prop}
/-- the search for a handler: its first row covers, its class is not resolved yet or is, and takes the object -/
theorem tx_go {S : State} {f : JFrame} {a : Addr} {cell : Cell} {x : ExceptionTableEntry} {t : List ExceptionTableEntry} {k : ClassId} (hx : covers x f.pc = true) (h0 : x.catchType ≠ 0)
    (hl : S.vm.ClassLinks e.platform f.method.cls x.catchType k) (hcell : S.heap[a]? = some cell) (hobj : ∀ z, cell.vm ≠ .statics z) (hk : ∃ z, S.vm.classes[cell.cls]? = some z) (hc : ∃ z, S.vm.classes[k]? = some z) (hfit : S.vm.assignable cell.cls k = true)
    (Q : Handler → Pre) (E : CtlPost) (d : Bool) (acts : List Action) :
    wp (findHandler.go f a (x :: t)) Q E e d acts S ↔ Q (.found x.handlerPc) d acts (S.setVm (S.vm.noted f.method.cls x.catchType (.cls k))) := by
  simp only [covers] at hx
  obtain ⟨ha, ht⟩ := (resolveClass_links e.toSetting hl).op (op := VmOp.resolveClass f.method.cls x.catchType) rfl
  have hal : S.vm.Alike (S.vm.noted f.method.cls x.catchType (.cls k)) := (Vm.Alike.refl S.vm).noted _ _ _
  obtain ⟨k1, hk1⟩ := hk
  obtain ⟨k2, hk2⟩ := hc
  obtain ⟨k1', hk1', -⟩ := hal.2.2 _ _ hk1
  obtain ⟨k2', hk2', -⟩ := hal.2.2 _ _ hk2
  have hfit' : (S.vm.noted f.method.cls x.catchType (.cls k)).assignable cell.cls k = true := by rw [hal.assignable]; exact hfit
  simp [findHandler.go, hx, h0, ha, ht, hcell, hobj, hk1', hk2', hfit', VmOp.dirties, VmOp.acts]
/-- one step of the unwinding, where the search has noted a class -/
theorem tx_step {S : State} {f : JFrame} {a : Addr} {r : List Frame} {pc : Nat} {vm' : Vm} (hfind : ∀ (Q : Handler → Pre) (E : CtlPost) (d : Bool) (acts : List Action), wp (findHandler f a) Q E e d acts S ↔ Q (.found pc) d acts (S.setVm vm')) :
    (stepThrowing e S a (.java f :: r)).Is ((S.setVm vm').setFrames (.java { f with pc := pc, stack := [.ref a] } :: r)) [] := by
  simp only [stepThrowing, searchFrame, vmDo]
  generalize hr : Sem.go _ e false [] S = res
  obtain ⟨as, rfl, ha⟩ := Sem.eq_ok_of hr (a := Handler.found pc) (s' := S.setVm vm') (acts' := []) (by simp [hfind _ _ _ _])
  exact ⟨rfl, ha⟩
theorem tx_caught {S target : State} {g : JFrame} {a : Addr} (h : At S g.method c below) {pc : Nat} {vm' : Vm}
    (hfind : ∀ (Q : Handler → Pre) (E : CtlPost) (d : Bool) (acts : List Action), wp (findHandler g a) Q E e d acts ((S.setTop g).pushFrame (.throwing a)) ↔ Q (.found pc) d acts (((S.setTop g).pushFrame (.throwing a)).setVm vm'))
    (hrest : Steps p.tables e below ((S.setVm vm').setTop { g with pc := pc, stack := [.ref a] }) target) : Steps p.tables e below ((S.setTop g).pushFrame (.throwing a)) target := by
  obtain ⟨hgo, hw⟩ := h.throwing a
  refine Steps.head hgo hw ?_
  rw [stepThread_throwing (frames_entered h.top _), (tx_step (S := (S.setTop g).pushFrame (.throwing a)) hfind).1]
  obtain ⟨g₀, hg⟩ := Option.isSome_iff_exists.mp h.top
  obtain ⟨r, hr⟩ := State.topJava?_eq_some.mp hg
  have hr' : (S.setVm vm').frames = .java g₀ :: r := hr
  rw [State.setTop_of_frames _ hr'] at hrest
  have e1 : (((S.setTop g).pushFrame (.throwing a)).setVm vm').setFrames (.java { g with pc := pc, stack := [.ref a] } :: S.frames.tail) = (S.setVm vm').setFrames (.java { g with pc := pc, stack := [.ref a] } :: r) := by
    rw [State.pushFrame, State.setTop_of_frames _ hr, State.setFrames_setFrames, hr]
    show ((S.setVm vm').setFrames _).setFrames _ = _
    rw [State.setFrames_setFrames]
    rfl
  rw [e1]
  exact hrest
/-- a thrown object over the frame, caught by the first row of this method's table -/
theorem tx_catch {T : State} (X : Stand p l e R s m args below meth c T locs cells slots) {own name E : String} {ce : Cell} {q : Addr} {g : JFrame} (hg : g.method = m) (hown : s.vm.findClass own = some m.cls) {x : ExceptionTableEntry} {suf : List ExceptionTableEntry}
    (htab : c.exceptionTable.toList = x :: suf) (hx : covers x g.pc = true) (h0 : x.catchType ≠ 0) (hlink : (Cond.classLink own x.catchType name).before args s = true) (hcast : (Cond.castable E name).before args s = true)
    (hcell : T.heap[q]? = some ce) (hv : ce.vm = .none) (hcl : s.vm.findClass E = some ce.cls) :
    ∃ vm', Stand p l e R s m args below meth c (T.setVm vm') locs cells slots ∧ ∀ tg, Steps p.tables e below ((T.setVm vm').setTop { g with pc := x.handlerPc, stack := [.ref q] }) tg → Steps p.tables e below ((T.setTop g).pushFrame (.throwing q)) tg := by
  subst hg
  have hpl : e.platform.magicAccessors = ({} : Platform).magicAccessors := by rw [X.admits.platform]
  obtain ⟨c3, c4, hc3, hc4, hasg⟩ := Cond.castable_spec hcast
  cases Option.some.inj (hc3.symm.trans hcl)
  obtain ⟨c5, hc5, hl5⟩ := Cond.classLink_spec hown hlink e.platform hpl
  cases Option.some.inj (hc4.symm.trans hc5)
  obtain ⟨dk, _, _, kt, hd, _, _, _, _, hkt, _, hopen⟩ := hl5.here
  have hW := X.warmed
  obtain ⟨kt', hkt', -⟩ := hW.alike.2.2 _ _ hkt
  obtain ⟨k9, h9, -⟩ := Vm.findClass_spec hcl
  obtain ⟨k9', h9', -⟩ := hW.alike.2.2 _ _ h9
  have hlT : T.vm.ClassLinks e.platform g.method.cls x.catchType c4 := hW.classLinks hl5
  have hfitT : T.vm.assignable ce.cls c4 = true := by rw [hW.alike.assignable]; exact hasg
  refine ⟨T.vm.noted g.method.cls x.catchType (.cls c4), X.noted (hW.noted hd hopen (State.rightAt_cls hl5)), fun tg hrest => ?_⟩
  refine tx_caught X.here (pc := x.handlerPc) (vm' := T.vm.noted g.method.cls x.catchType (.cls c4)) (fun Q E d acts => ?_) hrest
  rw [W.findHandler_eq (meth := meth) (code := c) (by rw [Stand.throwing_vm]; exact X.method') X.code, htab]
  have hvm := Stand.throwing_vm T g q
  have hhp := Stand.throwing_heap T g q
  have := tx_go (e := e) (S := (T.setTop g).pushFrame (.throwing q)) (f := g) (a := q) (cell := ce) (x := x) (t := suf) (k := c4) hx h0 (by rw [hvm]; exact hlT) (by rw [hhp]; exact hcell) (fun z hz => by rw [hv] at hz; cases hz) (by rw [hvm]; exact ⟨k9', h9'⟩) (by rw [hvm]; exact ⟨kt', hkt'⟩) (by rw [hvm]; exact hfitT) Q E d acts
  rw [hvm] at this
  exact this
/-- x.m(..) of a method that throws, in a method whose first row takes what it throws -/
theorem tx_callV {cc : ByteArray} {nL : Nat} {Ts : List Cond} {own C name E : String} {index : Nat} {y : MethodName} {bytes : ByteArray} {maxL mc ms n pc : Nat} {ret : Option FieldType} {ws : List Cond} {rm : Room} {Pc : Array Value → State → Prop} {b : Addr} {As rest : List Value} {ls : Array Slot} {st0 : List Value}
    (S : CallFix p m c cc nL s args Ts own) (hM : tx_Met l y ws rm Pc E mc ms) (cw : CallW R s args own C index y bytes maxL ret ws rm mc ms n) (hp : PreV s H C b Pc As)
    (hn : As.length = n) (hsize : ls.size = nL) (hstack : st0 = As.reverse ++ .ref b :: rest) (hW : 2 * (F0 m pc ls st0).monitorRoom + (rest.map fun v => v.category).sum ≤ 8) (hdg : decode cc pc = .ok (.invokevirtual index, 3)) (hf : cells + mc ≤ R.cells ∧ slots + ms ≤ R.slots)
    {x : ExceptionTableEntry} {suf : List ExceptionTableEntry} (htab : c.exceptionTable.toList = x :: suf) (hx : covers x pc = true) (h0 : x.catchType ≠ 0) (hlink : (Cond.classLink own x.catchType name).before args s = true) (hcast : (Cond.castable E name).before args s = true)
    (kk : ∀ (q : Addr) (H1 : Heap), H.size ≤ H1.size → (∀ (z : Addr) (d : Cell), H[z]? = some d → H1[z]? = some d) → W p l e R s m args below meth c H1 locs (cells + mc) (slots + ms) Q (F0 m x.handlerPc ls [.ref q])) :
    W p l e R s m args below meth c H locs cells slots Q (F0 m pc ls st0) := by
  intro T hT X
  obtain ⟨⟨hrc, hrs, hfr, hlo, hws, hcw, hcode, hini, hy, hlen, hl⟩, hinst, hsel⟩ := cw
  obtain ⟨hexec, hb, hml, hown, -⟩ := S
  obtain ⟨hbl, ⟨cellB, hcB, hoB, hclB⟩, hPc⟩ := hp
  obtain ⟨mk, methM, hnamed, hmethM, hstM, habM⟩ := Cond.instanceMethod_spec hinst
  obtain ⟨methM', cM, hmethM', -, -, -, -, -, -, hsigM⟩ := Cond.code_spec hnamed hcode
  cases hmethM.symm.trans hmethM'
  obtain ⟨c2, r2, m2, q1, q2, q3, q4, kP, hkP, hkPi⟩ := Cond.selects_spec hsel
  cases hclB.symm.trans q1
  cases (State.methodFound?_of_named hnamed hy).symm.trans q2
  cases hnamed.symm.trans q3
  have hselP : selectMethod e.platform s.vm cellB.cls mk = .method mk := by rw [Launch.admits_selectMethod X.admits]; exact q4
  obtain ⟨vm₁, X₁, hstep₁⟩ := X.invokevirtual hexec hown hl hnamed hmethM hstM hkP hkPi hy (a := b) (cell := cellB) (by rw [hT]; exact hcB)
    (fun z h => by rw [h] at hoB; cases hoB) hselP hmethM habM hkP hkPi (g := F0 m pc ls st0) rfl (argsL := As) (rest := rest) (hn.trans (hlen _ hsigM)) hstack (by rw [hb]; exact hdg)
  obtain ⟨q, ce, T', X', hce, hcv, hcl, hold, hgrow, hsteps⟩ := tx_after X₁ (bytes := bytes) (maxL := maxL) (ret := ret) hM hbl hrc hrs hfr hlo hws hcw (fun a' U hW => word_at hW (Or.inl (by first | rfl | simp [Cond.onTables, Cond.keeps, Cond.steady])) hini)
    (g := { F0 m pc ls st0 with stack := rest }) (ig := .invokevirtual index) (len := 3) (mk := mk) (a := (Value.ref b :: As).toArray) rfl (hsize.trans hml.symm) (by rw [hb]; exact hdg) hW (X₁.named hnamed) hf.1 hf.2 (hPc (T.setVm vm₁) hT X₁.warmed)
  have hclS : s.vm.findClass E = some ce.cls := by
    have h1 : vm₁.findClass E = some ce.cls := hcl
    have h2 : s.WarmedH vm₁ := X₁.warmed
    rw [h2.alike.findClass] at h1
    exact h1
  obtain ⟨vm', X'', st2⟩ := tx_catch X' (g := { F0 m pc ls st0 with stack := rest }) rfl hown htab hx h0 hlink hcast hce hcv hclS
  obtain ⟨t, a1, b1⟩ := kk q T'.heap (by rw [← hT]; exact hgrow) (fun z d hd => hold z d (by rw [← hT] at hd; exact hd)) (T'.setVm vm') rfl X''
  exact ⟨t, hstep₁ _ fun acts => by rw [doInvoke_state]; exact hsteps.trans (st2 t a1), b1⟩
end TXC
end
section
/-! multianewarray of two dimensions of ints: the kit's rows have no word for it -/
section MXA
def mx_f (h i j : Nat) : Value := if j < i then .ref (h + 1 + j) else .null
abbrev mx_out (cA : ClassId) (N h i : Nat) : Cell := arrV cA N (mx_f h i)
abbrev mx_in (cI : ClassId) (M : Nat) : Cell := arrV cI M (fun _ => .int 0)
def mx_fill (S : State) (cA cI : ClassId) (N M : Nat) : Nat → State
  | 0 => S.pushCell (mx_out cA N S.heap.size 0)
  | i + 1 => ((mx_fill S cA cI N M i).pushCell (mx_in cI M)).setCell S.heap.size (mx_out cA N S.heap.size (i + 1))
theorem mx_next (cA : ClassId) (N h i : Nat) : (mx_out cA N h i).setSlot i (.ref (h + 1 + i)) = mx_out cA N h (i + 1) := by
  rw [arrV_store]
  refine congrArg (arrV cA N) (funext fun j => ?_)
  by_cases e : j = i
  · subst e; simp [updV, mx_f]
  · by_cases h2 : j < i
    · simp [updV, mx_f, e, h2, Nat.lt_succ_of_lt h2]
    · simp [updV, mx_f, e, h2, show ¬ j < i + 1 by omega]
theorem mx_size (S : State) (cA cI : ClassId) (N M : Nat) : ∀ i, (mx_fill S cA cI N M i).heap.size = S.heap.size + 1 + i
  | 0 => by simp [mx_fill]
  | i + 1 => by
    have := mx_size S cA cI N M i
    simp [mx_fill, State.setCell, this]; omega
theorem mx_vm (S : State) (cA cI : ClassId) (N M : Nat) : ∀ i, (mx_fill S cA cI N M i).vm = S.vm
  | 0 => rfl
  | i + 1 => by
    have := mx_vm S cA cI N M i
    simp [mx_fill, this]
theorem mx_used (S : State) (cA cI : ClassId) (N M : Nat) : ∀ i, (mx_fill S cA cI N M i).slotsUsed = S.slotsUsed + N + i * M
  | 0 => by simp [mx_fill, arrV_size]
  | i + 1 => by
    have := mx_used S cA cI N M i
    simp [mx_fill, this, arrV_size, Nat.succ_mul]; omega
theorem mx_self (S : State) (cA cI : ClassId) (N M : Nat) : ∀ i, (mx_fill S cA cI N M i).heap[S.heap.size]? = some (mx_out cA N S.heap.size i)
  | 0 => by simp [mx_fill]
  | i + 1 => by
    have h1 := mx_self S cA cI N M i
    have h2 : S.heap.size < (mx_fill S cA cI N M i).heap.size := by rw [mx_size]; omega
    have h3 : ((mx_fill S cA cI N M i).pushCell (mx_in cI M)).heap[S.heap.size]? = some (mx_out cA N S.heap.size i) := by rw [State.heap_pushCell_of_lt (h := h2)]; exact h1
    exact State.heap_setCell_self h3
theorem mx_old (S : State) (cA cI : ClassId) (N M : Nat) {a : Addr} (ha : a < S.heap.size) : ∀ i, (mx_fill S cA cI N M i).heap[a]? = S.heap[a]?
  | 0 => State.heap_pushCell_of_lt _ _ ha
  | i + 1 => by
    have h2 : a < (mx_fill S cA cI N M i).heap.size := Nat.lt_of_lt_of_le ha (by rw [mx_size]; omega)
    show (((mx_fill S cA cI N M i).pushCell (mx_in cI M)).setCell S.heap.size _).heap[a]? = _
    rw [State.heap_setCell_other (Nat.ne_of_gt ha), State.heap_pushCell_of_lt (h := h2)]
    exact mx_old S cA cI N M ha i
theorem mx_row (S : State) (cA cI : ClassId) (N M : Nat) : ∀ i j, j < i → (mx_fill S cA cI N M i).heap[S.heap.size + 1 + j]? = some (mx_in cI M)
  | 0, _, h => absurd h (Nat.not_lt_zero _)
  | i + 1, j, h => by
    show (((mx_fill S cA cI N M i).pushCell (mx_in cI M)).setCell S.heap.size _).heap[S.heap.size + 1 + j]? = _
    rw [State.heap_setCell_other (show S.heap.size ≠ S.heap.size + 1 + j by omega)]
    by_cases hj : j < i
    · have h2 : S.heap.size + 1 + j < (mx_fill S cA cI N M i).heap.size := by rw [mx_size]; omega
      rw [State.heap_pushCell_of_lt (h := h2)]
      exact mx_row S cA cI N M i j hj
    · have e : j = i := by omega
      subst e
      rw [← mx_size S cA cI N M j]
      exact State.heap_pushCell_size _ _
theorem mx_top (S : State) (f : JFrame) (cA cI : ClassId) (N M : Nat) : ∀ i, mx_fill (S.setTop f) cA cI N M i = (mx_fill S cA cI N M i).setTop f
  | 0 => rfl
  | i + 1 => by simp only [mx_fill, mx_top S f cA cI N M i, State.heap_setTop, State.pushCell_setTop, State.setCell_setTop]
end MXA
section MXB
variable {E : CtlPost} {e : Env} {d : Bool} {acts : List Action} {S : State}
theorem mx_wpNew {c comp : ClassId} {k : Class} {type : FieldType} {len : Nat} {init : Value} (hk : S.vm.classes[c]? = some k) (hkind : k.kind = .array comp type)
    (hlimit : ¬ len > e.platform.arrayLengthLimit) (hheap : ¬ len * componentBytes type > e.platform.maxHeapBytes) (hfit : fits type init = true) (hdef : init.isDefault = true) {Q : Addr → Pre}
    (h1 : S.heap.size < e.platform.maxCells) (h2 : S.slotsUsed + len ≤ e.platform.maxSlots) (hq : Q S.heap.size d acts (S.pushCell (arrV c len (fun _ => init)))) :
    wp (Jvm.newArray c len init) Q E e d acts S := by
  rw [← arrV_new] at hq
  have hfits : ∀ i v, (Array.replicate len init)[i]? = some v → S.fitsSlot c .none i v = true := by
    intro i v hv
    simp only [Array.getElem?_replicate] at hv
    split at hv
    · cases hv; simp [State.fitsSlot, State.slotType?, hk, hkind, hfit]
    · cases hv
  have hda : allocActs (Array.replicate len init) S.heap.size acts = acts := by
    have hall : ((Array.replicate len init).all (·.isDefault)) = true := by
      rw [Array.all_replicate]; split <;> simp [hdef]
    unfold allocActs; rw [if_pos hall]
  simp only [Jvm.newArray, Jvm.arrayFits, wp_bind', W.ask, W.ite, hlimit, if_false, wp_pure', W.theClass, hk, hkind, hheap, W.alloc, W.stop, Option.some.injEq, exists_eq_left', Array.size_replicate, hda]
  rw [if_neg (by omega)]
  exact ⟨h1, h2, hfits, hq⟩
theorem mx_wp1 {cI cc : ClassId} {kc : Class} {m : Int32} (hkc : S.vm.classes[cI]? = some kc) (hkindc : kc.kind = .array cc .int) (hm : ¬ m < 0)
    (hl2 : ¬ m.toNatClampNeg > e.platform.arrayLengthLimit) (hh2 : ¬ m.toNatClampNeg * componentBytes .int > e.platform.maxHeapBytes)
    (h1 : S.heap.size < e.platform.maxCells) (h2 : S.slotsUsed + m.toNatClampNeg ≤ e.platform.maxSlots)
    {Q : Addr → Pre} (hq : Q S.heap.size d acts (S.pushCell (mx_in cI m.toNatClampNeg))) : wp (Op.multianewarray.make cI [m]) Q E e d acts S := by
  rw [Op.multianewarray.make]
  simp only [wp_bind', W.ite, hm, if_false, wp_pure', W.theClass, hkc, hkindc, Option.some.injEq, exists_eq_left']
  exact mx_wpNew hkc hkindc hl2 hh2 rfl rfl h1 h2 hq
theorem mx_wp2 {cA cI cc : ClassId} {k kc : Class} {n m : Int32} (hk : S.vm.classes[cA]? = some k) (hkind : k.kind = .array cI (.array .int)) (hkc : S.vm.classes[cI]? = some kc) (hkindc : kc.kind = .array cc .int) (hn : ¬ n < 0) (hm : ¬ m < 0)
    (hl1 : ¬ n.toNatClampNeg > e.platform.arrayLengthLimit) (hh1 : ¬ n.toNatClampNeg * componentBytes (.array .int) > e.platform.maxHeapBytes) (hl2 : ¬ m.toNatClampNeg > e.platform.arrayLengthLimit) (hh2 : ¬ m.toNatClampNeg * componentBytes .int > e.platform.maxHeapBytes)
    (hc : S.heap.size + 1 + n.toNatClampNeg ≤ e.platform.maxCells) (hs : S.slotsUsed + n.toNatClampNeg + n.toNatClampNeg * m.toNatClampNeg ≤ e.platform.maxSlots)
    {Q : Addr → Pre} (hq : ∀ d' acts', Q S.heap.size d' acts' (mx_fill S cA cI n.toNatClampNeg m.toNatClampNeg n.toNatClampNeg)) : wp (Op.multianewarray.make cA [n, m]) Q E e d acts S := by
  generalize hN : n.toNatClampNeg = N at *
  generalize hM : m.toNatClampNeg = M at *
  have hfind : ([m].find? (· < 0)) = none := by simp [hm]
  rw [Op.multianewarray.make]
  simp only [wp_bind', W.ite, hn, if_false, wp_pure', W.theClass, hk, hkind, Option.some.injEq, exists_eq_left', hN]
  refine mx_wpNew hk hkind hl1 hh1 rfl rfl (by omega) (by have := Nat.zero_le (N * M); omega) ?_
  simp only [hfind]
  rw [ite_self, wp_bind', Std.Legacy.Range.forIn_eq_forIn_range']
  have hsz : ([:N] : Std.Legacy.Range).size = N := by simp [Std.Legacy.Range.size]
  rw [hsz]
  have h0 : S.pushCell (arrV cA N (fun _ => Value.null)) = mx_fill S cA cI N M 0 := by
    show _ = S.pushCell (arrV cA N (mx_f S.heap.size 0))
    refine congrArg (fun f => S.pushCell (arrV cA N f)) (funext fun j => ?_)
    simp [mx_f]
  rw [h0]
  show wp (forIn (List.range' 0 N 1) PUnit.unit _) _ E e d acts _
  refine wp_forIn_inv (fun rest s' => ∃ i, i ≤ N ∧ rest = List.range' i (N - i) ∧ s' = mx_fill S cA cI N M i) _ _ ⟨0, Nat.zero_le _, rfl, rfl⟩ ?_ ?_
  · rintro x rest s' d' acts' Q' ⟨i, hi, hl, rfl⟩ hnext
    have hlt : i < N := by
      rcases Nat.lt_or_ge i N with h | h
      · exact h
      · rw [show N - i = 0 by omega] at hl; simp at hl
    rw [show N - i = (N - (i + 1)) + 1 by omega, List.range'_succ] at hl
    obtain ⟨rfl, hrest⟩ := List.cons.inj hl
    have hmul : x * M + M ≤ N * M := by
      have := Nat.mul_le_mul_right M (show x + 1 ≤ N from hlt)
      rw [Nat.succ_mul] at this; exact this
    simp only [wp_bind']
    refine mx_wp1 (by rw [mx_vm]; exact hkc) hkindc hm (by rw [hM]; exact hl2) (by rw [hM]; exact hh2) (by rw [mx_size]; omega) (by rw [mx_used, hM]; omega) ?_
    have hlt0 : S.heap.size < (mx_fill S cA cI N M x).heap.size := by rw [mx_size]; omega
    simp only [wp_bind', W.writeLoc, wp_pure', hM]
    refine ⟨mx_out cA N S.heap.size x, by rw [State.heap_pushCell_of_lt (h := hlt0)]; exact mx_self S cA cI N M x, by simp [arrV], by rw [arrV_size]; exact hlt, ?_, hnext _ _ _ ⟨x + 1, hlt, hrest, ?_⟩⟩
    · simp [State.fitsSlot, State.slotType?, mx_vm, hk, hkind, arrV, fits]
    · rw [mx_size, mx_next]; rfl
  · rintro s' d' acts' ⟨i, hi, hl, rfl⟩
    have hiN : i = N := by
      rcases Nat.lt_or_ge i N with h | h
      · rw [show N - i = (N - (i + 1)) + 1 by omega, List.range'_succ] at hl; cases hl
      · omega
    subst hiN
    simp only [wp_pure']
    exact hq _ _
end MXB
section MXD
/-- int[][] and int[] by their names, in the tables -/
def mx_A (U : State) : Prop := ∃ (cI cA : ClassId) (kA : Class), U.vm.findClass "[I" = some cI ∧ U.vm.classes[cA]? = some kA ∧ kA.kind = .array cI (.array .int) ∧ U.vm.findClass "[[I" = some cA
theorem mx_A.moved {u U : State} (hvm : u.vm.Alike U.vm) (h : mx_A u) : mx_A U := by
  obtain ⟨cI, cA, kA, h1, h2, h3, h4⟩ := h
  obtain ⟨k', hk', he⟩ := hvm.2.2 _ _ h2
  exact ⟨cI, cA, k', by rw [hvm.findClass]; exact h1, hk', by rw [he]; exact h3, by rw [hvm.findClass]; exact h4⟩
theorem mx_A.of {args : Array Value} {s : State} (hover : (Cond.arrayOver (.array .int)).before args s = true) : mx_A s := by
  have h := hover
  simp only [Cond.before, Cond.holds, Cond.value, beq_iff_eq] at h
  cases hc : s.vm.findClass (FieldType.array .int).toString with
  | none => simp [hc] at h
  | some comp =>
    simp only [hc, Option.bind_some, Option.bind_eq_some_iff, Option.map_eq_some_iff] at h
    obtain ⟨c9, hi, k9, hk9, hb9⟩ := h
    obtain ⟨hlt, hp9, -⟩ := Array.findIdx?_eq_some_iff_getElem.mp hi
    have hkk : s.vm.classes[c9] = k9 := (Array.getElem?_eq_some_iff.mp hk9).2
    rw [hkk] at hp9
    cases hkind : k9.kind with
    | array component ty =>
      rw [hkind] at hb9 hp9
      simp at hb9 hp9
      exact ⟨comp, c9, k9, hc, hk9, by rw [hkind, hp9, hb9.1], hb9.2⟩
    | _ => rw [hkind] at hb9; simp at hb9
end MXD
section MXC
variable {p : Program} {l : Launch} {e : Env} {R : Room} {s : State} {m : MethodId} {args : Array Value} {below : List Frame} {meth : Method} {c : Code} {H : Heap} {locs : List Loc} {cells slots : Nat} {Q : State → Prop}
theorem mx_stand {T : State} (X : Stand p l e R s m args below meth c T locs cells slots) (cA cI : ClassId) (N M : Nat) : ∀ i, Stand p l e R s m args below meth c (mx_fill T cA cI N M i) locs (cells + 1 + i) (slots + N + i * M)
  | 0 => by
    have h := X.pushed (mx_out cA N T.heap.size 0)
    rw [arrV_size] at h
    simpa [mx_fill] using h
  | i + 1 => by
    have Xi := mx_stand X cA cI N M i
    have h2 : T.heap.size < (mx_fill T cA cI N M i).heap.size := by rw [mx_size]; omega
    have hcell : ((mx_fill T cA cI N M i).pushCell (mx_in cI M)).heap[T.heap.size]? = some (mx_out cA N T.heap.size i) := by rw [State.heap_pushCell_of_lt (h := h2)]; exact mx_self T cA cI N M i
    have h := (Xi.pushed (mx_in cI M)).stored hcell i (.ref (T.heap.size + 1 + i))
    rw [arrV_size, mx_next] at h
    have e3 : slots + N + (i + 1) * M = slots + N + i * M + M := by rw [Nat.succ_mul]; omega
    rw [e3]
    exact Stand.forget (extra := [⟨T.heap.size, i⟩]) h (fun y hy => by rw [List.mem_singleton.mp hy]; exact X.same.2.1)
/-- new int[n][k] -/
theorem mx_new {cc : ByteArray} {pc N M : Nat} {ls : Array Slot} {rest : List Value} {n k : Int32} (hexec : p.tables.exec = Jvm.exec) (hb : c.code = cc) {own : String} {index : Nat}
    (hown : s.vm.findClass own = some m.cls) (hclink : (Cond.classLink own index "[[I").before args s = true) (hA : mx_A s) (harr : (Cond.arrayClass .int).before args s = true)
    (hdg : decode cc pc = .ok (.multianewarray index 2, 4)) (hn : ¬ n < 0) (hk : ¬ k < 0) (hN : n.toNatClampNeg = N) (hM : k.toNatClampNeg = M) (hb1 : N * 4 ≤ 536870912) (hb2 : M * 4 ≤ 536870912)
    (hcells : cells + (1 + N) ≤ R.cells) (hslots : slots + (N + N * M) ≤ R.slots)
    (kk : ∀ (q : Nat) (cA cI : ClassId) (H1 : Heap), H.size ≤ q → q + N < H1.size → (∀ a : Nat, a < H.size → H1[a]? = H[a]?) → H1[q]? = some (arrV cA N (mx_f q N)) → (∀ j : Nat, j < N → H1[q + 1 + j]? = some (arrV cI M (fun _ => .int 0))) →
      ArrOfT s cA (.array .int) → ArrOfT s cI .int → s.vm.findClass "[[I" = some cA → s.vm.findClass "[I" = some cI → W p l e R s m args below meth c H1 locs (cells + 1 + N) (slots + N + N * M) Q (F0 m (pc + 4) ls (.ref q :: rest))) :
    W p l e R s m args below meth c H locs cells slots Q (F0 m pc ls (.int k :: .int n :: rest)) := by
  intro T hT X
  subst hN; subst hM
  have hpl : e.platform.magicAccessors = ({} : Platform).magicAccessors := by rw [X.admits.platform]
  obtain ⟨cI, cA, kA, hcI, hkA, hkindA, hcA⟩ := hA
  obtain ⟨cI', kC, cc', hcI', hkC, hkindC⟩ := Cond.arrayClass_spec harr
  have ecI : cI' = cI := Option.some.inj (hcI'.symm.trans hcI)
  subst ecI
  obtain ⟨c0, hfc0, hcl⟩ := Cond.classLink_spec hown hclink e.platform hpl
  cases hcA.symm.trans hfc0
  obtain ⟨hg₁, hwarm₁, hready₁⟩ := State.classEntry (e := e) X.warmed hcl
  generalize T.vm.noted m.cls index (.cls cA) = vm₁ at hg₁ hwarm₁ hready₁
  obtain ⟨kA₁, hkA₁, heA⟩ := hwarm₁.alike.2.2 _ _ hkA
  obtain ⟨kC₁, hkC₁, heC⟩ := hwarm₁.alike.2.2 _ _ hkC
  have hkindA₁ : kA₁.kind = .array cI' (.array .int) := by rw [heA]; exact hkindA
  have hkindC₁ : kC₁.kind = .array cc' .int := by rw [heC]; exact hkindC
  have X₁ := X.noted hwarm₁
  have XF := mx_stand X₁ cA cI' n.toNatClampNeg k.toNatClampNeg n.toNatClampNeg
  obtain ⟨hr1, hr2⟩ := X.roomAbove hcells hslots
  have hh : (T.setVm vm₁).heap = H := hT
  obtain ⟨t, a1, b1⟩ := kk H.size cA cI' (mx_fill (T.setVm vm₁) cA cI' n.toNatClampNeg k.toNatClampNeg n.toNatClampNeg).heap (Nat.le_refl _) (by rw [mx_size, hh]; omega) (fun a ha => by rw [mx_old _ _ _ _ _ (by rw [hh]; exact ha), hh])
    (by have := mx_self (T.setVm vm₁) cA cI' n.toNatClampNeg k.toNatClampNeg n.toNatClampNeg; rw [hh] at this; exact this) (fun j hj => by have := mx_row (T.setVm vm₁) cA cI' n.toNatClampNeg k.toNatClampNeg n.toNatClampNeg j hj; rw [hh] at this; exact this)
    (fun n z => ⟨fun k h => (by cases h), kA, hkA, cI', hkindA⟩) (fun n z => ⟨fun k h => (by cases h), kC, hkC, cc', hkindC⟩) hcA hcI _ rfl XF
  refine ⟨t, ?_, b1⟩
  have hl1 : ¬ n.toNatClampNeg > e.platform.arrayLengthLimit := by rw [Launch.admits_arrayLengthLimit X.admits]; omega
  have hh1 : ¬ n.toNatClampNeg * componentBytes (.array .int) > e.platform.maxHeapBytes := by rw [Launch.admits_maxHeapBytes X.admits]; show ¬ n.toNatClampNeg * 4 > 536870912; omega
  have hl2 : ¬ k.toNatClampNeg > e.platform.arrayLengthLimit := by rw [Launch.admits_arrayLengthLimit X.admits]; omega
  have hh2 : ¬ k.toNatClampNeg * componentBytes .int > e.platform.maxHeapBytes := by rw [Launch.admits_maxHeapBytes X.admits]; show ¬ k.toNatClampNeg * 4 > 536870912; omega
  have hdg' : decode c.code pc = .ok (.multianewarray index 2, 4) := by rw [hb]; exact hdg
  jvm_step X.here [hexec, hdg']
  simp only [Op.multianewarray.sem, wp_bind', W.resolveClassAt_links (State.method?_setTop (F0 m pc ls (.int k :: .int n :: rest)) X.here.top) hg₁]
  rw [W.popN, if_neg (by decide)]
  refine ⟨F0 m pc ls (.int k :: .int n :: rest), State.topJava?_setTop' (s := T.setVm vm₁) _ X.here.top, [.int n, .int k], rest, rfl, rfl, ?_⟩
  simp only [List.mapM_cons, List.mapM_nil, wp_bind', wp_pure']
  refine mx_wp2 (k := kA₁) (kc := kC₁) (cI := cI') (cc := cc') hkA₁ hkindA₁ hkC₁ hkindC₁ hn hk hl1 hh1 hl2 hh2 (by show T.heap.size + 1 + _ ≤ _; omega) (by show T.slotsUsed + _ + _ ≤ _; omega) (fun d' acts' => ?_)
  have eS : ((T.setTop (F0 m pc ls (.int k :: .int n :: rest))).setVm vm₁).setTop { F0 m pc ls (.int k :: .int n :: rest) with stack := rest } = (T.setVm vm₁).setTop { F0 m pc ls (.int k :: .int n :: rest) with stack := rest } := by
    show ((T.setVm vm₁).setTop _).setTop _ = _
    rw [State.setTop_setTop]
  rw [eS, mx_top]
  simp only [wp_bind', W.mark, W.pushRef, State.topJava?_setTop' _ XF.here.top, Option.some.injEq, exists_eq_left', State.setTop_setTop, State.heap_setTop]
  intro acts
  simp [jvm, XF.here.top]
  rw [← hh] at a1
  exact a1
end MXC
end
section
/-- what every method of mine is given beside its words: the words that aren't good ones, int[][] and Label[] in the tables, Throwable's two statics -/
def jx (aS aT : Nat) (cS cT : Cell) (U : State) : Prop := (∀ w ∈ lw_tbl, gx_nk w = true → va_Nw w U) ∧ mx_A U ∧ va_AO "TapeSealer$Label" U ∧ jx_st "UNASSIGNED_STACK" Bundle.steD aS cS U ∧ jx_st "SUPPRESSED_SENTINEL" Bundle.listD aT cT U ∧ U.heap[aS]? = some cS ∧ U.heap[aT]? = some cT
theorem jx.move {aS aT : Nat} {cS cT : Cell} {s U : State} (hW : s.WarmedH U.vm) (h1 : U.heap[aS]? = s.heap[aS]?) (h2 : U.heap[aT]? = s.heap[aT]?) (h : jx aS aT cS cT s) : jx aS aT cS cT U :=
  ⟨fun w hw hk => gx_nk_warm hk hW (h.1 w hw hk), h.2.1.moved hW.alike, va_AO.moved hW.alike h.2.2.1, h.2.2.2.1.moved hW.alike, h.2.2.2.2.1.moved hW.alike, by rw [h1]; exact h.2.2.2.2.2.1, by rw [h2]; exact h.2.2.2.2.2.2⟩
theorem jx.word {aS aT : Nat} {cS cT : Cell} {U : State} {args : Array Value} (h : jx aS aT cS cT U) {w : Cond} (k : Nat) (hk : lw_tbl[k]? = some w) (hn : gx_nk w = true) : w.before args U = true := va_Nw.use (gx_nk_on hn) (h.1 w (List.mem_of_getElem? hk) hn)
theorem jx.call {aS aT : Nat} {cS cT : Cell} {U : State} (g : JFrame) (mk : MethodId) (a : Array Value) (h : jx aS aT cS cT U) : jx aS aT cS cT (U.calling g mk a) := h.move (s := U) (U := U.calling g mk a) (State.WarmedH.refl U) rfl rfl
/-- the words of 'throw new E()' -/
theorem jx.own {aS aT : Nat} {cS cT : Cell} {s : State} {args : Array Value} (h : jx aS aT cS cT s) (hB : ∀ w ∈ gx_B, w.before args s = true) {own cls : String} {ic : Nat} {names : List String}
    (hd : ∀ w ∈ Bundle.ownAtoms0 own ic cls names, w ∈ lw_tbl ∨ w = .isRef (.static Bundle.tN "UNASSIGNED_STACK" Bundle.steD) ∨ w = .isRef (.static Bundle.tN "SUPPRESSED_SENTINEL" Bundle.listD))
    (hk : (Bundle.ownAtoms0 own ic cls names).all (fun w => goodWord w || gx_nk w || decide (w = .isRef (.static Bundle.tN "UNASSIGNED_STACK" Bundle.steD)) || decide (w = .isRef (.static Bundle.tN "SUPPRESSED_SENTINEL" Bundle.listD)) || decide (w = .laysStatic Bundle.tN "UNASSIGNED_STACK" Bundle.steD) || decide (w = .laysStatic Bundle.tN "SUPPRESSED_SENTINEL" Bundle.listD)) = true) :
    ∀ w ∈ Bundle.ownAtoms0 own ic cls names, w.before args s = true := fun w hw => by
  obtain ⟨h1, -, -, h4, h5, h6, h7⟩ := h
  have hk := List.all_eq_true.mp hk w hw
  simp only [Bool.or_eq_true, decide_eq_true_eq] at hk
  rcases hk with ((((hk | hk) | hk) | hk) | hk) | hk
  · rcases hd w hw with h9 | h9 | h9
    · exact hB w (List.mem_filter.mpr ⟨h9, hk⟩)
    · rw [h9]; exact h4.isRef h6
    · rw [h9]; exact h5.isRef h7
  · rcases hd w hw with h9 | h9 | h9
    · exact va_Nw.use (gx_nk_on hk) (h1 w h9 hk)
    · rw [h9]; exact h4.isRef h6
    · rw [h9]; exact h5.isRef h7
  · rw [hk]; exact h4.isRef h6
  · rw [hk]; exact h5.isRef h7
  · rw [hk]; exact h4.lays h6
  · rw [hk]; exact h5.lays h7
end
