section
-- ===== PART A: goes FIRST, ahead of the names: the tables' words, and 'selects' of the private methods out of them =====
/-- a private method of a class that the tables say can be made, by its rows of tables_1 -/
def lw_okq (q : MethodName × Nat) : Prop := (q.1.cls ≠ "java/lang/invoke/MethodHandle" ∧ q.1.cls ≠ "java/lang/invoke/VarHandle") ∧ Cond.instantiable q.1.cls q.2 ∈ tables_1 ∧ Cond.privateMethod q.1 ∈ tables_1 ∧ Cond.instanceMethod q.1 ∈ tables_1
theorem lw_p0 : lw_okq (⟨"TapeSealer", "lookAtHeaders", "()V"⟩, 15) := ⟨⟨by decide +kernel, by decide +kernel⟩, List.mem_of_getElem? (i := 24) (by decide +kernel), List.mem_of_getElem? (i := 297) (by decide +kernel), List.mem_of_getElem? (i := 298) (by decide +kernel)⟩
theorem lw_p1 : lw_okq (⟨"TapeSealer", "counts", "(LTapeSealer$Label;I)Z"⟩, 15) := ⟨⟨by decide +kernel, by decide +kernel⟩, List.mem_of_getElem? (i := 24) (by decide +kernel), List.mem_of_getElem? (i := 301) (by decide +kernel), List.mem_of_getElem? (i := 302) (by decide +kernel)⟩
theorem lw_p2 : lw_okq (⟨"TapeSealer$Sealing", "startHeaderNonce", "(LTapeSealer$Label;)V"⟩, 5) := ⟨⟨by decide +kernel, by decide +kernel⟩, List.mem_of_getElem? (i := 88) (by decide +kernel), List.mem_of_getElem? (i := 316) (by decide +kernel), List.mem_of_getElem? (i := 317) (by decide +kernel)⟩
theorem lw_p3 : lw_okq (⟨"TapeSealer$Sealing", "startNonce", "(II)V"⟩, 5) := ⟨⟨by decide +kernel, by decide +kernel⟩, List.mem_of_getElem? (i := 88) (by decide +kernel), List.mem_of_getElem? (i := 320) (by decide +kernel), List.mem_of_getElem? (i := 321) (by decide +kernel)⟩
theorem lw_p4 : lw_okq (⟨"TapeSealer$Sealing", "makeTag", "([I[II[II)V"⟩, 5) := ⟨⟨by decide +kernel, by decide +kernel⟩, List.mem_of_getElem? (i := 88) (by decide +kernel), List.mem_of_getElem? (i := 330) (by decide +kernel), List.mem_of_getElem? (i := 331) (by decide +kernel)⟩
theorem lw_p5 : lw_okq (⟨"TapeSealer$KeyStream", "mix", "(IIII)V"⟩, 3) := ⟨⟨by decide +kernel, by decide +kernel⟩, List.mem_of_getElem? (i := 94) (by decide +kernel), List.mem_of_getElem? (i := 348) (by decide +kernel), List.mem_of_getElem? (i := 349) (by decide +kernel)⟩
theorem lw_p6 : lw_okq (⟨"TapeSealer$Authenticator", "multiply", "()V"⟩, 5) := ⟨⟨by decide +kernel, by decide +kernel⟩, List.mem_of_getElem? (i := 111) (by decide +kernel), List.mem_of_getElem? (i := 368) (by decide +kernel), List.mem_of_getElem? (i := 369) (by decide +kernel)⟩
theorem lw_p7 : lw_okq (⟨"TapeSealer$Authenticator", "carryOver", "([J)V"⟩, 5) := ⟨⟨by decide +kernel, by decide +kernel⟩, List.mem_of_getElem? (i := 111) (by decide +kernel), List.mem_of_getElem? (i := 373) (by decide +kernel), List.mem_of_getElem? (i := 374) (by decide +kernel)⟩
theorem lw_p8 : lw_okq (⟨"TapeSealer$Authenticator", "byteAt", "(I)I"⟩, 5) := ⟨⟨by decide +kernel, by decide +kernel⟩, List.mem_of_getElem? (i := 111) (by decide +kernel), List.mem_of_getElem? (i := 386) (by decide +kernel), List.mem_of_getElem? (i := 387) (by decide +kernel)⟩
theorem lw_p9 : lw_okq (⟨"TapeSealer$Sealing", "hasTag", "([I)Z"⟩, 5) := ⟨⟨by decide +kernel, by decide +kernel⟩, List.mem_of_getElem? (i := 88) (by decide +kernel), List.mem_of_getElem? (i := 390) (by decide +kernel), List.mem_of_getElem? (i := 391) (by decide +kernel)⟩
theorem lw_p10 : lw_okq (⟨"TapeSealer", "countFiles", "()I"⟩, 15) := ⟨⟨by decide +kernel, by decide +kernel⟩, List.mem_of_getElem? (i := 24) (by decide +kernel), List.mem_of_getElem? (i := 394) (by decide +kernel), List.mem_of_getElem? (i := 395) (by decide +kernel)⟩
theorem lw_p11 : lw_okq (⟨"java/lang/Throwable", "fillInStackTrace", "(I)Ljava/lang/Throwable;"⟩, 6) := ⟨⟨by decide +kernel, by decide +kernel⟩, List.mem_of_getElem? (i := 446) (by decide +kernel), List.mem_of_getElem? (i := 444) (by decide +kernel), List.mem_of_getElem? (i := 445) (by decide +kernel)⟩
theorem lw_p12 : lw_okq (⟨"TapeSealer", "leastMissing", "()I"⟩, 15) := ⟨⟨by decide +kernel, by decide +kernel⟩, List.mem_of_getElem? (i := 24) (by decide +kernel), List.mem_of_getElem? (i := 483) (by decide +kernel), List.mem_of_getElem? (i := 484) (by decide +kernel)⟩
theorem lw_p13 : lw_okq (⟨"TapeSealer", "firstFree", "(I)I"⟩, 15) := ⟨⟨by decide +kernel, by decide +kernel⟩, List.mem_of_getElem? (i := 24) (by decide +kernel), List.mem_of_getElem? (i := 497) (by decide +kernel), List.mem_of_getElem? (i := 498) (by decide +kernel)⟩
theorem lw_p14 : lw_okq (⟨"TapeSealer", "ownerOf", "(I)I"⟩, 15) := ⟨⟨by decide +kernel, by decide +kernel⟩, List.mem_of_getElem? (i := 24) (by decide +kernel), List.mem_of_getElem? (i := 501) (by decide +kernel), List.mem_of_getElem? (i := 502) (by decide +kernel)⟩
theorem lw_p15 : lw_okq (⟨"TapeSealer", "placeDraft", "()Z"⟩, 15) := ⟨⟨by decide +kernel, by decide +kernel⟩, List.mem_of_getElem? (i := 24) (by decide +kernel), List.mem_of_getElem? (i := 517) (by decide +kernel), List.mem_of_getElem? (i := 518) (by decide +kernel)⟩
def lw_privs_1 : List (MethodName × Nat) := [(⟨"TapeSealer", "lookAtHeaders", "()V"⟩, 15), (⟨"TapeSealer", "counts", "(LTapeSealer$Label;I)Z"⟩, 15), (⟨"TapeSealer$Sealing", "startHeaderNonce", "(LTapeSealer$Label;)V"⟩, 5), (⟨"TapeSealer$Sealing", "startNonce", "(II)V"⟩, 5), (⟨"TapeSealer$Sealing", "makeTag", "([I[II[II)V"⟩, 5), (⟨"TapeSealer$KeyStream", "mix", "(IIII)V"⟩, 3), (⟨"TapeSealer$Authenticator", "multiply", "()V"⟩, 5), (⟨"TapeSealer$Authenticator", "carryOver", "([J)V"⟩, 5), (⟨"TapeSealer$Authenticator", "byteAt", "(I)I"⟩, 5), (⟨"TapeSealer$Sealing", "hasTag", "([I)Z"⟩, 5), (⟨"TapeSealer", "countFiles", "()I"⟩, 15), (⟨"java/lang/Throwable", "fillInStackTrace", "(I)Ljava/lang/Throwable;"⟩, 6), (⟨"TapeSealer", "leastMissing", "()I"⟩, 15), (⟨"TapeSealer", "firstFree", "(I)I"⟩, 15), (⟨"TapeSealer", "ownerOf", "(I)I"⟩, 15), (⟨"TapeSealer", "placeDraft", "()Z"⟩, 15)]
theorem lw_r1 : ∀ q ∈ lw_privs_1, lw_okq q := List.forall_mem_cons.mpr ⟨lw_p0, List.forall_mem_cons.mpr ⟨lw_p1, List.forall_mem_cons.mpr ⟨lw_p2, List.forall_mem_cons.mpr ⟨lw_p3, List.forall_mem_cons.mpr ⟨lw_p4, List.forall_mem_cons.mpr ⟨lw_p5, List.forall_mem_cons.mpr ⟨lw_p6, List.forall_mem_cons.mpr ⟨lw_p7, List.forall_mem_cons.mpr ⟨lw_p8, List.forall_mem_cons.mpr ⟨lw_p9, List.forall_mem_cons.mpr ⟨lw_p10, List.forall_mem_cons.mpr ⟨lw_p11, List.forall_mem_cons.mpr ⟨lw_p12, List.forall_mem_cons.mpr ⟨lw_p13, List.forall_mem_cons.mpr ⟨lw_p14, List.forall_mem_cons.mpr ⟨lw_p15, fun _ h => absurd h List.not_mem_nil⟩⟩⟩⟩⟩⟩⟩⟩⟩⟩⟩⟩⟩⟩⟩⟩
theorem lw_p16 : lw_okq (⟨"TapeSealer", "writeGroups", "()Z"⟩, 15) := ⟨⟨by decide +kernel, by decide +kernel⟩, List.mem_of_getElem? (i := 24) (by decide +kernel), List.mem_of_getElem? (i := 526) (by decide +kernel), List.mem_of_getElem? (i := 527) (by decide +kernel)⟩
theorem lw_p17 : lw_okq (⟨"TapeSealer", "fillData", "(I[I)V"⟩, 15) := ⟨⟨by decide +kernel, by decide +kernel⟩, List.mem_of_getElem? (i := 24) (by decide +kernel), List.mem_of_getElem? (i := 530) (by decide +kernel), List.mem_of_getElem? (i := 531) (by decide +kernel)⟩
theorem lw_p18 : lw_okq (⟨"TapeSealer$Sealing", "startSegmentNonce", "(LTapeSealer$Label;I)V"⟩, 5) := ⟨⟨by decide +kernel, by decide +kernel⟩, List.mem_of_getElem? (i := 88) (by decide +kernel), List.mem_of_getElem? (i := 546) (by decide +kernel), List.mem_of_getElem? (i := 547) (by decide +kernel)⟩
theorem lw_p19 : lw_okq (⟨"TapeSealer$Sealing", "turn", "([I[II)V"⟩, 5) := ⟨⟨by decide +kernel, by decide +kernel⟩, List.mem_of_getElem? (i := 88) (by decide +kernel), List.mem_of_getElem? (i := 551) (by decide +kernel), List.mem_of_getElem? (i := 552) (by decide +kernel)⟩
theorem lw_p20 : lw_okq (⟨"TapeSealer", "writeHeader", "(LTapeSealer$Label;)Z"⟩, 15) := ⟨⟨by decide +kernel, by decide +kernel⟩, List.mem_of_getElem? (i := 24) (by decide +kernel), List.mem_of_getElem? (i := 577) (by decide +kernel), List.mem_of_getElem? (i := 578) (by decide +kernel)⟩
theorem lw_p21 : lw_okq (⟨"TapeSealer", "writeTwice", "(I[I)Z"⟩, 15) := ⟨⟨by decide +kernel, by decide +kernel⟩, List.mem_of_getElem? (i := 24) (by decide +kernel), List.mem_of_getElem? (i := 585) (by decide +kernel), List.mem_of_getElem? (i := 586) (by decide +kernel)⟩
theorem lw_p22 : lw_okq (⟨"TapeSealer", "exists", "(I)Z"⟩, 15) := ⟨⟨by decide +kernel, by decide +kernel⟩, List.mem_of_getElem? (i := 24) (by decide +kernel), List.mem_of_getElem? (i := 600) (by decide +kernel), List.mem_of_getElem? (i := 601) (by decide +kernel)⟩
theorem lw_p23 : lw_okq (⟨"TapeSealer", "gatherGroup", "(LTapeSealer$Label;III)Z"⟩, 15) := ⟨⟨by decide +kernel, by decide +kernel⟩, List.mem_of_getElem? (i := 24) (by decide +kernel), List.mem_of_getElem? (i := 634) (by decide +kernel), List.mem_of_getElem? (i := 635) (by decide +kernel)⟩
theorem lw_p24 : lw_okq (⟨"TapeSealer$Stripe", "stands", "(LTapeSealer$Label;II)Z"⟩, 5) := ⟨⟨by decide +kernel, by decide +kernel⟩, List.mem_of_getElem? (i := 151) (by decide +kernel), List.mem_of_getElem? (i := 643) (by decide +kernel), List.mem_of_getElem? (i := 644) (by decide +kernel)⟩
theorem lw_p25 : lw_okq (⟨"TapeSealer$Stripe", "solveOne", "(II)Z"⟩, 5) := ⟨⟨by decide +kernel, by decide +kernel⟩, List.mem_of_getElem? (i := 151) (by decide +kernel), List.mem_of_getElem? (i := 659) (by decide +kernel), List.mem_of_getElem? (i := 660) (by decide +kernel)⟩
theorem lw_p26 : lw_okq (⟨"TapeSealer$Stripe", "restOfParity", "(II)I"⟩, 5) := ⟨⟨by decide +kernel, by decide +kernel⟩, List.mem_of_getElem? (i := 151) (by decide +kernel), List.mem_of_getElem? (i := 663) (by decide +kernel), List.mem_of_getElem? (i := 664) (by decide +kernel)⟩
theorem lw_p27 : lw_okq (⟨"TapeSealer$Stripe", "solveTwo", "(II)Z"⟩, 5) := ⟨⟨by decide +kernel, by decide +kernel⟩, List.mem_of_getElem? (i := 151) (by decide +kernel), List.mem_of_getElem? (i := 667) (by decide +kernel), List.mem_of_getElem? (i := 668) (by decide +kernel)⟩
theorem lw_p28 : lw_okq (⟨"TapeSealer", "isUsed", "(I)Z"⟩, 15) := ⟨⟨by decide +kernel, by decide +kernel⟩, List.mem_of_getElem? (i := 24) (by decide +kernel), List.mem_of_getElem? (i := 738) (by decide +kernel), List.mem_of_getElem? (i := 739) (by decide +kernel)⟩
theorem lw_p29 : lw_okq (⟨"TapeSealer$Stripe", "isWrong", "(I)Z"⟩, 5) := ⟨⟨by decide +kernel, by decide +kernel⟩, List.mem_of_getElem? (i := 151) (by decide +kernel), List.mem_of_getElem? (i := 766) (by decide +kernel), List.mem_of_getElem? (i := 767) (by decide +kernel)⟩
theorem lw_p30 : lw_okq (⟨"TapeSealer", "countFree", "()I"⟩, 15) := ⟨⟨by decide +kernel, by decide +kernel⟩, List.mem_of_getElem? (i := 24) (by decide +kernel), List.mem_of_getElem? (i := 816) (by decide +kernel), List.mem_of_getElem? (i := 817) (by decide +kernel)⟩
theorem lw_p31 : lw_okq (⟨"TapeSealerModel", "files", "()I"⟩, 45) := ⟨⟨by decide +kernel, by decide +kernel⟩, List.mem_of_getElem? (i := 820) (by decide +kernel), List.mem_of_getElem? (i := 978) (by decide +kernel), List.mem_of_getElem? (i := 979) (by decide +kernel)⟩
def lw_privs_2 : List (MethodName × Nat) := [(⟨"TapeSealer", "writeGroups", "()Z"⟩, 15), (⟨"TapeSealer", "fillData", "(I[I)V"⟩, 15), (⟨"TapeSealer$Sealing", "startSegmentNonce", "(LTapeSealer$Label;I)V"⟩, 5), (⟨"TapeSealer$Sealing", "turn", "([I[II)V"⟩, 5), (⟨"TapeSealer", "writeHeader", "(LTapeSealer$Label;)Z"⟩, 15), (⟨"TapeSealer", "writeTwice", "(I[I)Z"⟩, 15), (⟨"TapeSealer", "exists", "(I)Z"⟩, 15), (⟨"TapeSealer", "gatherGroup", "(LTapeSealer$Label;III)Z"⟩, 15), (⟨"TapeSealer$Stripe", "stands", "(LTapeSealer$Label;II)Z"⟩, 5), (⟨"TapeSealer$Stripe", "solveOne", "(II)Z"⟩, 5), (⟨"TapeSealer$Stripe", "restOfParity", "(II)I"⟩, 5), (⟨"TapeSealer$Stripe", "solveTwo", "(II)Z"⟩, 5), (⟨"TapeSealer", "isUsed", "(I)Z"⟩, 15), (⟨"TapeSealer$Stripe", "isWrong", "(I)Z"⟩, 5), (⟨"TapeSealer", "countFree", "()I"⟩, 15), (⟨"TapeSealerModel", "files", "()I"⟩, 45)]
theorem lw_r2 : ∀ q ∈ lw_privs_2, lw_okq q := List.forall_mem_cons.mpr ⟨lw_p16, List.forall_mem_cons.mpr ⟨lw_p17, List.forall_mem_cons.mpr ⟨lw_p18, List.forall_mem_cons.mpr ⟨lw_p19, List.forall_mem_cons.mpr ⟨lw_p20, List.forall_mem_cons.mpr ⟨lw_p21, List.forall_mem_cons.mpr ⟨lw_p22, List.forall_mem_cons.mpr ⟨lw_p23, List.forall_mem_cons.mpr ⟨lw_p24, List.forall_mem_cons.mpr ⟨lw_p25, List.forall_mem_cons.mpr ⟨lw_p26, List.forall_mem_cons.mpr ⟨lw_p27, List.forall_mem_cons.mpr ⟨lw_p28, List.forall_mem_cons.mpr ⟨lw_p29, List.forall_mem_cons.mpr ⟨lw_p30, List.forall_mem_cons.mpr ⟨lw_p31, fun _ h => absurd h List.not_mem_nil⟩⟩⟩⟩⟩⟩⟩⟩⟩⟩⟩⟩⟩⟩⟩⟩
theorem lw_p32 : lw_okq (⟨"TapeSealerModel", "look", "(I)Z"⟩, 45) := ⟨⟨by decide +kernel, by decide +kernel⟩, List.mem_of_getElem? (i := 820) (by decide +kernel), List.mem_of_getElem? (i := 982) (by decide +kernel), List.mem_of_getElem? (i := 983) (by decide +kernel)⟩
theorem lw_p33 : lw_okq (⟨"TapeSealerModel", "isGoodHeader", "(II)Z"⟩, 45) := ⟨⟨by decide +kernel, by decide +kernel⟩, List.mem_of_getElem? (i := 820) (by decide +kernel), List.mem_of_getElem? (i := 986) (by decide +kernel), List.mem_of_getElem? (i := 987) (by decide +kernel)⟩
theorem lw_p34 : lw_okq (⟨"TapeSealerModel", "useEpoch", "(I)V"⟩, 45) := ⟨⟨by decide +kernel, by decide +kernel⟩, List.mem_of_getElem? (i := 820) (by decide +kernel), List.mem_of_getElem? (i := 990) (by decide +kernel), List.mem_of_getElem? (i := 991) (by decide +kernel)⟩
theorem lw_p35 : lw_okq (⟨"TapeSealerModel", "nonce", "(IIII)V"⟩, 45) := ⟨⟨by decide +kernel, by decide +kernel⟩, List.mem_of_getElem? (i := 820) (by decide +kernel), List.mem_of_getElem? (i := 994) (by decide +kernel), List.mem_of_getElem? (i := 995) (by decide +kernel)⟩
theorem lw_p36 : lw_okq (⟨"TapeSealerModel", "opens", "([II)Z"⟩, 45) := ⟨⟨by decide +kernel, by decide +kernel⟩, List.mem_of_getElem? (i := 820) (by decide +kernel), List.mem_of_getElem? (i := 998) (by decide +kernel), List.mem_of_getElem? (i := 999) (by decide +kernel)⟩
theorem lw_p37 : lw_okq (⟨"TapeSealerModel", "tagNow", "()V"⟩, 45) := ⟨⟨by decide +kernel, by decide +kernel⟩, List.mem_of_getElem? (i := 820) (by decide +kernel), List.mem_of_getElem? (i := 1002) (by decide +kernel), List.mem_of_getElem? (i := 1003) (by decide +kernel)⟩
theorem lw_p38 : lw_okq (⟨"TapeSealerModel", "putMac", "([II)V"⟩, 45) := ⟨⟨by decide +kernel, by decide +kernel⟩, List.mem_of_getElem? (i := 820) (by decide +kernel), List.mem_of_getElem? (i := 1006) (by decide +kernel), List.mem_of_getElem? (i := 1007) (by decide +kernel)⟩
theorem lw_p39 : lw_okq (⟨"TapeSealerModel", "stream", "(I)V"⟩, 45) := ⟨⟨by decide +kernel, by decide +kernel⟩, List.mem_of_getElem? (i := 820) (by decide +kernel), List.mem_of_getElem? (i := 1010) (by decide +kernel), List.mem_of_getElem? (i := 1011) (by decide +kernel)⟩
theorem lw_p40 : lw_okq (⟨"TapeSealerModel", "quarter", "(IIII)V"⟩, 45) := ⟨⟨by decide +kernel, by decide +kernel⟩, List.mem_of_getElem? (i := 820) (by decide +kernel), List.mem_of_getElem? (i := 1021) (by decide +kernel), List.mem_of_getElem? (i := 1022) (by decide +kernel)⟩
theorem lw_p41 : lw_okq (⟨"TapeSealerModel", "reckonTag", "()V"⟩, 45) := ⟨⟨by decide +kernel, by decide +kernel⟩, List.mem_of_getElem? (i := 820) (by decide +kernel), List.mem_of_getElem? (i := 1028) (by decide +kernel), List.mem_of_getElem? (i := 1029) (by decide +kernel)⟩
theorem lw_p42 : lw_okq (⟨"TapeSealerModel", "add", "([III)V"⟩, 45) := ⟨⟨by decide +kernel, by decide +kernel⟩, List.mem_of_getElem? (i := 820) (by decide +kernel), List.mem_of_getElem? (i := 1032) (by decide +kernel), List.mem_of_getElem? (i := 1033) (by decide +kernel)⟩
theorem lw_p43 : lw_okq (⟨"TapeSealerModel", "times", "()V"⟩, 45) := ⟨⟨by decide +kernel, by decide +kernel⟩, List.mem_of_getElem? (i := 820) (by decide +kernel), List.mem_of_getElem? (i := 1036) (by decide +kernel), List.mem_of_getElem? (i := 1037) (by decide +kernel)⟩
theorem lw_p44 : lw_okq (⟨"TapeSealerModel", "cover", "()V"⟩, 45) := ⟨⟨by decide +kernel, by decide +kernel⟩, List.mem_of_getElem? (i := 820) (by decide +kernel), List.mem_of_getElem? (i := 1040) (by decide +kernel), List.mem_of_getElem? (i := 1041) (by decide +kernel)⟩
theorem lw_p45 : lw_okq (⟨"TapeSealerModel", "room", "(I)I"⟩, 45) := ⟨⟨by decide +kernel, by decide +kernel⟩, List.mem_of_getElem? (i := 820) (by decide +kernel), List.mem_of_getElem? (i := 1051) (by decide +kernel), List.mem_of_getElem? (i := 1052) (by decide +kernel)⟩
theorem lw_p46 : lw_okq (⟨"TapeSealerModel", "taken", "()I"⟩, 45) := ⟨⟨by decide +kernel, by decide +kernel⟩, List.mem_of_getElem? (i := 820) (by decide +kernel), List.mem_of_getElem? (i := 1055) (by decide +kernel), List.mem_of_getElem? (i := 1056) (by decide +kernel)⟩
theorem lw_p47 : lw_okq (⟨"TapeSealerModel", "saltTo", "([III)V"⟩, 45) := ⟨⟨by decide +kernel, by decide +kernel⟩, List.mem_of_getElem? (i := 820) (by decide +kernel), List.mem_of_getElem? (i := 1063) (by decide +kernel), List.mem_of_getElem? (i := 1064) (by decide +kernel)⟩
def lw_privs_3 : List (MethodName × Nat) := [(⟨"TapeSealerModel", "look", "(I)Z"⟩, 45), (⟨"TapeSealerModel", "isGoodHeader", "(II)Z"⟩, 45), (⟨"TapeSealerModel", "useEpoch", "(I)V"⟩, 45), (⟨"TapeSealerModel", "nonce", "(IIII)V"⟩, 45), (⟨"TapeSealerModel", "opens", "([II)Z"⟩, 45), (⟨"TapeSealerModel", "tagNow", "()V"⟩, 45), (⟨"TapeSealerModel", "putMac", "([II)V"⟩, 45), (⟨"TapeSealerModel", "stream", "(I)V"⟩, 45), (⟨"TapeSealerModel", "quarter", "(IIII)V"⟩, 45), (⟨"TapeSealerModel", "reckonTag", "()V"⟩, 45), (⟨"TapeSealerModel", "add", "([III)V"⟩, 45), (⟨"TapeSealerModel", "times", "()V"⟩, 45), (⟨"TapeSealerModel", "cover", "()V"⟩, 45), (⟨"TapeSealerModel", "room", "(I)I"⟩, 45), (⟨"TapeSealerModel", "taken", "()I"⟩, 45), (⟨"TapeSealerModel", "saltTo", "([III)V"⟩, 45)]
theorem lw_r3 : ∀ q ∈ lw_privs_3, lw_okq q := List.forall_mem_cons.mpr ⟨lw_p32, List.forall_mem_cons.mpr ⟨lw_p33, List.forall_mem_cons.mpr ⟨lw_p34, List.forall_mem_cons.mpr ⟨lw_p35, List.forall_mem_cons.mpr ⟨lw_p36, List.forall_mem_cons.mpr ⟨lw_p37, List.forall_mem_cons.mpr ⟨lw_p38, List.forall_mem_cons.mpr ⟨lw_p39, List.forall_mem_cons.mpr ⟨lw_p40, List.forall_mem_cons.mpr ⟨lw_p41, List.forall_mem_cons.mpr ⟨lw_p42, List.forall_mem_cons.mpr ⟨lw_p43, List.forall_mem_cons.mpr ⟨lw_p44, List.forall_mem_cons.mpr ⟨lw_p45, List.forall_mem_cons.mpr ⟨lw_p46, List.forall_mem_cons.mpr ⟨lw_p47, fun _ h => absurd h List.not_mem_nil⟩⟩⟩⟩⟩⟩⟩⟩⟩⟩⟩⟩⟩⟩⟩⟩
theorem lw_p48 : lw_okq (⟨"TapeSealerModel", "makeSegment", "(I)V"⟩, 45) := ⟨⟨by decide +kernel, by decide +kernel⟩, List.mem_of_getElem? (i := 820) (by decide +kernel), List.mem_of_getElem? (i := 1067) (by decide +kernel), List.mem_of_getElem? (i := 1068) (by decide +kernel)⟩
theorem lw_p49 : lw_okq (⟨"TapeSealerModel", "segments", "()I"⟩, 45) := ⟨⟨by decide +kernel, by decide +kernel⟩, List.mem_of_getElem? (i := 820) (by decide +kernel), List.mem_of_getElem? (i := 1071) (by decide +kernel), List.mem_of_getElem? (i := 1072) (by decide +kernel)⟩
theorem lw_p50 : lw_okq (⟨"TapeSealerModel", "segmentNonce", "(I)V"⟩, 45) := ⟨⟨by decide +kernel, by decide +kernel⟩, List.mem_of_getElem? (i := 820) (by decide +kernel), List.mem_of_getElem? (i := 1075) (by decide +kernel), List.mem_of_getElem? (i := 1076) (by decide +kernel)⟩
theorem lw_p51 : lw_okq (⟨"TapeSealerModel", "useFile", "()V"⟩, 45) := ⟨⟨by decide +kernel, by decide +kernel⟩, List.mem_of_getElem? (i := 820) (by decide +kernel), List.mem_of_getElem? (i := 1079) (by decide +kernel), List.mem_of_getElem? (i := 1080) (by decide +kernel)⟩
theorem lw_p52 : lw_okq (⟨"TapeSealerModel", "seal", "()V"⟩, 45) := ⟨⟨by decide +kernel, by decide +kernel⟩, List.mem_of_getElem? (i := 820) (by decide +kernel), List.mem_of_getElem? (i := 1083) (by decide +kernel), List.mem_of_getElem? (i := 1084) (by decide +kernel)⟩
theorem lw_p53 : lw_okq (⟨"TapeSealerModel", "writeGroup", "(I)Z"⟩, 45) := ⟨⟨by decide +kernel, by decide +kernel⟩, List.mem_of_getElem? (i := 820) (by decide +kernel), List.mem_of_getElem? (i := 1087) (by decide +kernel), List.mem_of_getElem? (i := 1088) (by decide +kernel)⟩
theorem lw_p54 : lw_okq (⟨"TapeSealerModel", "reckonParity", "()V"⟩, 45) := ⟨⟨by decide +kernel, by decide +kernel⟩, List.mem_of_getElem? (i := 820) (by decide +kernel), List.mem_of_getElem? (i := 1091) (by decide +kernel), List.mem_of_getElem? (i := 1092) (by decide +kernel)⟩
theorem lw_p55 : lw_okq (⟨"TapeSealerModel", "write", "(I)Z"⟩, 45) := ⟨⟨by decide +kernel, by decide +kernel⟩, List.mem_of_getElem? (i := 820) (by decide +kernel), List.mem_of_getElem? (i := 1107) (by decide +kernel), List.mem_of_getElem? (i := 1108) (by decide +kernel)⟩
theorem lw_p56 : lw_okq (⟨"TapeSealerModel", "writeHeader", "(I)Z"⟩, 45) := ⟨⟨by decide +kernel, by decide +kernel⟩, List.mem_of_getElem? (i := 820) (by decide +kernel), List.mem_of_getElem? (i := 1111) (by decide +kernel), List.mem_of_getElem? (i := 1112) (by decide +kernel)⟩
theorem lw_p57 : lw_okq (⟨"TapeSealerModel", "gather", "(I)V"⟩, 45) := ⟨⟨by decide +kernel, by decide +kernel⟩, List.mem_of_getElem? (i := 820) (by decide +kernel), List.mem_of_getElem? (i := 1119) (by decide +kernel), List.mem_of_getElem? (i := 1120) (by decide +kernel)⟩
theorem lw_p58 : lw_okq (⟨"TapeSealerModel", "stands", "(II)Z"⟩, 45) := ⟨⟨by decide +kernel, by decide +kernel⟩, List.mem_of_getElem? (i := 820) (by decide +kernel), List.mem_of_getElem? (i := 1123) (by decide +kernel), List.mem_of_getElem? (i := 1124) (by decide +kernel)⟩
theorem lw_p59 : lw_okq (⟨"TapeSealerModel", "recover", "(I)Z"⟩, 45) := ⟨⟨by decide +kernel, by decide +kernel⟩, List.mem_of_getElem? (i := 820) (by decide +kernel), List.mem_of_getElem? (i := 1127) (by decide +kernel), List.mem_of_getElem? (i := 1128) (by decide +kernel)⟩
theorem lw_p60 : lw_okq (⟨"TapeSealerModel", "fromOne", "(III)Z"⟩, 45) := ⟨⟨by decide +kernel, by decide +kernel⟩, List.mem_of_getElem? (i := 820) (by decide +kernel), List.mem_of_getElem? (i := 1131) (by decide +kernel), List.mem_of_getElem? (i := 1132) (by decide +kernel)⟩
theorem lw_p61 : lw_okq (⟨"TapeSealerModel", "lack", "(III)I"⟩, 45) := ⟨⟨by decide +kernel, by decide +kernel⟩, List.mem_of_getElem? (i := 820) (by decide +kernel), List.mem_of_getElem? (i := 1135) (by decide +kernel), List.mem_of_getElem? (i := 1136) (by decide +kernel)⟩
theorem lw_p62 : lw_okq (⟨"TapeSealerModel", "fromBoth", "(III)Z"⟩, 45) := ⟨⟨by decide +kernel, by decide +kernel⟩, List.mem_of_getElem? (i := 820) (by decide +kernel), List.mem_of_getElem? (i := 1139) (by decide +kernel), List.mem_of_getElem? (i := 1140) (by decide +kernel)⟩
theorem lw_p63 : lw_okq (⟨"TapeSealerModel", "isOfFile", "(I)Z"⟩, 45) := ⟨⟨by decide +kernel, by decide +kernel⟩, List.mem_of_getElem? (i := 820) (by decide +kernel), List.mem_of_getElem? (i := 1167) (by decide +kernel), List.mem_of_getElem? (i := 1168) (by decide +kernel)⟩
def lw_privs_4 : List (MethodName × Nat) := [(⟨"TapeSealerModel", "makeSegment", "(I)V"⟩, 45), (⟨"TapeSealerModel", "segments", "()I"⟩, 45), (⟨"TapeSealerModel", "segmentNonce", "(I)V"⟩, 45), (⟨"TapeSealerModel", "useFile", "()V"⟩, 45), (⟨"TapeSealerModel", "seal", "()V"⟩, 45), (⟨"TapeSealerModel", "writeGroup", "(I)Z"⟩, 45), (⟨"TapeSealerModel", "reckonParity", "()V"⟩, 45), (⟨"TapeSealerModel", "write", "(I)Z"⟩, 45), (⟨"TapeSealerModel", "writeHeader", "(I)Z"⟩, 45), (⟨"TapeSealerModel", "gather", "(I)V"⟩, 45), (⟨"TapeSealerModel", "stands", "(II)Z"⟩, 45), (⟨"TapeSealerModel", "recover", "(I)Z"⟩, 45), (⟨"TapeSealerModel", "fromOne", "(III)Z"⟩, 45), (⟨"TapeSealerModel", "lack", "(III)I"⟩, 45), (⟨"TapeSealerModel", "fromBoth", "(III)Z"⟩, 45), (⟨"TapeSealerModel", "isOfFile", "(I)Z"⟩, 45)]
theorem lw_r4 : ∀ q ∈ lw_privs_4, lw_okq q := List.forall_mem_cons.mpr ⟨lw_p48, List.forall_mem_cons.mpr ⟨lw_p49, List.forall_mem_cons.mpr ⟨lw_p50, List.forall_mem_cons.mpr ⟨lw_p51, List.forall_mem_cons.mpr ⟨lw_p52, List.forall_mem_cons.mpr ⟨lw_p53, List.forall_mem_cons.mpr ⟨lw_p54, List.forall_mem_cons.mpr ⟨lw_p55, List.forall_mem_cons.mpr ⟨lw_p56, List.forall_mem_cons.mpr ⟨lw_p57, List.forall_mem_cons.mpr ⟨lw_p58, List.forall_mem_cons.mpr ⟨lw_p59, List.forall_mem_cons.mpr ⟨lw_p60, List.forall_mem_cons.mpr ⟨lw_p61, List.forall_mem_cons.mpr ⟨lw_p62, List.forall_mem_cons.mpr ⟨lw_p63, fun _ h => absurd h List.not_mem_nil⟩⟩⟩⟩⟩⟩⟩⟩⟩⟩⟩⟩⟩⟩⟩⟩
theorem lw_p64 : lw_okq (⟨"TapeSealerModel", "isParity", "(II)Z"⟩, 45) := ⟨⟨by decide +kernel, by decide +kernel⟩, List.mem_of_getElem? (i := 820) (by decide +kernel), List.mem_of_getElem? (i := 1171) (by decide +kernel), List.mem_of_getElem? (i := 1172) (by decide +kernel)⟩
def lw_privs_5 : List (MethodName × Nat) := [(⟨"TapeSealerModel", "isParity", "(II)Z"⟩, 45)]
theorem lw_r5 : ∀ q ∈ lw_privs_5, lw_okq q := List.forall_mem_cons.mpr ⟨lw_p64, fun _ h => absurd h List.not_mem_nil⟩
def lw_privs : List (MethodName × Nat) := lw_privs_1 ++ (lw_privs_2 ++ (lw_privs_3 ++ (lw_privs_4 ++ (lw_privs_5))))
def lw_tbl : List Cond := k2_sels lw_privs ++ tables_1
theorem lw_privs_ok : ∀ q ∈ lw_privs, lw_okq q := by
  show ∀ q ∈ lw_privs_1 ++ (lw_privs_2 ++ (lw_privs_3 ++ (lw_privs_4 ++ (lw_privs_5)))), lw_okq q
  exact List.forall_mem_append.mpr ⟨lw_r1, List.forall_mem_append.mpr ⟨lw_r2, List.forall_mem_append.mpr ⟨lw_r3, List.forall_mem_append.mpr ⟨lw_r4, lw_r5⟩⟩⟩⟩
end
section
/-! The tables' words as every contract of mine takes them: one list for all methods. -/
def gx_B : List Cond := lw_tbl.filter goodWord
theorem gx_mem {w : Cond} (k : Nat) (h : lw_tbl[k]? = some w) (g : goodWord w = true) : w ∈ gx_B := List.mem_filter.mpr ⟨List.mem_of_getElem? h, g⟩
theorem gx_ok {w : Cond} (h : w ∈ gx_B) : (w.onTables && w.keeps) = true ∨ ∃ ty, w = .arrayClass ty := good_of_word (List.mem_filter.mp h).2
theorem gx_good {w w1 : Cond} (h : w ∈ gx_B) : GoodIn (w1 :: gx_B) (w :: gx_B) := fun v hv => by
  have hv' : v ∈ gx_B := (List.mem_cons.mp hv).elim (fun e => by rw [e]; exact h) id
  exact ⟨List.mem_cons_of_mem _ hv', gx_ok hv'⟩
theorem gx_goodV {own C : String} {idx : Nat} {y : MethodName} {w w1 : Cond} (h1 : Cond.methodLink own idx y ∈ gx_B) (h2 : Cond.instanceMethod y ∈ gx_B) (h3 : Cond.selects C y y ∈ gx_B) (h4 : Cond.initialized C ∈ gx_B) (h : w ∈ gx_B) : GoodIn (w1 :: gx_B) (wsV own idx C y (w :: gx_B)) := fun v hv => by
  have hv' : v ∈ gx_B := by
    simp only [wsV, List.mem_append, List.mem_cons, List.not_mem_nil, or_false] at hv
    rcases hv with (rfl | rfl | rfl | rfl) | rfl | hv
    · exact h1
    · exact h2
    · exact h3
    · exact h4
    · exact h
    · exact hv
  exact ⟨List.mem_cons_of_mem _ hv', gx_ok hv'⟩
theorem gx_goodS {own : String} {idx : Nat} {y : MethodName} {w w1 : Cond} (h1 : Cond.methodLink own idx y ∈ gx_B) (h2 : Cond.static y ∈ gx_B) (h4 : Cond.initialized own ∈ gx_B) (h : w ∈ gx_B) : GoodIn (w1 :: gx_B) (wsS own idx y (w :: gx_B)) := fun v hv => by
  have hv' : v ∈ gx_B := by
    simp only [wsS, List.mem_append, List.mem_cons, List.not_mem_nil, or_false] at hv
    rcases hv with (rfl | rfl | rfl) | rfl | hv
    · exact h1
    · exact h2
    · exact h4
    · exact h
    · exact hv
  exact ⟨List.mem_cons_of_mem _ hv', gx_ok hv'⟩
theorem gx_u {C : String} {T : u_T} {N : Nat} (ps : List Nat) (hp : u_ws C T N = ps.filterMap (fun i => lw_tbl[i]?)) (hg : (u_ws C T N).all goodWord = true) : ∀ w ∈ u_ws C T N, w ∈ gx_B := fun w hw => by
  refine List.mem_filter.mpr ⟨?_, List.all_eq_true.mp hg w hw⟩
  rw [hp] at hw
  obtain ⟨i, -, hi⟩ := List.mem_filterMap.mp hw
  exact List.mem_of_getElem? hi
/-! Words of the tables that aren't good ones: nest links, casts, declared constructors. -/
def gx_nk : Cond → Bool
  | .methodLinkNest .. => true
  | .castable .. => true
  | .declares _ => true
  | _ => false
theorem gx_nk_warm {w : Cond} (hw : gx_nk w = true) {s U : State} (hW : s.WarmedH U.vm) (h : va_Nw w s) : va_Nw w U := by
  cases w with
  | methodLinkNest a i x h9 => exact va_Nw.warmM hW h
  | castable a b => exact va_Nw.warmC hW h
  | declares x => exact va_Nw.warmD hW h
  | _ => simp [gx_nk] at hw
theorem gx_nk_on {w : Cond} (hw : gx_nk w = true) : w.onTables = true := by
  cases w <;> first | rfl | (simp [gx_nk] at hw)
/-- a static field of Throwable: where it lies, and that it holds a reference or null -/
def jx_st (n d : String) (aS : Nat) (cS : Cell) (U : State) : Prop := ∃ (c : ClassId) (k : Class) (i : Nat) (f : Field), U.vm.findClass Bundle.tN = some c ∧ U.fieldFound? Bundle.tN n d = some (c, k, i, f) ∧ f.isStatic = true ∧ k.statics = some aS ∧ cS.vm.isStatics = true ∧ cS.cls = c ∧ f.slot < cS.slots.size ∧ k.staticTypes[f.slot]? = some f.type ∧ ∃ v : Value, cS.slots[f.slot]? = some v ∧ v.isRef = true
theorem jx_st.moved {n d : String} {aS : Nat} {cS : Cell} {u U : State} (hvm : u.vm.Alike U.vm) (h : jx_st n d aS cS u) : jx_st n d aS cS U := by
  obtain ⟨c, k, i, f, h1, h2, h3, h4, h5, h6, h7, h8, h9⟩ := h
  obtain ⟨k', hi', he⟩ := State.fieldFound?_setVm hvm h2
  exact ⟨c, k', i, f, by rw [hvm.findClass]; exact h1, hi', h3, by rw [he]; exact h4, h5, h6, h7, by rw [he]; exact h8, h9⟩
theorem jx_st.lays {n d : String} {aS : Nat} {cS : Cell} {U : State} {args : Array Value} (h : jx_st n d aS cS U) (hc : U.heap[aS]? = some cS) : (Cond.laysStatic Bundle.tN n d).before args U = true := by
  obtain ⟨c, k, i, f, h1, h2, h3, h4, h5, h6, h7, h8, h9⟩ := h
  show (Cond.laysStatic Bundle.tN n d).holds args U none U [] = true
  exact Cond.laysStatic_of h1 h2 h3 h4 hc h5 h6 h7 h8
theorem jx_st.isRef {n d : String} {aS : Nat} {cS : Cell} {U : State} {args : Array Value} (h : jx_st n d aS cS U) (hc : U.heap[aS]? = some cS) : (Cond.isRef (.static Bundle.tN n d)).before args U = true := by
  obtain ⟨c, k, i, f, h1, h2, h3, h4, h5, h6, h7, h8, v, h9, h10⟩ := h
  have he : (Term.static Bundle.tN n d).eval args U none [] U = some v := by simp [Term.eval, State.fieldNamed?, h2, h3, h4, hc, h5, h9]
  simp only [Cond.before, Cond.holds, Cond.value, he]
  cases v <;> simp_all [Value.isRef]
theorem jx_st.of {n d : String} {U : State} {args : Array Value} (hl : (Cond.laysStatic Bundle.tN n d).before args U = true) (hr : (Cond.isRef (.static Bundle.tN n d)).before args U = true) : ∃ (aS : Nat) (cS : Cell), U.heap[aS]? = some cS ∧ jx_st n d aS cS U := by
  obtain ⟨c, k, i, f, a, cell, h1, h2, h3, h4, h5, h6, h7, h8, h9⟩ := Cond.laysStatic_spec hl
  cases hv : cell.slots[f.slot]? with
  | none => exact absurd (Array.getElem?_eq_none_iff.mp hv) (by omega)
  | some v =>
    have he : (Term.static Bundle.tN n d).eval args U none [] U = some v := by simp [Term.eval, State.fieldNamed?, h2, h3, h4, h5, h6, hv]
    refine ⟨a, cell, h5, c, k, i, f, h1, h2, h3, h4, h6, h7, h8, h9, v, hv, ?_⟩
    simp only [Cond.before, Cond.holds, Cond.value, he] at hr
    cases v <;> simp_all [Value.isRef]
end
section
/-! Rows of my own for what this class does and the kit's rows have no word for: a method that throws, its catching, a call of a method with a table, a call that leaves the heap as it is. -/
section TXA
variable {l : Launch}
/-- q was thrown, an object of the class E; at most mc cells of ms slots are new, nothing old has changed -/
def tx_Q (E : String) (mc ms : Nat) (st : State) (o : Outcome) (t : State) : Prop :=
  ∃ (q : Addr) (ce : Cell), o = .threw q ∧ t.heap[q]? = some ce ∧ ce.vm = .none ∧ st.vm.findClass E = some ce.cls ∧ st.WarmedH t.vm ∧ st.sameButNew ({ t with vm := st.vm } : State) [] mc ms
/-- the contract of a method that throws -/
def tx_Met (l : Launch) (y : MethodName) (ws : List Cond) (rm : Room) (Pc : Array Value → State → Prop) (E : String) (mc ms : Nat) : Prop :=
  MetFree l y (headSpec ws rm) Pc (fun _ _ _ _ _ => True) (fun _ st o t => tx_Q E mc ms st o t)
def tx_MQ (below : List Frame) (E : String) (s : State) (mc ms : Nat) : State → Prop := fun t => ∃ o, t.status = .running ∧ Ended t below o ∧ tx_Q E mc ms s o t
theorem tx_ofW {y : MethodName} {ws ws' : List Cond} {rm : Room} {Pc : Array Value → State → Prop} {E : String} {mc ms : Nat} {cc : ByteArray} {maxL : Nat} {ret : Option FieldType}
    (hy : plainName y.cls = true) (hw : ws = Cond.code y cc maxL ret :: ws')
    (body : ∀ p e s m args below meth c s₁, BodyLoose p l y (headSpec ws rm) cc maxL ret e s m args below meth c s₁ → c.maxLocals = maxL → Pc args s →
      W p l e (headSpec ws rm).room s m args below meth c s.heap [] 0 0 (tx_MQ below E s mc ms) (entryFrame m args maxL)) : tx_Met l y ws rm Pc E mc ms := by
  refine MetFree.of_bodyS (code := cc) (maxLocals := maxL) (ret := ret) hy ?_ ?_
  · intro args s m h hn
    obtain ⟨meth, c, h1, h2, h3, h4, h5, h6, -, -⟩ := Cond.code_spec hn (atoms_spec (ws := ws) h _ (by rw [hw]; exact List.mem_cons_self))
    exact ⟨meth, c, h1, h2, h3, h4, h5, h6⟩
  · intro p e s m args below meth c s₁ B hml hP _
    have hh0 : s₁.heap = s.heap := by rw [B.state]; rfl
    obtain ⟨t, a1, o, b1, b2, b3⟩ := body p e s m args below meth c s₁ B hml hP s₁ hh0 (Stand.of_body B)
    exact ⟨t, o, a1, b1, b2, b3⟩
end TXA
section TXB
variable {p : Program} {l : Launch} {e : Env} {R : Room} {s : State} {m : MethodId} {args : Array Value} {below : List Frame} {meth : Method} {c : Code} {H : Heap} {locs : List Loc} {cells slots : Nat} {Q : State → Prop}
/-- throw new E(), where nothing has been written so far -/
theorem tx_throw {cc : ByteArray} {pc : Nat} {ls : Array Slot} {rest : List Value} (hexec : p.tables.exec = Jvm.exec) (hb : c.code = cc) (hl : l.stackTraces = false) {own cls : String} {names : List String} {ik ic mc ms : Nat}
    (hown : s.vm.findClass own = some m.cls) (hcls : Bundle.fit cls = true) (hnames : ∀ n ∈ names, Bundle.fit n = true)
    (hk : (Cond.classLink own ik cls).before args s = true) (hini : (Cond.initialized cls).before args s = true) (hat : ∀ w ∈ Bundle.ownAtoms0 own ic cls names, w.before args s = true)
    (hsize : ls.size = c.maxLocals) (d0 : decode cc pc = .ok (.new ik, 3)) (d3 : decode cc (pc + 3) = .ok (.dup, 1)) (d4 : decode cc (pc + 4) = .ok (.invokespecial ic, 3)) (d7 : decode cc (pc + 7) = .ok (.athrow, 1))
    (hout : ∀ x ∈ c.exceptionTable.toList, covers x (pc + 7) = false)
    (hRf : names.length + 3 < R.frames) (hRl : (rest.map fun v => v.category).sum + (13 * (names.length + 1) + 42) ≤ R.locals) (hRc : 1 ≤ R.cells) (hRs : 6 ≤ R.slots) (hlocks : meth.locks = false) (hc : 1 ≤ mc) (hs : 6 ≤ ms) :
    W p l e R s m args below meth c s.heap [] 0 0 (tx_MQ below cls s mc ms) (F0 m pc ls rest) := by
  intro T hT X
  have htr : e.platform.stackTraces = false := (show e.platform.stackTraces = l.stackTraces by rw [X.admits.platform]).trans hl
  have hins : (Cond.instantiable cls 6).before args s = true := hat _ (by simp [Bundle.ownAtoms0])
  obtain ⟨vm₁, cX, kX, hfX, hkX, -, -, X₁, st1⟩ := X.newCold hexec (own := own) (C := cls) (index := ik) (n := 6) hown hk hins hini (g := F0 m pc ls rest) rfl (by rw [hb]; exact d0) (by omega) (by omega)
  generalize hT1 : (T.setVm vm₁).pushCell { cls := cX, slots := kX.instanceTypes.map defaultValue, vm := .none } = T1 at X₁ st1
  have hcellA : T1.heap[T.heap.size]? = some (freshCell cX kX) := by rw [← hT1]; exact State.heap_pushCell_size _ _
  have hcat : (Value.ref T.heap.size).category = 1 := rfl
  have d3' : decode c.code (pc + 3) = .ok (.dup, 1) := by rw [hb]; exact d3
  obtain ⟨U, hsteps, hrun, hend, hW, hsame, ce, hce, hO⟩ := X₁.ctorThrow0 hexec htr (own := own) (cls := cls) (names := names) (ic := ic) hown hcls hnames hat (fun x hx => nomatch hx) hfX hkX hcellA (by rw [hT]; exact Nat.le_refl _)
    (g := { method := m, pc := pc + 4, locals := ls, stack := .ref T.heap.size :: .ref T.heap.size :: rest, locked := none }) rfl hsize rfl rfl (rest := rest) rfl
    (by rw [hb]; exact d4) (by rw [hb]; exact d7) hout hRf (by simp only [List.map_cons, List.sum_cons, hcat]; omega) hlocks
  refine ⟨U, ?_, .threw T.heap.size, hrun, hend, T.heap.size, ce, rfl, hce, hO.vm, hO.cls, hW, hsame.mono (by omega) (by omega)⟩
  refine st1 _ ?_
  show Steps p.tables e below (T1.setTop { method := m, pc := pc + 3, locals := ls, stack := .ref T.heap.size :: rest, locked := none }) _
  jvm_step X₁.here [X₁.here.top, hexec, d3', Value.category]
  exact hsteps
/-- a callee that throws, behind the invoking instruction's own step -/
theorem tx_after {T : State} (X : Stand p l e R s m args below meth c T locs cells slots) {y : MethodName} {ws : List Cond} {rm : Room} {Pc : Array Value → State → Prop} {E : String} {mc ms maxL len : Nat} {bytes : ByteArray} {ret : Option FieldType}
    (hM : tx_Met l y ws rm Pc E mc ms) (hblind : FrameBlind Pc) (hrc : rm.cells = mc) (hrs : rm.slots = ms) (hframes : rm.frames + 1 ≤ R.frames) (hlocals : 8 + (maxL + 11) + rm.locals ≤ R.locals)
    (hws : ∀ w ∈ ws, ∀ a' U, s.WarmedH U.vm → w.before a' U = true) (hcode : Cond.code y bytes maxL ret ∈ ws) (hinit : ∀ a' U, s.WarmedH U.vm → (Cond.initialized y.cls).before a' U = true)
    {g : JFrame} {ig : Instr} {mk : MethodId} {a : Array Value} (hg : g.method = m) (hsize : g.locals.size = c.maxLocals) (hdg : decode c.code g.pc = .ok (ig, len)) (hW : 2 * g.monitorRoom + (g.stack.map fun v => v.category).sum ≤ 8)
    (hn : T.methodNamed? y = some mk) (hc : cells + mc ≤ R.cells) (hs : slots + ms ≤ R.slots) (hp : Pc a T) :
    ∃ (q : Addr) (ce : Cell) (T' : State), Stand p l e R s m args below meth c T' locs (cells + mc) (slots + ms) ∧ T'.heap[q]? = some ce ∧ ce.vm = .none ∧ T.vm.findClass E = some ce.cls ∧ (∀ (z : Addr) (d : Cell), T.heap[z]? = some d → T'.heap[z]? = some d) ∧ T.heap.size ≤ T'.heap.size ∧
      Steps p.tables e below (doInvoke e (T.setTop g) [] mk a).1 ((T'.setTop g).pushFrame (.throwing q)) := by
  have h1 : (headSpec ws rm).pre.before a T = true := atoms_intro fun w hw => hws w hw _ _ X.warmed
  have h2 : (Cond.code y bytes maxL ret).before a T = true := hws _ hcode _ _ X.warmed
  have h3 : (Cond.initialized y.cls).before a T = true := hinit _ _ X.warmed
  have h4 : cells + (headSpec ws rm).room.cells ≤ R.cells := by rw [show (headSpec ws rm).room.cells = mc from hrc]; exact hc
  have h5 : slots + (headSpec ws rm).room.slots ≤ R.slots := by rw [show (headSpec ws rm).room.slots = ms from hrs]; exact hs
  obtain ⟨methY, cY, hmY, hcY, -, hlY, -, -, -, -⟩ := Cond.code_spec hn h2
  obtain ⟨kY, hkY, -⟩ := className_of_methodNamed hn
  have hinitY : kY.init = .initialized := Cond.initialized_spec (findClass_of_methodNamed hn) hkY h3
  have h : At T g.method c below := by rw [hg]; exact X.here
  have hlo : 8 + (maxL + 11) + (headSpec ws rm).room.locals ≤ R.locals := hlocals
  have happ : (headSpec ws rm).appliesLoose y e.platform (T.calling g mk a) = true :=
    Spec.appliesLoose_calling (g := g) h hdg hn hkY hinitY (X.room_calling (g := g) (R' := (headSpec ws rm).room) hsize hmY hcY hframes (by rw [hlY]; omega) h4 h5) h1
  obtain ⟨mid, hmid⟩ := h.above
  have hfr : (T.setTop g).frames = (.java g :: mid) ++ below := by rw [State.frames_setTop' g h.top, hmid]; rfl
  obtain ⟨o, s₂, hsteps, -, hend, q, ce, rfl, hce, hcv, hcl, hW₂, hsm⟩ := Steps.callFree hM p X.admits X.cas X.clock (acts := []) hfr happ (hblind _ _ _ _ hp) trivial
  rw [State.frames_setTop' g h.top, X.tail] at hend
  obtain ⟨T', X', hW', hsame, rfl⟩ := X.outOfThrown hg hend hW₂ hsm
  rw [List.append_nil] at X'
  have hh : T'.heap = ((T'.setTop g).pushFrame (.throwing q)).heap := (Stand.throwing_heap T' g q).symm
  refine ⟨q, ce, T', X', by rw [hh]; exact hce, hcv, hcl, fun z d hd => ?_, hsame.2.1, hsteps⟩
  have := State.sameButNew.old_cell hsame hd
  exact this
end TXB
section TXC
variable {p : Program} {l : Launch} {e : Env} {R : Room} {s : State} {m : MethodId} {args : Array Value} {below : List Frame} {meth : Method} {c : Code} {H : Heap} {locs : List Loc} {cells slots : Nat} {Q : State → Prop}
/-- the search for a handler: its first row covers, its class is not resolved yet or is, and takes the object -/
theorem tx_go {S : State} {f : JFrame} {a : Addr} {cell : Cell} {x : ExceptionTableEntry} {t : List ExceptionTableEntry} {k : ClassId} (hx : covers x f.pc = true) (h0 : x.catchType ≠ 0)
    (hl : S.vm.ClassLinks e.platform f.method.cls x.catchType k) (hcell : S.heap[a]? = some cell) (hobj : ∀ z, cell.vm ≠ .statics z) (hk : ∃ z, S.vm.classes[cell.cls]? = some z) (hc : ∃ z, S.vm.classes[k]? = some z) (hfit : S.vm.assignable cell.cls k = true)
    (Q : Handler → Pre) (E : CtlPost) (d : Bool) (acts : List Action) :
    wp (findHandler.go f a (x :: t)) Q E e d acts S ↔ Q (.found x.handlerPc) d acts (S.setVm (S.vm.noted f.method.cls x.catchType (.cls k))) := by
  simp only [covers] at hx
  obtain ⟨ha, ht⟩ := (resolveClass_links e.toSetting hl).op (op := VmOp.resolveClass f.method.cls x.catchType) rfl
  have hal : S.vm.Alike (S.vm.noted f.method.cls x.catchType (.cls k)) := (Vm.Alike.refl S.vm).noted _ _ _
  obtain ⟨k1, hk1⟩ := hk
  obtain ⟨k2, hk2⟩ := hc
  obtain ⟨k1', hk1', -⟩ := hal.2.2 _ _ hk1
  obtain ⟨k2', hk2', -⟩ := hal.2.2 _ _ hk2
  have hfit' : (S.vm.noted f.method.cls x.catchType (.cls k)).assignable cell.cls k = true := by rw [hal.assignable]; exact hfit
  simp [findHandler.go, hx, h0, ha, ht, hcell, hobj, hk1', hk2', hfit', VmOp.dirties, VmOp.acts]
/-- one step of the unwinding, where the search has noted a class -/
theorem tx_step {S : State} {f : JFrame} {a : Addr} {r : List Frame} {pc : Nat} {vm' : Vm} (hfind : ∀ (Q : Handler → Pre) (E : CtlPost) (d : Bool) (acts : List Action), wp (findHandler f a) Q E e d acts S ↔ Q (.found pc) d acts (S.setVm vm')) :
    (stepThrowing e S a (.java f :: r)).Is ((S.setVm vm').setFrames (.java { f with pc := pc, stack := [.ref a] } :: r)) [] := by
  simp only [stepThrowing, searchFrame, vmDo]
  generalize hr : Sem.go _ e false [] S = res
  obtain ⟨as, rfl, ha⟩ := Sem.eq_ok_of hr (a := Handler.found pc) (s' := S.setVm vm') (acts' := []) (by simp [hfind _ _ _ _])
  exact ⟨rfl, ha⟩
theorem tx_caught {S target : State} {g : JFrame} {a : Addr} (h : At S g.method c below) {pc : Nat} {vm' : Vm}
    (hfind : ∀ (Q : Handler → Pre) (E : CtlPost) (d : Bool) (acts : List Action), wp (findHandler g a) Q E e d acts ((S.setTop g).pushFrame (.throwing a)) ↔ Q (.found pc) d acts (((S.setTop g).pushFrame (.throwing a)).setVm vm'))
    (hrest : Steps p.tables e below ((S.setVm vm').setTop { g with pc := pc, stack := [.ref a] }) target) : Steps p.tables e below ((S.setTop g).pushFrame (.throwing a)) target := by
  obtain ⟨hgo, hw⟩ := h.throwing a
  refine Steps.head hgo hw ?_
  rw [stepThread_throwing (frames_entered h.top _), (tx_step (S := (S.setTop g).pushFrame (.throwing a)) hfind).1]
  obtain ⟨g₀, hg⟩ := Option.isSome_iff_exists.mp h.top
  obtain ⟨r, hr⟩ := State.topJava?_eq_some.mp hg
  have hr' : (S.setVm vm').frames = .java g₀ :: r := hr
  rw [State.setTop_of_frames _ hr'] at hrest
  have e1 : (((S.setTop g).pushFrame (.throwing a)).setVm vm').setFrames (.java { g with pc := pc, stack := [.ref a] } :: S.frames.tail) = (S.setVm vm').setFrames (.java { g with pc := pc, stack := [.ref a] } :: r) := by
    rw [State.pushFrame, State.setTop_of_frames _ hr, State.setFrames_setFrames, hr]
    show ((S.setVm vm').setFrames _).setFrames _ = _
    rw [State.setFrames_setFrames]
    rfl
  rw [e1]
  exact hrest
/-- a thrown object over the frame, caught by the first row of this method's table -/
theorem tx_catch {T : State} (X : Stand p l e R s m args below meth c T locs cells slots) {own name E : String} {ce : Cell} {q : Addr} {g : JFrame} (hg : g.method = m) (hown : s.vm.findClass own = some m.cls) {x : ExceptionTableEntry} {suf : List ExceptionTableEntry}
    (htab : c.exceptionTable.toList = x :: suf) (hx : covers x g.pc = true) (h0 : x.catchType ≠ 0) (hlink : (Cond.classLink own x.catchType name).before args s = true) (hcast : (Cond.castable E name).before args s = true)
    (hcell : T.heap[q]? = some ce) (hv : ce.vm = .none) (hcl : s.vm.findClass E = some ce.cls) :
    ∃ vm', Stand p l e R s m args below meth c (T.setVm vm') locs cells slots ∧ ∀ tg, Steps p.tables e below ((T.setVm vm').setTop { g with pc := x.handlerPc, stack := [.ref q] }) tg → Steps p.tables e below ((T.setTop g).pushFrame (.throwing q)) tg := by
  subst hg
  have hpl : e.platform.magicAccessors = ({} : Platform).magicAccessors := by rw [X.admits.platform]
  obtain ⟨c3, c4, hc3, hc4, hasg⟩ := Cond.castable_spec hcast
  cases Option.some.inj (hc3.symm.trans hcl)
  obtain ⟨c5, hc5, hl5⟩ := Cond.classLink_spec hown hlink e.platform hpl
  cases Option.some.inj (hc4.symm.trans hc5)
  obtain ⟨dk, _, _, kt, hd, _, _, _, _, hkt, _, hopen⟩ := hl5.here
  have hW := X.warmed
  obtain ⟨kt', hkt', -⟩ := hW.alike.2.2 _ _ hkt
  obtain ⟨k9, h9, -⟩ := Vm.findClass_spec hcl
  obtain ⟨k9', h9', -⟩ := hW.alike.2.2 _ _ h9
  have hlT : T.vm.ClassLinks e.platform g.method.cls x.catchType c4 := hW.classLinks hl5
  have hfitT : T.vm.assignable ce.cls c4 = true := by rw [hW.alike.assignable]; exact hasg
  refine ⟨T.vm.noted g.method.cls x.catchType (.cls c4), X.noted (hW.noted hd hopen (State.rightAt_cls hl5)), fun tg hrest => ?_⟩
  refine tx_caught X.here (pc := x.handlerPc) (vm' := T.vm.noted g.method.cls x.catchType (.cls c4)) (fun Q E d acts => ?_) hrest
  rw [W.findHandler_eq (meth := meth) (code := c) (by rw [Stand.throwing_vm]; exact X.method') X.code, htab]
  have hvm := Stand.throwing_vm T g q
  have hhp := Stand.throwing_heap T g q
  have := tx_go (e := e) (S := (T.setTop g).pushFrame (.throwing q)) (f := g) (a := q) (cell := ce) (x := x) (t := suf) (k := c4) hx h0 (by rw [hvm]; exact hlT) (by rw [hhp]; exact hcell) (fun z hz => by rw [hv] at hz; cases hz) (by rw [hvm]; exact ⟨k9', h9'⟩) (by rw [hvm]; exact ⟨kt', hkt'⟩) (by rw [hvm]; exact hfitT) Q E d acts
  rw [hvm] at this
  exact this
/-- x.m(..) of a method that throws, in a method whose first row takes what it throws -/
theorem tx_callV {cc : ByteArray} {nL : Nat} {Ts : List Cond} {own C name E : String} {index : Nat} {y : MethodName} {bytes : ByteArray} {maxL mc ms n pc : Nat} {ret : Option FieldType} {ws : List Cond} {rm : Room} {Pc : Array Value → State → Prop} {b : Addr} {As rest : List Value} {ls : Array Slot} {st0 : List Value}
    (S : CallFix p m c cc nL s args Ts own) (hM : tx_Met l y ws rm Pc E mc ms) (cw : CallW R s args own C index y bytes maxL ret ws rm mc ms n) (hp : PreV s H C b Pc As)
    (hn : As.length = n) (hsize : ls.size = nL) (hstack : st0 = As.reverse ++ .ref b :: rest) (hW : 2 * (F0 m pc ls st0).monitorRoom + (rest.map fun v => v.category).sum ≤ 8) (hdg : decode cc pc = .ok (.invokevirtual index, 3)) (hf : cells + mc ≤ R.cells ∧ slots + ms ≤ R.slots)
    {x : ExceptionTableEntry} {suf : List ExceptionTableEntry} (htab : c.exceptionTable.toList = x :: suf) (hx : covers x pc = true) (h0 : x.catchType ≠ 0) (hlink : (Cond.classLink own x.catchType name).before args s = true) (hcast : (Cond.castable E name).before args s = true)
    (kk : ∀ (q : Addr) (H1 : Heap), H.size ≤ H1.size → (∀ (z : Addr) (d : Cell), H[z]? = some d → H1[z]? = some d) → W p l e R s m args below meth c H1 locs (cells + mc) (slots + ms) Q (F0 m x.handlerPc ls [.ref q])) :
    W p l e R s m args below meth c H locs cells slots Q (F0 m pc ls st0) := by
  intro T hT X
  obtain ⟨⟨hrc, hrs, hfr, hlo, hws, hcw, hcode, hini, hy, hlen, hl⟩, hinst, hsel⟩ := cw
  obtain ⟨hexec, hb, hml, hown, -⟩ := S
  obtain ⟨hbl, ⟨cellB, hcB, hoB, hclB⟩, hPc⟩ := hp
  obtain ⟨mk, methM, hnamed, hmethM, hstM, habM⟩ := Cond.instanceMethod_spec hinst
  obtain ⟨methM', cM, hmethM', -, -, -, -, -, -, hsigM⟩ := Cond.code_spec hnamed hcode
  cases hmethM.symm.trans hmethM'
  obtain ⟨c2, r2, m2, q1, q2, q3, q4, kP, hkP, hkPi⟩ := Cond.selects_spec hsel
  cases hclB.symm.trans q1
  cases (State.methodFound?_of_named hnamed hy).symm.trans q2
  cases hnamed.symm.trans q3
  have hselP : selectMethod e.platform s.vm cellB.cls mk = .method mk := by rw [Launch.admits_selectMethod X.admits]; exact q4
  obtain ⟨vm₁, X₁, hstep₁⟩ := X.invokevirtual hexec hown hl hnamed hmethM hstM hkP hkPi hy (a := b) (cell := cellB) (by rw [hT]; exact hcB)
    (fun z h => by rw [h] at hoB; cases hoB) hselP hmethM habM hkP hkPi (g := F0 m pc ls st0) rfl (argsL := As) (rest := rest) (hn.trans (hlen _ hsigM)) hstack (by rw [hb]; exact hdg)
  obtain ⟨q, ce, T', X', hce, hcv, hcl, hold, hgrow, hsteps⟩ := tx_after X₁ (bytes := bytes) (maxL := maxL) (ret := ret) hM hbl hrc hrs hfr hlo hws hcw (fun a' U hW => word_at hW (Or.inl (by first | rfl | simp [Cond.onTables, Cond.keeps, Cond.steady])) hini)
    (g := { F0 m pc ls st0 with stack := rest }) (ig := .invokevirtual index) (len := 3) (mk := mk) (a := (Value.ref b :: As).toArray) rfl (hsize.trans hml.symm) (by rw [hb]; exact hdg) hW (X₁.named hnamed) hf.1 hf.2 (hPc (T.setVm vm₁) hT X₁.warmed)
  have hclS : s.vm.findClass E = some ce.cls := by
    have h1 : vm₁.findClass E = some ce.cls := hcl
    have h2 : s.WarmedH vm₁ := X₁.warmed
    rw [h2.alike.findClass] at h1
    exact h1
  obtain ⟨vm', X'', st2⟩ := tx_catch X' (g := { F0 m pc ls st0 with stack := rest }) rfl hown htab hx h0 hlink hcast hce hcv hclS
  obtain ⟨t, a1, b1⟩ := kk q T'.heap (by rw [← hT]; exact hgrow) (fun z d hd => hold z d (by rw [← hT] at hd; exact hd)) (T'.setVm vm') rfl X''
  exact ⟨t, hstep₁ _ fun acts => by rw [doInvoke_state]; exact hsteps.trans (st2 t a1), b1⟩
end TXC
end
section
/-! multianewarray of two dimensions of ints: the kit's rows have no word for it -/
section MXA
def mx_f (h i j : Nat) : Value := if j < i then .ref (h + 1 + j) else .null
abbrev mx_out (cA : ClassId) (N h i : Nat) : Cell := arrV cA N (mx_f h i)
abbrev mx_in (cI : ClassId) (M : Nat) : Cell := arrV cI M (fun _ => .int 0)
def mx_fill (S : State) (cA cI : ClassId) (N M : Nat) : Nat → State
  | 0 => S.pushCell (mx_out cA N S.heap.size 0)
  | i + 1 => ((mx_fill S cA cI N M i).pushCell (mx_in cI M)).setCell S.heap.size (mx_out cA N S.heap.size (i + 1))
theorem mx_next (cA : ClassId) (N h i : Nat) : (mx_out cA N h i).setSlot i (.ref (h + 1 + i)) = mx_out cA N h (i + 1) := by
  rw [arrV_store]
  refine congrArg (arrV cA N) (funext fun j => ?_)
  by_cases e : j = i
  · subst e; simp [updV, mx_f]
  · by_cases h2 : j < i
    · simp [updV, mx_f, e, h2, Nat.lt_succ_of_lt h2]
    · simp [updV, mx_f, e, h2, show ¬ j < i + 1 by omega]
theorem mx_size (S : State) (cA cI : ClassId) (N M : Nat) : ∀ i, (mx_fill S cA cI N M i).heap.size = S.heap.size + 1 + i
  | 0 => by simp [mx_fill]
  | i + 1 => by
    have := mx_size S cA cI N M i
    simp [mx_fill, State.setCell, this]; omega
theorem mx_vm (S : State) (cA cI : ClassId) (N M : Nat) : ∀ i, (mx_fill S cA cI N M i).vm = S.vm
  | 0 => rfl
  | i + 1 => by
    have := mx_vm S cA cI N M i
    simp [mx_fill, this]
theorem mx_used (S : State) (cA cI : ClassId) (N M : Nat) : ∀ i, (mx_fill S cA cI N M i).slotsUsed = S.slotsUsed + N + i * M
  | 0 => by simp [mx_fill, arrV_size]
  | i + 1 => by
    have := mx_used S cA cI N M i
    simp [mx_fill, this, arrV_size, Nat.succ_mul]; omega
theorem mx_self (S : State) (cA cI : ClassId) (N M : Nat) : ∀ i, (mx_fill S cA cI N M i).heap[S.heap.size]? = some (mx_out cA N S.heap.size i)
  | 0 => by simp [mx_fill]
  | i + 1 => by
    have h1 := mx_self S cA cI N M i
    have h2 : S.heap.size < (mx_fill S cA cI N M i).heap.size := by rw [mx_size]; omega
    have h3 : ((mx_fill S cA cI N M i).pushCell (mx_in cI M)).heap[S.heap.size]? = some (mx_out cA N S.heap.size i) := by rw [State.heap_pushCell_of_lt (h := h2)]; exact h1
    exact State.heap_setCell_self h3
theorem mx_old (S : State) (cA cI : ClassId) (N M : Nat) {a : Addr} (ha : a < S.heap.size) : ∀ i, (mx_fill S cA cI N M i).heap[a]? = S.heap[a]?
  | 0 => State.heap_pushCell_of_lt _ _ ha
  | i + 1 => by
    have h2 : a < (mx_fill S cA cI N M i).heap.size := Nat.lt_of_lt_of_le ha (by rw [mx_size]; omega)
    show (((mx_fill S cA cI N M i).pushCell (mx_in cI M)).setCell S.heap.size _).heap[a]? = _
    rw [State.heap_setCell_other (Nat.ne_of_gt ha), State.heap_pushCell_of_lt (h := h2)]
    exact mx_old S cA cI N M ha i
theorem mx_row (S : State) (cA cI : ClassId) (N M : Nat) : ∀ i j, j < i → (mx_fill S cA cI N M i).heap[S.heap.size + 1 + j]? = some (mx_in cI M)
  | 0, _, h => absurd h (Nat.not_lt_zero _)
  | i + 1, j, h => by
    show (((mx_fill S cA cI N M i).pushCell (mx_in cI M)).setCell S.heap.size _).heap[S.heap.size + 1 + j]? = _
    rw [State.heap_setCell_other (show S.heap.size ≠ S.heap.size + 1 + j by omega)]
    by_cases hj : j < i
    · have h2 : S.heap.size + 1 + j < (mx_fill S cA cI N M i).heap.size := by rw [mx_size]; omega
      rw [State.heap_pushCell_of_lt (h := h2)]
      exact mx_row S cA cI N M i j hj
    · have e : j = i := by omega
      subst e
      rw [← mx_size S cA cI N M j]
      exact State.heap_pushCell_size _ _
theorem mx_top (S : State) (f : JFrame) (cA cI : ClassId) (N M : Nat) : ∀ i, mx_fill (S.setTop f) cA cI N M i = (mx_fill S cA cI N M i).setTop f
  | 0 => rfl
  | i + 1 => by simp only [mx_fill, mx_top S f cA cI N M i, State.heap_setTop, State.pushCell_setTop, State.setCell_setTop]
end MXA
section MXB
variable {E : CtlPost} {e : Env} {d : Bool} {acts : List Action} {S : State}
theorem mx_wpNew {c comp : ClassId} {k : Class} {type : FieldType} {len : Nat} {init : Value} (hk : S.vm.classes[c]? = some k) (hkind : k.kind = .array comp type)
    (hlimit : ¬ len > e.platform.arrayLengthLimit) (hheap : ¬ len * componentBytes type > e.platform.maxHeapBytes) (hfit : fits type init = true) (hdef : init.isDefault = true) {Q : Addr → Pre}
    (h1 : S.heap.size < e.platform.maxCells) (h2 : S.slotsUsed + len ≤ e.platform.maxSlots) (hq : Q S.heap.size d acts (S.pushCell (arrV c len (fun _ => init)))) :
    wp (Jvm.newArray c len init) Q E e d acts S := by
  rw [← arrV_new] at hq
  have hfits : ∀ i v, (Array.replicate len init)[i]? = some v → S.fitsSlot c .none i v = true := by
    intro i v hv
    simp only [Array.getElem?_replicate] at hv
    split at hv
    · cases hv; simp [State.fitsSlot, State.slotType?, hk, hkind, hfit]
    · cases hv
  have hda : allocActs (Array.replicate len init) S.heap.size acts = acts := by
    have hall : ((Array.replicate len init).all (·.isDefault)) = true := by
      rw [Array.all_replicate]; split <;> simp [hdef]
    unfold allocActs; rw [if_pos hall]
  simp only [Jvm.newArray, Jvm.arrayFits, wp_bind', W.ask, W.ite, hlimit, if_false, wp_pure', W.theClass, hk, hkind, hheap, W.alloc, W.stop, Option.some.injEq, exists_eq_left', Array.size_replicate, hda]
  rw [if_neg (by omega)]
  exact ⟨h1, h2, hfits, hq⟩
theorem mx_wp1 {cI cc : ClassId} {kc : Class} {m : Int32} (hkc : S.vm.classes[cI]? = some kc) (hkindc : kc.kind = .array cc .int) (hm : ¬ m < 0)
    (hl2 : ¬ m.toNatClampNeg > e.platform.arrayLengthLimit) (hh2 : ¬ m.toNatClampNeg * componentBytes .int > e.platform.maxHeapBytes)
    (h1 : S.heap.size < e.platform.maxCells) (h2 : S.slotsUsed + m.toNatClampNeg ≤ e.platform.maxSlots)
    {Q : Addr → Pre} (hq : Q S.heap.size d acts (S.pushCell (mx_in cI m.toNatClampNeg))) : wp (Op.multianewarray.make cI [m]) Q E e d acts S := by
  rw [Op.multianewarray.make]
  simp only [wp_bind', W.ite, hm, if_false, wp_pure', W.theClass, hkc, hkindc, Option.some.injEq, exists_eq_left']
  exact mx_wpNew hkc hkindc hl2 hh2 rfl rfl h1 h2 hq
theorem mx_wp2 {cA cI cc : ClassId} {k kc : Class} {n m : Int32} (hk : S.vm.classes[cA]? = some k) (hkind : k.kind = .array cI (.array .int)) (hkc : S.vm.classes[cI]? = some kc) (hkindc : kc.kind = .array cc .int) (hn : ¬ n < 0) (hm : ¬ m < 0)
    (hl1 : ¬ n.toNatClampNeg > e.platform.arrayLengthLimit) (hh1 : ¬ n.toNatClampNeg * componentBytes (.array .int) > e.platform.maxHeapBytes) (hl2 : ¬ m.toNatClampNeg > e.platform.arrayLengthLimit) (hh2 : ¬ m.toNatClampNeg * componentBytes .int > e.platform.maxHeapBytes)
    (hc : S.heap.size + 1 + n.toNatClampNeg ≤ e.platform.maxCells) (hs : S.slotsUsed + n.toNatClampNeg + n.toNatClampNeg * m.toNatClampNeg ≤ e.platform.maxSlots)
    {Q : Addr → Pre} (hq : ∀ d' acts', Q S.heap.size d' acts' (mx_fill S cA cI n.toNatClampNeg m.toNatClampNeg n.toNatClampNeg)) : wp (Op.multianewarray.make cA [n, m]) Q E e d acts S := by
  generalize hN : n.toNatClampNeg = N at *
  generalize hM : m.toNatClampNeg = M at *
  have hfind : ([m].find? (· < 0)) = none := by simp [hm]
  rw [Op.multianewarray.make]
  simp only [wp_bind', W.ite, hn, if_false, wp_pure', W.theClass, hk, hkind, Option.some.injEq, exists_eq_left', hN]
  refine mx_wpNew hk hkind hl1 hh1 rfl rfl (by omega) (by have := Nat.zero_le (N * M); omega) ?_
  simp only [hfind]
  rw [ite_self, wp_bind', Std.Legacy.Range.forIn_eq_forIn_range']
  have hsz : ([:N] : Std.Legacy.Range).size = N := by simp [Std.Legacy.Range.size]
  rw [hsz]
  have h0 : S.pushCell (arrV cA N (fun _ => Value.null)) = mx_fill S cA cI N M 0 := by
    show _ = S.pushCell (arrV cA N (mx_f S.heap.size 0))
    refine congrArg (fun f => S.pushCell (arrV cA N f)) (funext fun j => ?_)
    simp [mx_f]
  rw [h0]
  show wp (forIn (List.range' 0 N 1) PUnit.unit _) _ E e d acts _
  refine wp_forIn_inv (fun rest s' => ∃ i, i ≤ N ∧ rest = List.range' i (N - i) ∧ s' = mx_fill S cA cI N M i) _ _ ⟨0, Nat.zero_le _, rfl, rfl⟩ ?_ ?_
  · rintro x rest s' d' acts' Q' ⟨i, hi, hl, rfl⟩ hnext
    have hlt : i < N := by
      rcases Nat.lt_or_ge i N with h | h
      · exact h
      · rw [show N - i = 0 by omega] at hl; simp at hl
    rw [show N - i = (N - (i + 1)) + 1 by omega, List.range'_succ] at hl
    obtain ⟨rfl, hrest⟩ := List.cons.inj hl
    have hmul : x * M + M ≤ N * M := by
      have := Nat.mul_le_mul_right M (show x + 1 ≤ N from hlt)
      rw [Nat.succ_mul] at this; exact this
    simp only [wp_bind']
    refine mx_wp1 (by rw [mx_vm]; exact hkc) hkindc hm (by rw [hM]; exact hl2) (by rw [hM]; exact hh2) (by rw [mx_size]; omega) (by rw [mx_used, hM]; omega) ?_
    have hlt0 : S.heap.size < (mx_fill S cA cI N M x).heap.size := by rw [mx_size]; omega
    simp only [wp_bind', W.writeLoc, wp_pure', hM]
    refine ⟨mx_out cA N S.heap.size x, by rw [State.heap_pushCell_of_lt (h := hlt0)]; exact mx_self S cA cI N M x, by simp [arrV], by rw [arrV_size]; exact hlt, ?_, hnext _ _ _ ⟨x + 1, hlt, hrest, ?_⟩⟩
    · simp [State.fitsSlot, State.slotType?, mx_vm, hk, hkind, arrV, fits]
    · rw [mx_size, mx_next]; rfl
  · rintro s' d' acts' ⟨i, hi, hl, rfl⟩
    have hiN : i = N := by
      rcases Nat.lt_or_ge i N with h | h
      · rw [show N - i = (N - (i + 1)) + 1 by omega, List.range'_succ] at hl; cases hl
      · omega
    subst hiN
    simp only [wp_pure']
    exact hq _ _
end MXB
section MXD
/-- int[][] and int[] by their names, in the tables -/
def mx_A (U : State) : Prop := ∃ (cI cA : ClassId) (kA : Class), U.vm.findClass "[I" = some cI ∧ U.vm.classes[cA]? = some kA ∧ kA.kind = .array cI (.array .int) ∧ U.vm.findClass "[[I" = some cA
theorem mx_A.moved {u U : State} (hvm : u.vm.Alike U.vm) (h : mx_A u) : mx_A U := by
  obtain ⟨cI, cA, kA, h1, h2, h3, h4⟩ := h
  obtain ⟨k', hk', he⟩ := hvm.2.2 _ _ h2
  exact ⟨cI, cA, k', by rw [hvm.findClass]; exact h1, hk', by rw [he]; exact h3, by rw [hvm.findClass]; exact h4⟩
theorem mx_A.of {args : Array Value} {s : State} (hover : (Cond.arrayOver (.array .int)).before args s = true) : mx_A s := by
  have h := hover
  simp only [Cond.before, Cond.holds, Cond.value, beq_iff_eq] at h
  cases hc : s.vm.findClass (FieldType.array .int).toString with
  | none => simp [hc] at h
  | some comp =>
    simp only [hc, Option.bind_some, Option.bind_eq_some_iff, Option.map_eq_some_iff] at h
    obtain ⟨c9, hi, k9, hk9, hb9⟩ := h
    obtain ⟨hlt, hp9, -⟩ := Array.findIdx?_eq_some_iff_getElem.mp hi
    have hkk : s.vm.classes[c9] = k9 := (Array.getElem?_eq_some_iff.mp hk9).2
    rw [hkk] at hp9
    cases hkind : k9.kind with
    | array component ty =>
      rw [hkind] at hb9 hp9
      simp at hb9 hp9
      exact ⟨comp, c9, k9, hc, hk9, by rw [hkind, hp9, hb9.1], hb9.2⟩
    | _ => rw [hkind] at hb9; simp at hb9
end MXD
section MXC
variable {p : Program} {l : Launch} {e : Env} {R : Room} {s : State} {m : MethodId} {args : Array Value} {below : List Frame} {meth : Method} {c : Code} {H : Heap} {locs : List Loc} {cells slots : Nat} {Q : State → Prop}
theorem mx_stand {T : State} (X : Stand p l e R s m args below meth c T locs cells slots) (cA cI : ClassId) (N M : Nat) : ∀ i, Stand p l e R s m args below meth c (mx_fill T cA cI N M i) locs (cells + 1 + i) (slots + N + i * M)
  | 0 => by
    have h := X.pushed (mx_out cA N T.heap.size 0)
    rw [arrV_size] at h
    simpa [mx_fill] using h
  | i + 1 => by
    have Xi := mx_stand X cA cI N M i
    have h2 : T.heap.size < (mx_fill T cA cI N M i).heap.size := by rw [mx_size]; omega
    have hcell : ((mx_fill T cA cI N M i).pushCell (mx_in cI M)).heap[T.heap.size]? = some (mx_out cA N T.heap.size i) := by rw [State.heap_pushCell_of_lt (h := h2)]; exact mx_self T cA cI N M i
    have h := (Xi.pushed (mx_in cI M)).stored hcell i (.ref (T.heap.size + 1 + i))
    rw [arrV_size, mx_next] at h
    have e3 : slots + N + (i + 1) * M = slots + N + i * M + M := by rw [Nat.succ_mul]; omega
    rw [e3]
    exact Stand.forget (extra := [⟨T.heap.size, i⟩]) h (fun y hy => by rw [List.mem_singleton.mp hy]; exact X.same.2.1)
/-- new int[n][k] -/
theorem mx_new {cc : ByteArray} {pc N M : Nat} {ls : Array Slot} {rest : List Value} {n k : Int32} (hexec : p.tables.exec = Jvm.exec) (hb : c.code = cc) {own : String} {index : Nat}
    (hown : s.vm.findClass own = some m.cls) (hclink : (Cond.classLink own index "[[I").before args s = true) (hA : mx_A s) (harr : (Cond.arrayClass .int).before args s = true)
    (hdg : decode cc pc = .ok (.multianewarray index 2, 4)) (hn : ¬ n < 0) (hk : ¬ k < 0) (hN : n.toNatClampNeg = N) (hM : k.toNatClampNeg = M) (hb1 : N * 4 ≤ 536870912) (hb2 : M * 4 ≤ 536870912)
    (hcells : cells + (1 + N) ≤ R.cells) (hslots : slots + (N + N * M) ≤ R.slots)
    (kk : ∀ (q : Nat) (cA cI : ClassId) (H1 : Heap), H.size ≤ q → q + N < H1.size → (∀ a : Nat, a < H.size → H1[a]? = H[a]?) → H1[q]? = some (arrV cA N (mx_f q N)) → (∀ j : Nat, j < N → H1[q + 1 + j]? = some (arrV cI M (fun _ => .int 0))) →
      ArrOfT s cA (.array .int) → ArrOfT s cI .int → s.vm.findClass "[[I" = some cA → s.vm.findClass "[I" = some cI → W p l e R s m args below meth c H1 locs (cells + 1 + N) (slots + N + N * M) Q (F0 m (pc + 4) ls (.ref q :: rest))) :
    W p l e R s m args below meth c H locs cells slots Q (F0 m pc ls (.int k :: .int n :: rest)) := by
  intro T hT X
  subst hN; subst hM
  have hpl : e.platform.magicAccessors = ({} : Platform).magicAccessors := by rw [X.admits.platform]
  obtain ⟨cI, cA, kA, hcI, hkA, hkindA, hcA⟩ := hA
  obtain ⟨cI', kC, cc', hcI', hkC, hkindC⟩ := Cond.arrayClass_spec harr
  have ecI : cI' = cI := Option.some.inj (hcI'.symm.trans hcI)
  subst ecI
  obtain ⟨c0, hfc0, hcl⟩ := Cond.classLink_spec hown hclink e.platform hpl
  cases hcA.symm.trans hfc0
  obtain ⟨hg₁, hwarm₁, hready₁⟩ := State.classEntry (e := e) X.warmed hcl
  generalize T.vm.noted m.cls index (.cls cA) = vm₁ at hg₁ hwarm₁ hready₁
  obtain ⟨kA₁, hkA₁, heA⟩ := hwarm₁.alike.2.2 _ _ hkA
  obtain ⟨kC₁, hkC₁, heC⟩ := hwarm₁.alike.2.2 _ _ hkC
  have hkindA₁ : kA₁.kind = .array cI' (.array .int) := by rw [heA]; exact hkindA
  have hkindC₁ : kC₁.kind = .array cc' .int := by rw [heC]; exact hkindC
  have X₁ := X.noted hwarm₁
  have XF := mx_stand X₁ cA cI' n.toNatClampNeg k.toNatClampNeg n.toNatClampNeg
  obtain ⟨hr1, hr2⟩ := X.roomAbove hcells hslots
  have hh : (T.setVm vm₁).heap = H := hT
  obtain ⟨t, a1, b1⟩ := kk H.size cA cI' (mx_fill (T.setVm vm₁) cA cI' n.toNatClampNeg k.toNatClampNeg n.toNatClampNeg).heap (Nat.le_refl _) (by rw [mx_size, hh]; omega) (fun a ha => by rw [mx_old _ _ _ _ _ (by rw [hh]; exact ha), hh])
    (by have := mx_self (T.setVm vm₁) cA cI' n.toNatClampNeg k.toNatClampNeg n.toNatClampNeg; rw [hh] at this; exact this) (fun j hj => by have := mx_row (T.setVm vm₁) cA cI' n.toNatClampNeg k.toNatClampNeg n.toNatClampNeg j hj; rw [hh] at this; exact this)
    (fun n z => ⟨fun k h => (by cases h), kA, hkA, cI', hkindA⟩) (fun n z => ⟨fun k h => (by cases h), kC, hkC, cc', hkindC⟩) hcA hcI _ rfl XF
  refine ⟨t, ?_, b1⟩
  have hl1 : ¬ n.toNatClampNeg > e.platform.arrayLengthLimit := by rw [Launch.admits_arrayLengthLimit X.admits]; omega
  have hh1 : ¬ n.toNatClampNeg * componentBytes (.array .int) > e.platform.maxHeapBytes := by rw [Launch.admits_maxHeapBytes X.admits]; show ¬ n.toNatClampNeg * 4 > 536870912; omega
  have hl2 : ¬ k.toNatClampNeg > e.platform.arrayLengthLimit := by rw [Launch.admits_arrayLengthLimit X.admits]; omega
  have hh2 : ¬ k.toNatClampNeg * componentBytes .int > e.platform.maxHeapBytes := by rw [Launch.admits_maxHeapBytes X.admits]; show ¬ k.toNatClampNeg * 4 > 536870912; omega
  have hdg' : decode c.code pc = .ok (.multianewarray index 2, 4) := by rw [hb]; exact hdg
  jvm_step X.here [hexec, hdg']
  simp only [Op.multianewarray.sem, wp_bind', W.resolveClassAt_links (State.method?_setTop (F0 m pc ls (.int k :: .int n :: rest)) X.here.top) hg₁]
  rw [W.popN, if_neg (by decide)]
  refine ⟨F0 m pc ls (.int k :: .int n :: rest), State.topJava?_setTop' (s := T.setVm vm₁) _ X.here.top, [.int n, .int k], rest, rfl, rfl, ?_⟩
  simp only [List.mapM_cons, List.mapM_nil, wp_bind', wp_pure']
  refine mx_wp2 (k := kA₁) (kc := kC₁) (cI := cI') (cc := cc') hkA₁ hkindA₁ hkC₁ hkindC₁ hn hk hl1 hh1 hl2 hh2 (by show T.heap.size + 1 + _ ≤ _; omega) (by show T.slotsUsed + _ + _ ≤ _; omega) (fun d' acts' => ?_)
  have eS : ((T.setTop (F0 m pc ls (.int k :: .int n :: rest))).setVm vm₁).setTop { F0 m pc ls (.int k :: .int n :: rest) with stack := rest } = (T.setVm vm₁).setTop { F0 m pc ls (.int k :: .int n :: rest) with stack := rest } := by
    show ((T.setVm vm₁).setTop _).setTop _ = _
    rw [State.setTop_setTop]
  rw [eS, mx_top]
  simp only [wp_bind', W.mark, W.pushRef, State.topJava?_setTop' _ XF.here.top, Option.some.injEq, exists_eq_left', State.setTop_setTop, State.heap_setTop]
  intro acts
  simp [jvm, XF.here.top]
  rw [← hh] at a1
  exact a1
end MXC
end
section
/-- what every method of mine is given beside its words: the words that aren't good ones, int[][] and Label[] in the tables, Throwable's two statics -/
def jx (aS aT : Nat) (cS cT : Cell) (U : State) : Prop := (∀ w ∈ lw_tbl, gx_nk w = true → va_Nw w U) ∧ mx_A U ∧ va_AO "TapeSealer$Label" U ∧ jx_st "UNASSIGNED_STACK" Bundle.steD aS cS U ∧ jx_st "SUPPRESSED_SENTINEL" Bundle.listD aT cT U ∧ U.heap[aS]? = some cS ∧ U.heap[aT]? = some cT
theorem jx.move {aS aT : Nat} {cS cT : Cell} {s U : State} (hW : s.WarmedH U.vm) (h1 : U.heap[aS]? = s.heap[aS]?) (h2 : U.heap[aT]? = s.heap[aT]?) (h : jx aS aT cS cT s) : jx aS aT cS cT U :=
  ⟨fun w hw hk => gx_nk_warm hk hW (h.1 w hw hk), h.2.1.moved hW.alike, va_AO.moved hW.alike h.2.2.1, h.2.2.2.1.moved hW.alike, h.2.2.2.2.1.moved hW.alike, by rw [h1]; exact h.2.2.2.2.2.1, by rw [h2]; exact h.2.2.2.2.2.2⟩
theorem jx.word {aS aT : Nat} {cS cT : Cell} {U : State} {args : Array Value} (h : jx aS aT cS cT U) {w : Cond} (k : Nat) (hk : lw_tbl[k]? = some w) (hn : gx_nk w = true) : w.before args U = true := va_Nw.use (gx_nk_on hn) (h.1 w (List.mem_of_getElem? hk) hn)
theorem jx.call {aS aT : Nat} {cS cT : Cell} {U : State} (g : JFrame) (mk : MethodId) (a : Array Value) (h : jx aS aT cS cT U) : jx aS aT cS cT (U.calling g mk a) := h.move (s := U) (U := U.calling g mk a) (State.WarmedH.refl U) rfl rfl
/-- the words of 'throw new E()' -/
theorem jx.own {aS aT : Nat} {cS cT : Cell} {s : State} {args : Array Value} (h : jx aS aT cS cT s) (hB : ∀ w ∈ gx_B, w.before args s = true) {own cls : String} {ic : Nat} {names : List String}
    (hd : ∀ w ∈ Bundle.ownAtoms0 own ic cls names, w ∈ lw_tbl ∨ w = .isRef (.static Bundle.tN "UNASSIGNED_STACK" Bundle.steD) ∨ w = .isRef (.static Bundle.tN "SUPPRESSED_SENTINEL" Bundle.listD))
    (hk : (Bundle.ownAtoms0 own ic cls names).all (fun w => goodWord w || gx_nk w || decide (w = .isRef (.static Bundle.tN "UNASSIGNED_STACK" Bundle.steD)) || decide (w = .isRef (.static Bundle.tN "SUPPRESSED_SENTINEL" Bundle.listD)) || decide (w = .laysStatic Bundle.tN "UNASSIGNED_STACK" Bundle.steD) || decide (w = .laysStatic Bundle.tN "SUPPRESSED_SENTINEL" Bundle.listD)) = true) :
    ∀ w ∈ Bundle.ownAtoms0 own ic cls names, w.before args s = true := fun w hw => by
  obtain ⟨h1, -, -, h4, h5, h6, h7⟩ := h
  have hk := List.all_eq_true.mp hk w hw
  simp only [Bool.or_eq_true, decide_eq_true_eq] at hk
  rcases hk with ((((hk | hk) | hk) | hk) | hk) | hk
  · rcases hd w hw with h9 | h9 | h9
    · exact hB w (List.mem_filter.mpr ⟨h9, hk⟩)
    · rw [h9]; exact h4.isRef h6
    · rw [h9]; exact h5.isRef h7
  · rcases hd w hw with h9 | h9 | h9
    · exact va_Nw.use (gx_nk_on hk) (h1 w h9 hk)
    · rw [h9]; exact h4.isRef h6
    · rw [h9]; exact h5.isRef h7
  · rw [hk]; exact h4.isRef h6
  · rw [hk]; exact h5.isRef h7
  · rw [hk]; exact h4.lays h6
  · rw [hk]; exact h5.lays h7
theorem jx_st.stat {n d : String} {aS : Nat} {cS : Cell} {U : State} (h : jx_st n d aS cS U) : cS.vm.isStatics = true := by
  obtain ⟨c, k, i, f, h1, h2, h3, h4, h5, -⟩ := h
  exact h5
theorem jx_off {D : va_G} {cl : List vw_C} {ws : va_W} {H : Heap} {a sz : Nat} {c : Cell} (hP : va_P D cl ws H) (h : H[a]? = some c) (hv : c.vm.isStatics = true) (hsz : a < sz) : ¬ va_A ws sz a := by
  intro h9
  rcases h9 with ⟨k, e, hk⟩ | h9
  · have h1 := hP k _ hk
    cases e with
    | inl x =>
      have h2 : H[a]? = some (vp_cell x.1 x.2) := h1
      rw [h] at h2
      have h3 := Option.some.inj h2
      rw [h3] at hv
      obtain ⟨c9, n9, f9⟩ := x
      rcases f9 with f9 | f9 | f9 | f9 | f9 <;> cases hv
    | inr o =>
      obtain ⟨r, -, cell, g1, g2, g3, -⟩ := h1
      have g1' : H[a]? = some cell := g1
      rw [h] at g1'
      rw [Option.some.inj g1', g3] at hv
      cases hv
  · omega
end
section
def RAu : String := "TapeSealer$Authenticator"
def FAu : u_T := fun k => match k with
  | 0 => ("TapeSealer$Authenticator", "tag", "[I", true)
  | 1 => ("TapeSealer$Authenticator", "addend", "[I", true)
  | 2 => ("TapeSealer$Authenticator", "sum", "[J", true)
  | 3 => ("TapeSealer$Authenticator", "factor", "[J", true)
  | _ => ("TapeSealer$Authenticator", "other", "[J", true)
def tAu : Nat → FieldType := fun k => match k with
  | 0 => .array .int
  | 1 => .array .int
  | 2 => .array .long
  | 3 => .array .long
  | _ => .array .long
theorem nAu : ∀ a, a < 5 → ∀ b, b < 5 → a ≠ b → (FAu a).2.1 ≠ (FAu b).2.1 := by decide +kernel
theorem tAu_ok : ∀ k, k < 5 → parseFieldDescriptor (FAu k).2.2.1 = some (tAu k) := by decide +kernel
set_option maxRecDepth 100000 in
theorem in_Au : ∀ w ∈ u_ws RAu FAu 5, w ∈ gx_B := gx_u [187, 189, 191, 193, 195] (by decide +kernel) (by decide +kernel)
def RCa : String := "TapeSealer$Cartridge"
def FCa : u_T := fun k => match k with
  | 0 => ("TapeSealer$Cartridge", "rows", "[[I", true)
  | 1 => ("TapeSealer$Cartridge", "spoiled", "[Z", true)
  | 2 => ("TapeSealer$Cartridge", "writesDone", "I", false)
  | 3 => ("TapeSealer$Cartridge", "writesLeft", "I", false)
  | 4 => ("TapeSealer$Cartridge", "stopped", "Z", false)
  | _ => ("TapeSealer$Cartridge", "headersChanged", "Z", false)
def tCa : Nat → FieldType := fun k => match k with
  | 0 => .array (.array .int)
  | 1 => .array .boolean
  | 2 => .int
  | 3 => .int
  | 4 => .boolean
  | _ => .boolean
theorem nCa : ∀ a, a < 6 → ∀ b, b < 6 → a ≠ b → (FCa a).2.1 ≠ (FCa b).2.1 := by decide +kernel
theorem tCa_ok : ∀ k, k < 6 → parseFieldDescriptor (FCa k).2.2.1 = some (tCa k) := by decide +kernel
set_option maxRecDepth 100000 in
theorem in_Ca : ∀ w ∈ u_ws RCa FCa 6, w ∈ gx_B := gx_u [118, 120, 122, 124, 126, 128] (by decide +kernel) (by decide +kernel)
def RDr : String := "TapeSealer$Draft"
def FDr : u_T := fun k => match k with
  | 0 => ("TapeSealer$Draft", "bytes", "[I", true)
  | 1 => ("TapeSealer$Draft", "file", "I", false)
  | 2 => ("TapeSealer$Draft", "salt", "I", false)
  | _ => ("TapeSealer$Draft", "length", "I", false)
def tDr : Nat → FieldType := fun k => match k with
  | 0 => .array .int
  | 1 => .int
  | 2 => .int
  | _ => .int
theorem nDr : ∀ a, a < 4 → ∀ b, b < 4 → a ≠ b → (FDr a).2.1 ≠ (FDr b).2.1 := by decide +kernel
theorem tDr_ok : ∀ k, k < 4 → parseFieldDescriptor (FDr k).2.2.1 = some (tDr k) := by decide +kernel
set_option maxRecDepth 100000 in
theorem in_Dr : ∀ w ∈ u_ws RDr FDr 4, w ∈ gx_B := gx_u [298, 300, 302, 304] (by decide +kernel) (by decide +kernel)
def REp : String := "TapeSealer$Epochs"
def FEp : u_T := fun k => match k with
  | 0 => ("TapeSealer$Epochs", "keys", "[[I", true)
  | 1 => ("TapeSealer$Epochs", "dropped", "[Z", true)
  | _ => ("TapeSealer$Epochs", "present", "I", false)
def tEp : Nat → FieldType := fun k => match k with
  | 0 => .array (.array .int)
  | 1 => .array .boolean
  | _ => .int
theorem nEp : ∀ a, a < 3 → ∀ b, b < 3 → a ≠ b → (FEp a).2.1 ≠ (FEp b).2.1 := by decide +kernel
theorem tEp_ok : ∀ k, k < 3 → parseFieldDescriptor (FEp k).2.2.1 = some (tEp k) := by decide +kernel
set_option maxRecDepth 100000 in
theorem in_Ep : ∀ w ∈ u_ws REp FEp 3, w ∈ gx_B := gx_u [145, 147, 149] (by decide +kernel) (by decide +kernel)
def RKs : String := "TapeSealer$KeyStream"
def FKs : u_T := fun k => match k with
  | 0 => ("TapeSealer$KeyStream", "bytes", "[I", true)
  | 1 => ("TapeSealer$KeyStream", "start", "[I", true)
  | _ => ("TapeSealer$KeyStream", "mixed", "[I", true)
def tKs : Nat → FieldType := fun k => match k with
  | 0 => .array .int
  | 1 => .array .int
  | _ => .array .int
theorem nKs : ∀ a, a < 3 → ∀ b, b < 3 → a ≠ b → (FKs a).2.1 ≠ (FKs b).2.1 := by decide +kernel
theorem tKs_ok : ∀ k, k < 3 → parseFieldDescriptor (FKs k).2.2.1 = some (tKs k) := by decide +kernel
set_option maxRecDepth 100000 in
theorem in_Ks : ∀ w ∈ u_ws RKs FKs 3, w ∈ gx_B := gx_u [168, 170, 172] (by decide +kernel) (by decide +kernel)
def RLa : String := "TapeSealer$Label"
def FLa : u_T := fun k => match k with
  | 0 => ("TapeSealer$Label", "key", "[I", true)
  | 1 => ("TapeSealer$Label", "file", "I", false)
  | 2 => ("TapeSealer$Label", "good", "Z", false)
  | 3 => ("TapeSealer$Label", "epoch", "I", false)
  | 4 => ("TapeSealer$Label", "length", "I", false)
  | 5 => ("TapeSealer$Label", "first", "I", false)
  | 6 => ("TapeSealer$Label", "groups", "I", false)
  | _ => ("TapeSealer$Label", "salt", "I", false)
def tLa : Nat → FieldType := fun k => match k with
  | 0 => .array .int
  | 1 => .int
  | 2 => .boolean
  | 3 => .int
  | 4 => .int
  | 5 => .int
  | 6 => .int
  | _ => .int
theorem nLa : ∀ a, a < 8 → ∀ b, b < 8 → a ≠ b → (FLa a).2.1 ≠ (FLa b).2.1 := by decide +kernel
theorem tLa_ok : ∀ k, k < 8 → parseFieldDescriptor (FLa k).2.2.1 = some (tLa k) := by decide +kernel
set_option maxRecDepth 100000 in
theorem in_La : ∀ w ∈ u_ws RLa FLa 8, w ∈ gx_B := gx_u [269, 271, 273, 275, 277, 279, 281, 283] (by decide +kernel) (by decide +kernel)
def RSe : String := "TapeSealer$Sealing"
def FSe : u_T := fun k => match k with
  | 0 => ("TapeSealer$Sealing", "stream", "LTapeSealer$KeyStream;", true)
  | 1 => ("TapeSealer$Sealing", "check", "LTapeSealer$Authenticator;", true)
  | 2 => ("TapeSealer$Sealing", "nonce", "[I", true)
  | 3 => ("TapeSealer$Sealing", "saltRow", "[I", true)
  | _ => ("TapeSealer$Sealing", "lengths", "[I", true)
def tSe : Nat → FieldType := fun k => match k with
  | 0 => .object "TapeSealer$KeyStream"
  | 1 => .object "TapeSealer$Authenticator"
  | 2 => .array .int
  | 3 => .array .int
  | _ => .array .int
theorem nSe : ∀ a, a < 5 → ∀ b, b < 5 → a ≠ b → (FSe a).2.1 ≠ (FSe b).2.1 := by decide +kernel
theorem tSe_ok : ∀ k, k < 5 → parseFieldDescriptor (FSe k).2.2.1 = some (tSe k) := by decide +kernel
set_option maxRecDepth 100000 in
theorem in_Se : ∀ w ∈ u_ws RSe FSe 5, w ∈ gx_B := gx_u [204, 206, 208, 210, 212] (by decide +kernel) (by decide +kernel)
def RSt : String := "TapeSealer$Stripe"
def FSt : u_T := fun k => match k with
  | 0 => ("TapeSealer$Stripe", "rows", "[[I", true)
  | 1 => ("TapeSealer$Stripe", "bad", "[Z", true)
  | 2 => ("TapeSealer$Stripe", "tape", "LTapeSealer$Cartridge;", true)
  | 3 => ("TapeSealer$Stripe", "sealing", "LTapeSealer$Sealing;", true)
  | _ => ("TapeSealer$Stripe", "base", "I", false)
def tSt : Nat → FieldType := fun k => match k with
  | 0 => .array (.array .int)
  | 1 => .array .boolean
  | 2 => .object "TapeSealer$Cartridge"
  | 3 => .object "TapeSealer$Sealing"
  | _ => .int
theorem nSt : ∀ a, a < 5 → ∀ b, b < 5 → a ≠ b → (FSt a).2.1 ≠ (FSt b).2.1 := by decide +kernel
theorem tSt_ok : ∀ k, k < 5 → parseFieldDescriptor (FSt k).2.2.1 = some (tSt k) := by decide +kernel
set_option maxRecDepth 100000 in
theorem in_St : ∀ w ∈ u_ws RSt FSt 5, w ∈ gx_B := gx_u [229, 231, 233, 235, 237] (by decide +kernel) (by decide +kernel)
def RTS : String := "TapeSealer"
def FTS : u_T := fun k => match k with
  | 0 => ("TapeSealer", "tape", "LTapeSealer$Cartridge;", true)
  | 1 => ("TapeSealer", "epochs", "LTapeSealer$Epochs;", true)
  | 2 => ("TapeSealer", "sealing", "LTapeSealer$Sealing;", true)
  | 3 => ("TapeSealer", "stripe", "LTapeSealer$Stripe;", true)
  | 4 => ("TapeSealer", "labels", "[LTapeSealer$Label;", true)
  | 5 => ("TapeSealer", "fresh", "LTapeSealer$Label;", true)
  | 6 => ("TapeSealer", "headerRow", "[I", true)
  | 7 => ("TapeSealer", "zeroRow", "[I", true)
  | 8 => ("TapeSealer", "text", "[I", true)
  | 9 => ("TapeSealer", "draft", "LTapeSealer$Draft;", true)
  | 10 => ("TapeSealer", "buffer", "[I", true)
  | 11 => ("TapeSealer", "buffered", "I", false)
  | 12 => ("TapeSealer", "told", "[I", true)
  | 13 => ("TapeSealer", "gathered", "[I", true)
  | _ => ("TapeSealer", "toldLength", "I", false)
def tTS : Nat → FieldType := fun k => match k with
  | 0 => .object "TapeSealer$Cartridge"
  | 1 => .object "TapeSealer$Epochs"
  | 2 => .object "TapeSealer$Sealing"
  | 3 => .object "TapeSealer$Stripe"
  | 4 => .array (.object "TapeSealer$Label")
  | 5 => .object "TapeSealer$Label"
  | 6 => .array .int
  | 7 => .array .int
  | 8 => .array .int
  | 9 => .object "TapeSealer$Draft"
  | 10 => .array .int
  | 11 => .int
  | 12 => .array .int
  | 13 => .array .int
  | _ => .int
theorem nTS : ∀ a, a < 15 → ∀ b, b < 15 → a ≠ b → (FTS a).2.1 ≠ (FTS b).2.1 := by decide +kernel
theorem tTS_ok : ∀ k, k < 15 → parseFieldDescriptor (FTS k).2.2.1 = some (tTS k) := by decide +kernel
set_option maxRecDepth 100000 in
theorem in_TS : ∀ w ∈ u_ws RTS FTS 15, w ∈ gx_B := gx_u [322, 324, 326, 328, 330, 332, 334, 336, 338, 340, 342, 344, 346, 348, 350] (by decide +kernel) (by decide +kernel)
def RMo : String := "TapeSealerModel"
def FMo : u_T := fun k => match k with
  | 0 => ("TapeSealerModel", "code", "I", false)
  | 1 => ("TapeSealerModel", "bytes", "[I", true)
  | 2 => ("TapeSealerModel", "unread", "[Z", true)
  | 3 => ("TapeSealerModel", "buffer", "[I", true)
  | 4 => ("TapeSealerModel", "filled", "I", false)
  | 5 => ("TapeSealerModel", "epochs", "I", false)
  | 6 => ("TapeSealerModel", "epochKey", "[I", true)
  | 7 => ("TapeSealerModel", "dropped", "[Z", true)
  | 8 => ("TapeSealerModel", "begun", "Z", false)
  | 9 => ("TapeSealerModel", "number", "I", false)
  | 10 => ("TapeSealerModel", "salt", "I", false)
  | 11 => ("TapeSealerModel", "data", "[I", true)
  | 12 => ("TapeSealerModel", "length", "I", false)
  | 13 => ("TapeSealerModel", "stopped", "Z", false)
  | 14 => ("TapeSealerModel", "left", "I", false)
  | 15 => ("TapeSealerModel", "writes", "I", false)
  | 16 => ("TapeSealerModel", "output", "[I", true)
  | 17 => ("TapeSealerModel", "outputs", "I", false)
  | 18 => ("TapeSealerModel", "key", "[I", true)
  | 19 => ("TapeSealerModel", "nonce", "[I", true)
  | 20 => ("TapeSealerModel", "more", "[I", true)
  | 21 => ("TapeSealerModel", "moreLength", "I", false)
  | 22 => ("TapeSealerModel", "text", "[I", true)
  | 23 => ("TapeSealerModel", "textLength", "I", false)
  | 24 => ("TapeSealerModel", "tag", "[I", true)
  | 25 => ("TapeSealerModel", "word", "[I", true)
  | 26 => ("TapeSealerModel", "start", "[I", true)
  | 27 => ("TapeSealerModel", "stream", "[I", true)
  | 28 => ("TapeSealerModel", "mac", "[I", true)
  | 29 => ("TapeSealerModel", "macLength", "I", false)
  | 30 => ("TapeSealerModel", "\x72", "[I", true)
  | 31 => ("TapeSealerModel", "h", "[I", true)
  | 32 => ("TapeSealerModel", "x", "[I", true)
  | 33 => ("TapeSealerModel", "fileKey", "[I", true)
  | 34 => ("TapeSealerModel", "fileNumber", "I", false)
  | 35 => ("TapeSealerModel", "fileEpoch", "I", false)
  | 36 => ("TapeSealerModel", "fileLength", "I", false)
  | 37 => ("TapeSealerModel", "firstGroup", "I", false)
  | 38 => ("TapeSealerModel", "groupCount", "I", false)
  | 39 => ("TapeSealerModel", "fileSalt", "I", false)
  | 40 => ("TapeSealerModel", "fixed", "[I", true)
  | 41 => ("TapeSealerModel", "bad", "I", false)
  | 42 => ("TapeSealerModel", "parity", "[I", true)
  | 43 => ("TapeSealerModel", "made", "[I", true)
  | _ => ("TapeSealerModel", "nextOutput", "[I", true)
def tMo : Nat → FieldType := fun k => match k with
  | 0 => .int
  | 1 => .array .int
  | 2 => .array .boolean
  | 3 => .array .int
  | 4 => .int
  | 5 => .int
  | 6 => .array .int
  | 7 => .array .boolean
  | 8 => .boolean
  | 9 => .int
  | 10 => .int
  | 11 => .array .int
  | 12 => .int
  | 13 => .boolean
  | 14 => .int
  | 15 => .int
  | 16 => .array .int
  | 17 => .int
  | 18 => .array .int
  | 19 => .array .int
  | 20 => .array .int
  | 21 => .int
  | 22 => .array .int
  | 23 => .int
  | 24 => .array .int
  | 25 => .array .int
  | 26 => .array .int
  | 27 => .array .int
  | 28 => .array .int
  | 29 => .int
  | 30 => .array .int
  | 31 => .array .int
  | 32 => .array .int
  | 33 => .array .int
  | 34 => .int
  | 35 => .int
  | 36 => .int
  | 37 => .int
  | 38 => .int
  | 39 => .int
  | 40 => .array .int
  | 41 => .int
  | 42 => .array .int
  | 43 => .array .int
  | _ => .array .int
theorem nMo : ∀ a, a < 45 → ∀ b, b < 45 → a ≠ b → (FMo a).2.1 ≠ (FMo b).2.1 := by decide +kernel
theorem tMo_ok : ∀ k, k < 45 → parseFieldDescriptor (FMo k).2.2.1 = some (tMo k) := by decide +kernel
set_option maxRecDepth 100000 in
theorem in_Mo : ∀ w ∈ u_ws RMo FMo 45, w ∈ gx_B := gx_u [935, 937, 939, 941, 943, 945, 947, 949, 951, 953, 955, 957, 959, 961, 963, 965, 967, 969, 971, 973, 975, 977, 979, 981, 983, 985, 987, 989, 991, 993, 995, 997, 999, 1001, 1003, 1005, 1007, 1009, 1011, 1013, 1015, 1017, 1019, 1021, 1023] (by decide +kernel) (by decide +kernel)
abbrev gx_cl : List vw_C := [(RAu, FAu, 5), (RCa, FCa, 6), (RDr, FDr, 4), (REp, FEp, 3), (RKs, FKs, 3), (RLa, FLa, 8), (RSe, FSe, 5), (RSt, FSt, 5), (RTS, FTS, 15), (RMo, FMo, 45)]
end
section
/-- the 44 rows of 64 zeros that lie behind the outer array at q -/
def mx_Y (q : Nat) (cI : ClassId) : va_W := (List.range 44).map (fun j => (q + 1 + j, .inl (cI, 64, .inl (fun _ => 0))))
def mx_g (q N i : Nat) : Option Nat := if i < N then some (q + 1 + i) else none
theorem mx_fg (q N : Nat) : mx_f q N = fun j => va_rf (mx_g q N j) := by
  funext j
  unfold mx_f mx_g
  by_cases h : j < N
  · rw [if_pos h, if_pos h]; rfl
  · rw [if_neg h, if_neg h]; rfl
section MXE
variable {p : Program} {l : Launch} {e : Env} {R : Room} {s : State} {m : MethodId} {args : Array Value} {below : List Frame} {meth : Method} {c : Code} {H : Heap} {locs : List Loc} {cells slots : Nat} {Q : State → Prop}
variable {cc : ByteArray} {pc : Nat} {ls : Array Slot} {rest : List Value} {D : va_G} {cl : List vw_C} {A : Nat → Prop} {tys : List (ClassId × FieldType)} {ws : va_W} {H0 : Heap}
theorem mx_S {H1 : Heap} (hS : va_S A H0 H locs) (hz : H.size ≤ H1.size) (ho : ∀ a : Nat, a < H.size → H1[a]? = H[a]?) : va_S A H0 H1 locs :=
  ⟨Nat.le_trans hS.1 hz, fun q h1 h2 => (ho q (Nat.lt_of_lt_of_le h1 hS.1)).trans (hS.2.1 q h1 h2), hS.2.2⟩
/-- new int[n][k], nothing of it is kept in the world -/
theorem mx_newD {N M : Nat} {n k : Int32} (hexec : p.tables.exec = Jvm.exec) (hb : c.code = cc) {own : String} {index : Nat}
    (hown : s.vm.findClass own = some m.cls) (hclink : (Cond.classLink own index "[[I").before args s = true) (hM9 : mx_A s) (harr : (Cond.arrayClass .int).before args s = true)
    (hP : va_P D cl ws H) (hS : va_S A H0 H locs) (hn : ¬ n < 0) (hk : ¬ k < 0) (hN : n.toNatClampNeg = N) (hM : k.toNatClampNeg = M) (hb1 : N * 4 ≤ 536870912) (hb2 : M * 4 ≤ 536870912)
    (hcells : cells + (1 + N) ≤ R.cells) (hslots : slots + (N + N * M) ≤ R.slots) (hdg : decode cc pc = .ok (.multianewarray index 2, 4))
    (kk : ∀ (q : Nat) (H1 : Heap), va_P D cl ws H1 → va_S A H0 H1 locs → W p l e R s m args below meth c H1 locs (cells + 1 + N) (slots + N + N * M) Q (F0 m (pc + 4) ls (.ref q :: rest))) :
    W p l e R s m args below meth c H locs cells slots Q (F0 m pc ls (.int k :: .int n :: rest)) :=
  mx_new hexec hb hown hclink hM9 harr hdg hn hk hN hM hb1 hb2 hcells hslots fun q cA cI H1 h1 h2 h3 _ _ _ _ _ _ =>
    kk q H1 (hP.kept fun k9 x hx => h3 x.1 (hP k9 x hx).lt) (mx_S hS (by omega) h3)
/-- new int[44][64], all of it is kept -/
theorem mx_newK {n k : Int32} (hexec : p.tables.exec = Jvm.exec) (hb : c.code = cc) {own : String} {index : Nat}
    (hown : s.vm.findClass own = some m.cls) (hclink : (Cond.classLink own index "[[I").before args s = true) (hM9 : mx_A s) (harr : (Cond.arrayClass .int).before args s = true)
    (hK : va_K D cl tys s) (hP : va_P D cl ws H) (hD : va_D A ws) (hS : va_S A H0 H locs) (hA : ∀ q, H0.size ≤ q → A q) (hn : ¬ n < 0) (hk : ¬ k < 0) (hN : n.toNatClampNeg = 44) (hM : k.toNatClampNeg = 64)
    (hcells : cells + 45 ≤ R.cells) (hslots : slots + 2860 ≤ R.slots) (hdg : decode cc pc = .ok (.multianewarray index 2, 4))
    (kk : ∀ (q : Nat) (cA cI : ClassId) (H1 : Heap), va_K D cl (tys ++ [(cA, .array .int), (cI, .int)]) s → va_P D cl (ws ++ ([(q, .inl (cA, 44, .inr (.inr (.inr (.inr (mx_g q 44))))))] ++ mx_Y q cI)) H1 → va_D A (ws ++ ([(q, .inl (cA, 44, .inr (.inr (.inr (.inr (mx_g q 44))))))] ++ mx_Y q cI)) → va_S A H0 H1 locs →
      W p l e R s m args below meth c H1 locs (cells + 45) (slots + 2860) Q (F0 m (pc + 4) ls (.ref q :: rest))) :
    W p l e R s m args below meth c H locs cells slots Q (F0 m pc ls (.int k :: .int n :: rest)) := by
  refine mx_new (N := 44) (M := 64) hexec hb hown hclink hM9 harr hdg hn hk hN hM (by decide) (by decide) (by omega) (by omega) fun q cA cI H1 h1 h2 h3 h4 h5 h6 h7 h8 h9 => ?_
  have hP1 : va_P D cl ws H1 := hP.kept fun k9 x hx => h3 x.1 (hP k9 x hx).lt
  have hlt : ∀ (k9 : Nat) (x : Nat × va_E), ws[k9]? = some x → x.1 < q := fun k9 x hx => Nat.lt_of_lt_of_le (hP k9 x hx).lt h1
  have hget : ∀ (i : Nat) (x : Nat × va_E), (mx_Y q cI)[i]? = some x → i < 44 ∧ x = (q + 1 + i, .inl (cI, 64, .inl (fun _ => 0))) := fun i x hx => by
    unfold mx_Y at hx
    rw [List.getElem?_map] at hx
    by_cases hi : i < 44
    · rw [List.getElem?_range hi] at hx
      exact ⟨hi, (Option.some.inj hx).symm⟩
    · rw [List.getElem?_eq_none (by simpa using hi)] at hx
      cases hx
  have hone : ∀ (i : Nat) (x : Nat × va_E), ([(q, .inl (cA, 44, .inr (.inr (.inr (.inr (mx_g q 44))))))] : va_W)[i]? = some x → i = 0 ∧ x = (q, .inl (cA, 44, .inr (.inr (.inr (.inr (mx_g q 44)))))) := fun i x hx => by
    have hi : i < 1 := (List.getElem?_eq_some_iff.mp hx).1
    have hi0 : i = 0 := by omega
    subst hi0
    exact ⟨rfl, (Option.some.inj hx).symm⟩
  have hAq : ∀ z : Nat, q ≤ z → A z := fun z hz => hA z (Nat.le_trans hS.1 (Nat.le_trans h1 hz))
  have hPY : va_P D cl ([(q, .inl (cA, 44, .inr (.inr (.inr (.inr (mx_g q 44))))))] ++ mx_Y q cI) H1 := by
    refine va_P.app (fun i x hx => ?_) (fun i x hx => ?_)
    · obtain ⟨-, rfl⟩ := hone i x hx
      show H1[q]? = some (vp_cell _ _)
      rw [vp_cell_q, ← mx_fg]
      exact h4
    · obtain ⟨hi, rfl⟩ := hget i x hx
      exact h5 i hi
  have hDY : va_D A ([(q, .inl (cA, 44, .inr (.inr (.inr (.inr (mx_g q 44))))))] ++ mx_Y q cI) := by
    refine va_D.app ⟨fun i j x y hx hy e => ?_, fun i x hx => ?_⟩ ⟨fun i j x y hx hy e => ?_, fun i x hx => ?_⟩ (fun i j x y hx hy e => ?_)
    · rw [(hone i x hx).1, (hone j y hy).1]
    · rw [(hone i x hx).2]; exact hAq q (Nat.le_refl _)
    · rw [(hget i x hx).2, (hget j y hy).2] at e
      have e9 : q + 1 + i = q + 1 + j := e
      omega
    · rw [(hget i x hx).2]; exact hAq _ (by show q ≤ q + 1 + i; omega)
    · rw [(hone i x hx).2, (hget j y hy).2] at e
      have e9 : q = q + 1 + j := e
      omega
  have hge : ∀ (i : Nat) (x : Nat × va_E), ([(q, .inl (cA, 44, .inr (.inr (.inr (.inr (mx_g q 44))))))] ++ mx_Y q cI : va_W)[i]? = some x → q ≤ x.1 := fun i x hx => by
    rcases Nat.lt_or_ge i 1 with hi | hi
    · rw [List.getElem?_append_left (by simpa using hi)] at hx
      rw [(hone i x hx).2]
      exact Nat.le_refl _
    · rw [List.getElem?_append_right (by simpa using hi)] at hx
      rw [(hget _ x hx).2]
      show q ≤ q + 1 + _
      omega
  refine kk q cA cI H1 ⟨hK.1, fun k9 x hx => ?_⟩ (hP1.app hPY) (va_D.app hD hDY (fun i j x y hx hy e => ?_)) (mx_S hS (by omega) h3)
  · by_cases hl : k9 < tys.length
    · rw [List.getElem?_append_left hl] at hx
      exact hK.2 k9 x hx
    · rw [List.getElem?_append_right (by omega)] at hx
      have hz : k9 - tys.length < 2 := (List.getElem?_eq_some_iff.mp hx).1
      rcases (show k9 - tys.length = 0 ∨ k9 - tys.length = 1 by omega) with h0 | h0
      · rw [h0] at hx; cases hx
        exact ⟨h6, h8⟩
      · rw [h0] at hx; cases hx
        exact ⟨h7, h9⟩
  · have := hlt i x hx
    have := hge j y hy
    rw [e] at *
    omega
end MXE
theorem gx_P0 {D : va_G} {cl : List vw_C} {H : Heap} : va_P D cl [] H := fun _ _ h => by cases h
theorem gx_D0 {A : Nat → Prop} : va_D A [] := And.intro (fun _ _ _ _ h => by cases h) (fun _ _ h => by cases h)
abbrev gx_L4 (a b c d : Nat) : Nat → Option Nat := va_up (va_up (va_up (va_up (fun _ => none) 0 (some a)) 1 (some b)) 2 (some c)) 3 (some d)
end
section
abbrev b_Au_init : ByteArray := prog_2_method_1_code
def y_Au_init : MethodName := ⟨"TapeSealer$Authenticator", "<init>", "()V"⟩
abbrev w_Au_init : List Cond := .code y_Au_init b_Au_init 1 none :: gx_B
theorem k_Au_init : (.code y_Au_init b_Au_init 1 none : Cond) ∈ gx_B := gx_mem 179 (by decide +kernel) rfl
abbrev b_Ks_init : ByteArray := prog_7_method_1_code
def y_Ks_init : MethodName := ⟨"TapeSealer$KeyStream", "<init>", "()V"⟩
abbrev w_Ks_init : List Cond := .code y_Ks_init b_Ks_init 1 none :: gx_B
theorem k_Ks_init : (.code y_Ks_init b_Ks_init 1 none : Cond) ∈ gx_B := gx_mem 162 (by decide +kernel) rfl
abbrev b_La_init : ByteArray := prog_8_method_1_code
def y_La_init : MethodName := ⟨"TapeSealer$Label", "<init>", "(I)V"⟩
abbrev w_La_init : List Cond := .code y_La_init b_La_init 2 none :: gx_B
theorem k_La_init : (.code y_La_init b_La_init 2 none : Cond) ∈ gx_B := gx_mem 245 (by decide +kernel) rfl
abbrev b_Dr_init : ByteArray := prog_4_method_1_code
def y_Dr_init : MethodName := ⟨"TapeSealer$Draft", "<init>", "()V"⟩
abbrev w_Dr_init : List Cond := .code y_Dr_init b_Dr_init 1 none :: gx_B
theorem k_Dr_init : (.code y_Dr_init b_Dr_init 1 none : Cond) ∈ gx_B := gx_mem 290 (by decide +kernel) rfl
theorem hw_oc : Cond.code objectInit ⟨#[0xb1]⟩ 1 none ∈ gx_B := gx_mem 95 (by decide +kernel) rfl
theorem hw_mm : Cond.code Lib.Math.max.name Lib.Math.max.code 2 (some .int) ∈ gx_B := gx_mem 718 (by decide +kernel) rfl
theorem hw_94 : (.instanceMethod ⟨"java/lang/Object", "<init>", "()V"⟩ : Cond) ∈ gx_B := gx_mem 94 (by decide +kernel) rfl
theorem hw_131 : (.arrayClass .int : Cond) ∈ gx_B := gx_mem 131 (by decide +kernel) rfl
theorem hw_163 : (.methodLink "TapeSealer$KeyStream" 1 ⟨"java/lang/Object", "<init>", "()V"⟩ : Cond) ∈ gx_B := gx_mem 163 (by decide +kernel) rfl
theorem hw_164 : (.fieldLink "TapeSealer$KeyStream" 7 "TapeSealer$KeyStream" "bytes" "[I" : Cond) ∈ gx_B := gx_mem 164 (by decide +kernel) rfl
theorem hw_166 : (.fieldLink "TapeSealer$KeyStream" 13 "TapeSealer$KeyStream" "start" "[I" : Cond) ∈ gx_B := gx_mem 166 (by decide +kernel) rfl
theorem hw_167 : (.fieldLink "TapeSealer$KeyStream" 16 "TapeSealer$KeyStream" "mixed" "[I" : Cond) ∈ gx_B := gx_mem 167 (by decide +kernel) rfl
theorem hw_180 : (.methodLink "TapeSealer$Authenticator" 3 ⟨"java/lang/Object", "<init>", "()V"⟩ : Cond) ∈ gx_B := gx_mem 180 (by decide +kernel) rfl
theorem hw_181 : (.fieldLink "TapeSealer$Authenticator" 9 "TapeSealer$Authenticator" "tag" "[I" : Cond) ∈ gx_B := gx_mem 181 (by decide +kernel) rfl
theorem hw_183 : (.fieldLink "TapeSealer$Authenticator" 15 "TapeSealer$Authenticator" "addend" "[I" : Cond) ∈ gx_B := gx_mem 183 (by decide +kernel) rfl
theorem hw_184 : (.fieldLink "TapeSealer$Authenticator" 18 "TapeSealer$Authenticator" "sum" "[J" : Cond) ∈ gx_B := gx_mem 184 (by decide +kernel) rfl
theorem hw_185 : (.fieldLink "TapeSealer$Authenticator" 22 "TapeSealer$Authenticator" "factor" "[J" : Cond) ∈ gx_B := gx_mem 185 (by decide +kernel) rfl
theorem hw_186 : (.fieldLink "TapeSealer$Authenticator" 25 "TapeSealer$Authenticator" "other" "[J" : Cond) ∈ gx_B := gx_mem 186 (by decide +kernel) rfl
theorem hw_198 : (.arrayClass .long : Cond) ∈ gx_B := gx_mem 198 (by decide +kernel) rfl
theorem hw_246 : (.methodLink "TapeSealer$Label" 3 ⟨"java/lang/Object", "<init>", "()V"⟩ : Cond) ∈ gx_B := gx_mem 246 (by decide +kernel) rfl
theorem hw_247 : (.fieldLink "TapeSealer$Label" 9 "TapeSealer$Label" "key" "[I" : Cond) ∈ gx_B := gx_mem 247 (by decide +kernel) rfl
theorem hw_249 : (.fieldLink "TapeSealer$Label" 15 "TapeSealer$Label" "file" "I" : Cond) ∈ gx_B := gx_mem 249 (by decide +kernel) rfl
theorem hw_291 : (.methodLink "TapeSealer$Draft" 3 ⟨"java/lang/Object", "<init>", "()V"⟩ : Cond) ∈ gx_B := gx_mem 291 (by decide +kernel) rfl
theorem hw_292 : (.fieldLink "TapeSealer$Draft" 9 "TapeSealer$Draft" "bytes" "[I" : Cond) ∈ gx_B := gx_mem 292 (by decide +kernel) rfl
theorem hw_294 : (.fieldLink "TapeSealer$Draft" 15 "TapeSealer$Draft" "file" "I" : Cond) ∈ gx_B := gx_mem 294 (by decide +kernel) rfl
end
section
theorem d_Au_init_0 : decode b_Au_init 0 = .ok (.aload_n 0, 1) := by decide +kernel
theorem d_Au_init_1 : decode b_Au_init 1 = .ok (.invokespecial 3, 3) := by decide +kernel
theorem d_Au_init_12 : decode b_Au_init 12 = .ok (.aload_n 0, 1) := by decide +kernel
theorem d_Au_init_13 : decode b_Au_init 13 = .ok (.bipush 16, 2) := by decide +kernel
theorem d_Au_init_15 : decode b_Au_init 15 = .ok (.newarray .int, 2) := by decide +kernel
theorem d_Au_init_17 : decode b_Au_init 17 = .ok (.putfield 15, 3) := by decide +kernel
theorem d_Au_init_20 : decode b_Au_init 20 = .ok (.aload_n 0, 1) := by decide +kernel
theorem d_Au_init_21 : decode b_Au_init 21 = .ok (.iconst 5, 1) := by decide +kernel
theorem d_Au_init_22 : decode b_Au_init 22 = .ok (.newarray .long, 2) := by decide +kernel
theorem d_Au_init_24 : decode b_Au_init 24 = .ok (.putfield 18, 3) := by decide +kernel
theorem d_Au_init_27 : decode b_Au_init 27 = .ok (.aload_n 0, 1) := by decide +kernel
theorem d_Au_init_28 : decode b_Au_init 28 = .ok (.iconst 5, 1) := by decide +kernel
theorem d_Au_init_29 : decode b_Au_init 29 = .ok (.newarray .long, 2) := by decide +kernel
theorem d_Au_init_31 : decode b_Au_init 31 = .ok (.putfield 22, 3) := by decide +kernel
theorem d_Au_init_34 : decode b_Au_init 34 = .ok (.aload_n 0, 1) := by decide +kernel
theorem d_Au_init_35 : decode b_Au_init 35 = .ok (.iconst 5, 1) := by decide +kernel
theorem d_Au_init_36 : decode b_Au_init 36 = .ok (.newarray .long, 2) := by decide +kernel
theorem d_Au_init_38 : decode b_Au_init 38 = .ok (.putfield 25, 3) := by decide +kernel
theorem d_Au_init_4 : decode b_Au_init 4 = .ok (.aload_n 0, 1) := by decide +kernel
theorem d_Au_init_41 : decode b_Au_init 41 = .ok (.return_, 1) := by decide +kernel
theorem d_Au_init_5 : decode b_Au_init 5 = .ok (.bipush 16, 2) := by decide +kernel
theorem d_Au_init_7 : decode b_Au_init 7 = .ok (.newarray .int, 2) := by decide +kernel
theorem d_Au_init_9 : decode b_Au_init 9 = .ok (.putfield 9, 3) := by decide +kernel
theorem d_Dr_init_0 : decode b_Dr_init 0 = .ok (.aload_n 0, 1) := by decide +kernel
theorem d_Dr_init_1 : decode b_Dr_init 1 = .ok (.invokespecial 3, 3) := by decide +kernel
theorem d_Dr_init_10 : decode b_Dr_init 10 = .ok (.putfield 9, 3) := by decide +kernel
theorem d_Dr_init_13 : decode b_Dr_init 13 = .ok (.aload_n 0, 1) := by decide +kernel
theorem d_Dr_init_14 : decode b_Dr_init 14 = .ok (.iconst (-1), 1) := by decide +kernel
theorem d_Dr_init_15 : decode b_Dr_init 15 = .ok (.putfield 15, 3) := by decide +kernel
theorem d_Dr_init_18 : decode b_Dr_init 18 = .ok (.return_, 1) := by decide +kernel
theorem d_Dr_init_4 : decode b_Dr_init 4 = .ok (.aload_n 0, 1) := by decide +kernel
theorem d_Dr_init_5 : decode b_Dr_init 5 = .ok (.sipush 768, 3) := by decide +kernel
theorem d_Dr_init_8 : decode b_Dr_init 8 = .ok (.newarray .int, 2) := by decide +kernel
theorem d_Ks_init_0 : decode b_Ks_init 0 = .ok (.aload_n 0, 1) := by decide +kernel
theorem d_Ks_init_1 : decode b_Ks_init 1 = .ok (.invokespecial 1, 3) := by decide +kernel
theorem d_Ks_init_12 : decode b_Ks_init 12 = .ok (.aload_n 0, 1) := by decide +kernel
theorem d_Ks_init_13 : decode b_Ks_init 13 = .ok (.bipush 16, 2) := by decide +kernel
theorem d_Ks_init_15 : decode b_Ks_init 15 = .ok (.newarray .int, 2) := by decide +kernel
theorem d_Ks_init_17 : decode b_Ks_init 17 = .ok (.putfield 13, 3) := by decide +kernel
theorem d_Ks_init_20 : decode b_Ks_init 20 = .ok (.aload_n 0, 1) := by decide +kernel
theorem d_Ks_init_21 : decode b_Ks_init 21 = .ok (.bipush 16, 2) := by decide +kernel
theorem d_Ks_init_23 : decode b_Ks_init 23 = .ok (.newarray .int, 2) := by decide +kernel
theorem d_Ks_init_25 : decode b_Ks_init 25 = .ok (.putfield 16, 3) := by decide +kernel
theorem d_Ks_init_28 : decode b_Ks_init 28 = .ok (.return_, 1) := by decide +kernel
theorem d_Ks_init_4 : decode b_Ks_init 4 = .ok (.aload_n 0, 1) := by decide +kernel
theorem d_Ks_init_5 : decode b_Ks_init 5 = .ok (.bipush 64, 2) := by decide +kernel
theorem d_Ks_init_7 : decode b_Ks_init 7 = .ok (.newarray .int, 2) := by decide +kernel
theorem d_Ks_init_9 : decode b_Ks_init 9 = .ok (.putfield 7, 3) := by decide +kernel
theorem d_La_init_0 : decode b_La_init 0 = .ok (.aload_n 0, 1) := by decide +kernel
theorem d_La_init_1 : decode b_La_init 1 = .ok (.invokespecial 3, 3) := by decide +kernel
theorem d_La_init_12 : decode b_La_init 12 = .ok (.aload_n 0, 1) := by decide +kernel
theorem d_La_init_13 : decode b_La_init 13 = .ok (.iload_n 1, 1) := by decide +kernel
theorem d_La_init_14 : decode b_La_init 14 = .ok (.putfield 15, 3) := by decide +kernel
theorem d_La_init_17 : decode b_La_init 17 = .ok (.return_, 1) := by decide +kernel
theorem d_La_init_4 : decode b_La_init 4 = .ok (.aload_n 0, 1) := by decide +kernel
theorem d_La_init_5 : decode b_La_init 5 = .ok (.bipush 32, 2) := by decide +kernel
theorem d_La_init_7 : decode b_La_init 7 = .ok (.newarray .int, 2) := by decide +kernel
theorem d_La_init_9 : decode b_La_init 9 = .ok (.putfield 9, 3) := by decide +kernel
end
section
set_option maxHeartbeats 4000000 in
set_option maxRecDepth 100000 in
theorem c_Au_init (l : Launch) (dC : Nat → ClassId) (dI : Nat → Nat → Nat) (h0 sz : Nat) : Met l y_Au_init w_Au_init ({ frames := 1, cells := 5, slots := 47, locals := 20 }) (va_Pc [.ref h0] (fun U => U.heap.size = sz ∧ va_P (dC, dI) gx_cl [(h0, .inr (0, [.null, .null, .null, .null, .null]))] U.heap ∧ va_K (dC, dI) gx_cl [] U ∧ va_D (fun _ => True) [(h0, .inr (0, [.null, .null, .null, .null, .null]))])) (va_Qv (fun _ : Unit => True) (fun _ t => True) (va_A [(h0, .inr (0, [.null, .null, .null, .null, .null]))] sz)) 5 47 (va_A [(h0, .inr (0, [.null, .null, .null, .null, .null]))] sz) := by
  refine Met.ofW (cc := b_Au_init) (maxL := 1) (ret := none) (by decide) rfl ?_
  intro p e s m args below meth c s₁ B hml hv
  obtain ⟨rfl, hsz, hP, hK, hD0⟩ := hv
  have hx := B.exec
  have hb := B.bytes
  have hr := B.returns
  have hts := atoms_spec (ws := w_Au_init) B.pre
  have hB : ∀ w ∈ gx_B, w.before _ s = true := fun w h => hts w (List.mem_cons_of_mem _ h)
  have hown : s.vm.findClass RAu = some m.cls := findClass_of_methodNamed B.named
  have hlocks := B.notSynchronized
  have hin : meth.name = "<init>" := (name_of_methodNamed B.named B.method).1
  subst hsz
  have hD := hD0.self (sz := s.heap.size)
  generalize hAe : va_A [(h0, .inr (0, [.null, .null, .null, .null, .null]))] s.heap.size = A at hD ⊢
  have hA : ∀ q : Nat, s.heap.size ≤ q → A q := fun q h => by rw [← hAe]; exact Or.inr h
  have hS : va_S A s.heap s.heap [] := va_S.rf
  have hP : va_P (dC, dI) gx_cl [(h0, .inr (0, [.null, .null, .null, .null, .null]))] s.heap := hP
  have hl := lv_entry ([.ref h0]) (n := 1) (Nat.le_of_ble_eq_true rfl)
  rw [lg_entry_eq]
  generalize (lg_sl ([.ref h0]) ++ List.replicate (1 - (lg_sl ([.ref h0])).length) Slot.unset).toArray = ls at hl ⊢
  have hl : lv_has ls 1 [(0, .ref h0)] := hl
  refine lv_aload_n hx hb d_Au_init_0 rfl (lv_at hl 0 rfl) ?_
  refine W.objInit hx hb hown (hB _ hw_180) (hB _ hw_94) (hB _ hw_oc) rfl (by rw [hml]; exact hl.1) rfl d_Au_init_1 (Nat.le_of_ble_eq_true rfl) (Nat.le_of_ble_eq_true rfl) ?_
  refine W.eq (g2 := F0 m 4 ls []) rfl ?_
  refine lv_aload_n hx hb d_Au_init_4 rfl (lv_at hl 0 rfl) ?_
  refine lv_bipush (v := 16) hx hb d_Au_init_5 (by decide) ?_
  refine va_newa (D := (dC, dI)) (atype := .int) (a0 := (16, .inl (fun _ => 0))) (ty := .int) hx hb (hB _ hw_131) rfl hK hP hD hS hA (fun _ => rfl) (by decide) (N' := 16) rfl (by decide) (Nat.le_of_ble_eq_true rfl) (Nat.le_of_ble_eq_true rfl) d_Au_init_7 (fun q1 cA2 H hK hP hD hS => ?_)
  have hP : va_P (dC, dI) gx_cl [(h0, .inr (0, [.null, .null, .null, .null, .null])), (q1, .inl (cA2, 16, .inl (fun _ => 0)))] H := hP
  have hD : va_D A [(h0, .inr (0, [.null, .null, .null, .null, .null])), (q1, .inl (cA2, 16, .inl (fun _ => 0)))] := hD
  have hK : va_K (dC, dI) gx_cl [(cA2, .int)] s := hK
  refine W.widen (k := 1) (n := 16) (Nat.le_of_ble_eq_true rfl) (Nat.le_of_ble_eq_true rfl) ?_
  refine va_putF (D := (dC, dI)) (ci := 0) (v := .ref q1) (ty := .array .int) (C := RAu) (T := FAu) (N := 5) hx hb hB in_Au tAu tAu_ok nAu hown hK hP hD hS 0 rfl rfl 0 (by decide) (hB _ hw_181) (fun _ h9 => h9) rfl hin rfl (by decide +kernel) rfl rfl (Nat.le_of_ble_eq_true rfl) d_Au_init_9 (fun H locs hP hD hS => ?_)
  have hP : va_P (dC, dI) gx_cl [(h0, .inr (0, [.ref q1, .null, .null, .null, .null])), (q1, .inl (cA2, 16, .inl (fun _ => 0)))] H := hP
  have hD : va_D A [(h0, .inr (0, [.ref q1, .null, .null, .null, .null])), (q1, .inl (cA2, 16, .inl (fun _ => 0)))] := hD
  have hP := hP.sub (ws' := [(h0, .inr (0, [.ref q1, .null, .null, .null, .null]))]) [0] rfl
  have hD := hD.sub (ws' := [(h0, .inr (0, [.ref q1, .null, .null, .null, .null]))]) [0] (by decide) rfl
  have hK := hK.sub (tys' := []) [] rfl
  refine lv_aload_n hx hb d_Au_init_12 rfl (lv_at hl 0 rfl) ?_
  refine lv_bipush (v := 16) hx hb d_Au_init_13 (by decide) ?_
  refine va_newa (D := (dC, dI)) (atype := .int) (a0 := (16, .inl (fun _ => 0))) (ty := .int) hx hb (hB _ hw_131) rfl hK hP hD hS hA (fun _ => rfl) (by decide) (N' := 16) rfl (by decide) (Nat.le_of_ble_eq_true rfl) (Nat.le_of_ble_eq_true rfl) d_Au_init_15 (fun q3 cA4 H hK hP hD hS => ?_)
  have hP : va_P (dC, dI) gx_cl [(h0, .inr (0, [.ref q1, .null, .null, .null, .null])), (q3, .inl (cA4, 16, .inl (fun _ => 0)))] H := hP
  have hD : va_D A [(h0, .inr (0, [.ref q1, .null, .null, .null, .null])), (q3, .inl (cA4, 16, .inl (fun _ => 0)))] := hD
  have hK : va_K (dC, dI) gx_cl [(cA4, .int)] s := hK
  refine W.widen (k := 2) (n := 32) (Nat.le_of_ble_eq_true rfl) (Nat.le_of_ble_eq_true rfl) ?_
  refine va_putF (D := (dC, dI)) (ci := 0) (v := .ref q3) (ty := .array .int) (C := RAu) (T := FAu) (N := 5) hx hb hB in_Au tAu tAu_ok nAu hown hK hP hD hS 0 rfl rfl 1 (by decide) (hB _ hw_183) (fun _ h9 => h9) rfl hin rfl (by decide +kernel) rfl rfl (Nat.le_of_ble_eq_true rfl) d_Au_init_17 (fun H locs hP hD hS => ?_)
  have hP : va_P (dC, dI) gx_cl [(h0, .inr (0, [.ref q1, .ref q3, .null, .null, .null])), (q3, .inl (cA4, 16, .inl (fun _ => 0)))] H := hP
  have hD : va_D A [(h0, .inr (0, [.ref q1, .ref q3, .null, .null, .null])), (q3, .inl (cA4, 16, .inl (fun _ => 0)))] := hD
  have hP := hP.sub (ws' := [(h0, .inr (0, [.ref q1, .ref q3, .null, .null, .null]))]) [0] rfl
  have hD := hD.sub (ws' := [(h0, .inr (0, [.ref q1, .ref q3, .null, .null, .null]))]) [0] (by decide) rfl
  have hK := hK.sub (tys' := []) [] rfl
  refine lv_aload_n hx hb d_Au_init_20 rfl (lv_at hl 0 rfl) ?_
  refine lv_iconst (v := 5) hx hb d_Au_init_21 (by decide) ?_
  refine va_newa (D := (dC, dI)) (atype := .long) (a0 := (5, .inr (.inl (fun _ => 0)))) (ty := .long) hx hb (hB _ hw_198) rfl hK hP hD hS hA (fun _ => rfl) (by decide) (N' := 5) rfl (by decide) (Nat.le_of_ble_eq_true rfl) (Nat.le_of_ble_eq_true rfl) d_Au_init_22 (fun q5 cA6 H hK hP hD hS => ?_)
  have hP : va_P (dC, dI) gx_cl [(h0, .inr (0, [.ref q1, .ref q3, .null, .null, .null])), (q5, .inl (cA6, 5, .inr (.inl (fun _ => 0))))] H := hP
  have hD : va_D A [(h0, .inr (0, [.ref q1, .ref q3, .null, .null, .null])), (q5, .inl (cA6, 5, .inr (.inl (fun _ => 0))))] := hD
  have hK : va_K (dC, dI) gx_cl [(cA6, .long)] s := hK
  refine W.widen (k := 3) (n := 37) (Nat.le_of_ble_eq_true rfl) (Nat.le_of_ble_eq_true rfl) ?_
  refine va_putF (D := (dC, dI)) (ci := 0) (v := .ref q5) (ty := .array .long) (C := RAu) (T := FAu) (N := 5) hx hb hB in_Au tAu tAu_ok nAu hown hK hP hD hS 0 rfl rfl 2 (by decide) (hB _ hw_184) (fun _ h9 => h9) rfl hin rfl (by decide +kernel) rfl rfl (Nat.le_of_ble_eq_true rfl) d_Au_init_24 (fun H locs hP hD hS => ?_)
  have hP : va_P (dC, dI) gx_cl [(h0, .inr (0, [.ref q1, .ref q3, .ref q5, .null, .null])), (q5, .inl (cA6, 5, .inr (.inl (fun _ => 0))))] H := hP
  have hD : va_D A [(h0, .inr (0, [.ref q1, .ref q3, .ref q5, .null, .null])), (q5, .inl (cA6, 5, .inr (.inl (fun _ => 0))))] := hD
  have hP := hP.sub (ws' := [(h0, .inr (0, [.ref q1, .ref q3, .ref q5, .null, .null]))]) [0] rfl
  have hD := hD.sub (ws' := [(h0, .inr (0, [.ref q1, .ref q3, .ref q5, .null, .null]))]) [0] (by decide) rfl
  have hK := hK.sub (tys' := []) [] rfl
  refine lv_aload_n hx hb d_Au_init_27 rfl (lv_at hl 0 rfl) ?_
  refine lv_iconst (v := 5) hx hb d_Au_init_28 (by decide) ?_
  refine va_newa (D := (dC, dI)) (atype := .long) (a0 := (5, .inr (.inl (fun _ => 0)))) (ty := .long) hx hb (hB _ hw_198) rfl hK hP hD hS hA (fun _ => rfl) (by decide) (N' := 5) rfl (by decide) (Nat.le_of_ble_eq_true rfl) (Nat.le_of_ble_eq_true rfl) d_Au_init_29 (fun q7 cA8 H hK hP hD hS => ?_)
  have hP : va_P (dC, dI) gx_cl [(h0, .inr (0, [.ref q1, .ref q3, .ref q5, .null, .null])), (q7, .inl (cA8, 5, .inr (.inl (fun _ => 0))))] H := hP
  have hD : va_D A [(h0, .inr (0, [.ref q1, .ref q3, .ref q5, .null, .null])), (q7, .inl (cA8, 5, .inr (.inl (fun _ => 0))))] := hD
  have hK : va_K (dC, dI) gx_cl [(cA8, .long)] s := hK
  refine W.widen (k := 4) (n := 42) (Nat.le_of_ble_eq_true rfl) (Nat.le_of_ble_eq_true rfl) ?_
  refine va_putF (D := (dC, dI)) (ci := 0) (v := .ref q7) (ty := .array .long) (C := RAu) (T := FAu) (N := 5) hx hb hB in_Au tAu tAu_ok nAu hown hK hP hD hS 0 rfl rfl 3 (by decide) (hB _ hw_185) (fun _ h9 => h9) rfl hin rfl (by decide +kernel) rfl rfl (Nat.le_of_ble_eq_true rfl) d_Au_init_31 (fun H locs hP hD hS => ?_)
  have hP : va_P (dC, dI) gx_cl [(h0, .inr (0, [.ref q1, .ref q3, .ref q5, .ref q7, .null])), (q7, .inl (cA8, 5, .inr (.inl (fun _ => 0))))] H := hP
  have hD : va_D A [(h0, .inr (0, [.ref q1, .ref q3, .ref q5, .ref q7, .null])), (q7, .inl (cA8, 5, .inr (.inl (fun _ => 0))))] := hD
  have hP := hP.sub (ws' := [(h0, .inr (0, [.ref q1, .ref q3, .ref q5, .ref q7, .null]))]) [0] rfl
  have hD := hD.sub (ws' := [(h0, .inr (0, [.ref q1, .ref q3, .ref q5, .ref q7, .null]))]) [0] (by decide) rfl
  have hK := hK.sub (tys' := []) [] rfl
  refine lv_aload_n hx hb d_Au_init_34 rfl (lv_at hl 0 rfl) ?_
  refine lv_iconst (v := 5) hx hb d_Au_init_35 (by decide) ?_
  refine va_newa (D := (dC, dI)) (atype := .long) (a0 := (5, .inr (.inl (fun _ => 0)))) (ty := .long) hx hb (hB _ hw_198) rfl hK hP hD hS hA (fun _ => rfl) (by decide) (N' := 5) rfl (by decide) (Nat.le_of_ble_eq_true rfl) (Nat.le_of_ble_eq_true rfl) d_Au_init_36 (fun q9 cA10 H hK hP hD hS => ?_)
  have hP : va_P (dC, dI) gx_cl [(h0, .inr (0, [.ref q1, .ref q3, .ref q5, .ref q7, .null])), (q9, .inl (cA10, 5, .inr (.inl (fun _ => 0))))] H := hP
  have hD : va_D A [(h0, .inr (0, [.ref q1, .ref q3, .ref q5, .ref q7, .null])), (q9, .inl (cA10, 5, .inr (.inl (fun _ => 0))))] := hD
  have hK : va_K (dC, dI) gx_cl [(cA10, .long)] s := hK
  refine W.widen (k := 5) (n := 47) (Nat.le_of_ble_eq_true rfl) (Nat.le_of_ble_eq_true rfl) ?_
  refine va_putF (D := (dC, dI)) (ci := 0) (v := .ref q9) (ty := .array .long) (C := RAu) (T := FAu) (N := 5) hx hb hB in_Au tAu tAu_ok nAu hown hK hP hD hS 0 rfl rfl 4 (by decide) (hB _ hw_186) (fun _ h9 => h9) rfl hin rfl (by decide +kernel) rfl rfl (Nat.le_of_ble_eq_true rfl) d_Au_init_38 (fun H locs hP hD hS => ?_)
  have hP : va_P (dC, dI) gx_cl [(h0, .inr (0, [.ref q1, .ref q3, .ref q5, .ref q7, .ref q9])), (q9, .inl (cA10, 5, .inr (.inl (fun _ => 0))))] H := hP
  have hD : va_D A [(h0, .inr (0, [.ref q1, .ref q3, .ref q5, .ref q7, .ref q9])), (q9, .inl (cA10, 5, .inr (.inl (fun _ => 0))))] := hD
  have hP := hP.sub (ws' := [(h0, .inr (0, [.ref q1, .ref q3, .ref q5, .ref q7, .ref q9]))]) [0] rfl
  have hD := hD.sub (ws' := [(h0, .inr (0, [.ref q1, .ref q3, .ref q5, .ref q7, .ref q9]))]) [0] (by decide) rfl
  have hK := hK.sub (tys' := []) [] rfl
  refine W.widen (k := 5) (n := 47) (Nat.le_of_ble_eq_true rfl) (Nat.le_of_ble_eq_true rfl) ?_
  exact W.vret hx hb hr (fun t ht hW => ⟨⟨(), rfl, trivial, trivial⟩, hS.F ht⟩) hS.2.2 d_Au_init_41
set_option maxHeartbeats 4000000 in
set_option maxRecDepth 100000 in
theorem c_Ks_init (l : Launch) (dC : Nat → ClassId) (dI : Nat → Nat → Nat) (h0 sz : Nat) : Met l y_Ks_init w_Ks_init ({ frames := 1, cells := 3, slots := 96, locals := 20 }) (va_Pc [.ref h0] (fun U => U.heap.size = sz ∧ va_P (dC, dI) gx_cl [(h0, .inr (4, [.null, .null, .null]))] U.heap ∧ va_K (dC, dI) gx_cl [] U ∧ va_D (fun _ => True) [(h0, .inr (4, [.null, .null, .null]))])) (va_Qv (fun _ : Unit => True) (fun _ t => True) (va_A [(h0, .inr (4, [.null, .null, .null]))] sz)) 3 96 (va_A [(h0, .inr (4, [.null, .null, .null]))] sz) := by
  refine Met.ofW (cc := b_Ks_init) (maxL := 1) (ret := none) (by decide) rfl ?_
  intro p e s m args below meth c s₁ B hml hv
  obtain ⟨rfl, hsz, hP, hK, hD0⟩ := hv
  have hx := B.exec
  have hb := B.bytes
  have hr := B.returns
  have hts := atoms_spec (ws := w_Ks_init) B.pre
  have hB : ∀ w ∈ gx_B, w.before _ s = true := fun w h => hts w (List.mem_cons_of_mem _ h)
  have hown : s.vm.findClass RKs = some m.cls := findClass_of_methodNamed B.named
  have hlocks := B.notSynchronized
  have hin : meth.name = "<init>" := (name_of_methodNamed B.named B.method).1
  subst hsz
  have hD := hD0.self (sz := s.heap.size)
  generalize hAe : va_A [(h0, .inr (4, [.null, .null, .null]))] s.heap.size = A at hD ⊢
  have hA : ∀ q : Nat, s.heap.size ≤ q → A q := fun q h => by rw [← hAe]; exact Or.inr h
  have hS : va_S A s.heap s.heap [] := va_S.rf
  have hP : va_P (dC, dI) gx_cl [(h0, .inr (4, [.null, .null, .null]))] s.heap := hP
  have hl := lv_entry ([.ref h0]) (n := 1) (Nat.le_of_ble_eq_true rfl)
  rw [lg_entry_eq]
  generalize (lg_sl ([.ref h0]) ++ List.replicate (1 - (lg_sl ([.ref h0])).length) Slot.unset).toArray = ls at hl ⊢
  have hl : lv_has ls 1 [(0, .ref h0)] := hl
  refine lv_aload_n hx hb d_Ks_init_0 rfl (lv_at hl 0 rfl) ?_
  refine W.objInit hx hb hown (hB _ hw_163) (hB _ hw_94) (hB _ hw_oc) rfl (by rw [hml]; exact hl.1) rfl d_Ks_init_1 (Nat.le_of_ble_eq_true rfl) (Nat.le_of_ble_eq_true rfl) ?_
  refine W.eq (g2 := F0 m 4 ls []) rfl ?_
  refine lv_aload_n hx hb d_Ks_init_4 rfl (lv_at hl 0 rfl) ?_
  refine lv_bipush (v := 64) hx hb d_Ks_init_5 (by decide) ?_
  refine va_newa (D := (dC, dI)) (atype := .int) (a0 := (64, .inl (fun _ => 0))) (ty := .int) hx hb (hB _ hw_131) rfl hK hP hD hS hA (fun _ => rfl) (by decide) (N' := 64) rfl (by decide) (Nat.le_of_ble_eq_true rfl) (Nat.le_of_ble_eq_true rfl) d_Ks_init_7 (fun q1 cA2 H hK hP hD hS => ?_)
  have hP : va_P (dC, dI) gx_cl [(h0, .inr (4, [.null, .null, .null])), (q1, .inl (cA2, 64, .inl (fun _ => 0)))] H := hP
  have hD : va_D A [(h0, .inr (4, [.null, .null, .null])), (q1, .inl (cA2, 64, .inl (fun _ => 0)))] := hD
  have hK : va_K (dC, dI) gx_cl [(cA2, .int)] s := hK
  refine W.widen (k := 1) (n := 64) (Nat.le_of_ble_eq_true rfl) (Nat.le_of_ble_eq_true rfl) ?_
  refine va_putF (D := (dC, dI)) (ci := 4) (v := .ref q1) (ty := .array .int) (C := RKs) (T := FKs) (N := 3) hx hb hB in_Ks tKs tKs_ok nKs hown hK hP hD hS 0 rfl rfl 0 (by decide) (hB _ hw_164) (fun _ h9 => h9) rfl hin rfl (by decide +kernel) rfl rfl (Nat.le_of_ble_eq_true rfl) d_Ks_init_9 (fun H locs hP hD hS => ?_)
  have hP : va_P (dC, dI) gx_cl [(h0, .inr (4, [.ref q1, .null, .null])), (q1, .inl (cA2, 64, .inl (fun _ => 0)))] H := hP
  have hD : va_D A [(h0, .inr (4, [.ref q1, .null, .null])), (q1, .inl (cA2, 64, .inl (fun _ => 0)))] := hD
  have hP := hP.sub (ws' := [(h0, .inr (4, [.ref q1, .null, .null]))]) [0] rfl
  have hD := hD.sub (ws' := [(h0, .inr (4, [.ref q1, .null, .null]))]) [0] (by decide) rfl
  have hK := hK.sub (tys' := []) [] rfl
  refine lv_aload_n hx hb d_Ks_init_12 rfl (lv_at hl 0 rfl) ?_
  refine lv_bipush (v := 16) hx hb d_Ks_init_13 (by decide) ?_
  refine va_newa (D := (dC, dI)) (atype := .int) (a0 := (16, .inl (fun _ => 0))) (ty := .int) hx hb (hB _ hw_131) rfl hK hP hD hS hA (fun _ => rfl) (by decide) (N' := 16) rfl (by decide) (Nat.le_of_ble_eq_true rfl) (Nat.le_of_ble_eq_true rfl) d_Ks_init_15 (fun q3 cA4 H hK hP hD hS => ?_)
  have hP : va_P (dC, dI) gx_cl [(h0, .inr (4, [.ref q1, .null, .null])), (q3, .inl (cA4, 16, .inl (fun _ => 0)))] H := hP
  have hD : va_D A [(h0, .inr (4, [.ref q1, .null, .null])), (q3, .inl (cA4, 16, .inl (fun _ => 0)))] := hD
  have hK : va_K (dC, dI) gx_cl [(cA4, .int)] s := hK
  refine W.widen (k := 2) (n := 80) (Nat.le_of_ble_eq_true rfl) (Nat.le_of_ble_eq_true rfl) ?_
  refine va_putF (D := (dC, dI)) (ci := 4) (v := .ref q3) (ty := .array .int) (C := RKs) (T := FKs) (N := 3) hx hb hB in_Ks tKs tKs_ok nKs hown hK hP hD hS 0 rfl rfl 1 (by decide) (hB _ hw_166) (fun _ h9 => h9) rfl hin rfl (by decide +kernel) rfl rfl (Nat.le_of_ble_eq_true rfl) d_Ks_init_17 (fun H locs hP hD hS => ?_)
  have hP : va_P (dC, dI) gx_cl [(h0, .inr (4, [.ref q1, .ref q3, .null])), (q3, .inl (cA4, 16, .inl (fun _ => 0)))] H := hP
  have hD : va_D A [(h0, .inr (4, [.ref q1, .ref q3, .null])), (q3, .inl (cA4, 16, .inl (fun _ => 0)))] := hD
  have hP := hP.sub (ws' := [(h0, .inr (4, [.ref q1, .ref q3, .null]))]) [0] rfl
  have hD := hD.sub (ws' := [(h0, .inr (4, [.ref q1, .ref q3, .null]))]) [0] (by decide) rfl
  have hK := hK.sub (tys' := []) [] rfl
  refine lv_aload_n hx hb d_Ks_init_20 rfl (lv_at hl 0 rfl) ?_
  refine lv_bipush (v := 16) hx hb d_Ks_init_21 (by decide) ?_
  refine va_newa (D := (dC, dI)) (atype := .int) (a0 := (16, .inl (fun _ => 0))) (ty := .int) hx hb (hB _ hw_131) rfl hK hP hD hS hA (fun _ => rfl) (by decide) (N' := 16) rfl (by decide) (Nat.le_of_ble_eq_true rfl) (Nat.le_of_ble_eq_true rfl) d_Ks_init_23 (fun q5 cA6 H hK hP hD hS => ?_)
  have hP : va_P (dC, dI) gx_cl [(h0, .inr (4, [.ref q1, .ref q3, .null])), (q5, .inl (cA6, 16, .inl (fun _ => 0)))] H := hP
  have hD : va_D A [(h0, .inr (4, [.ref q1, .ref q3, .null])), (q5, .inl (cA6, 16, .inl (fun _ => 0)))] := hD
  have hK : va_K (dC, dI) gx_cl [(cA6, .int)] s := hK
  refine W.widen (k := 3) (n := 96) (Nat.le_of_ble_eq_true rfl) (Nat.le_of_ble_eq_true rfl) ?_
  refine va_putF (D := (dC, dI)) (ci := 4) (v := .ref q5) (ty := .array .int) (C := RKs) (T := FKs) (N := 3) hx hb hB in_Ks tKs tKs_ok nKs hown hK hP hD hS 0 rfl rfl 2 (by decide) (hB _ hw_167) (fun _ h9 => h9) rfl hin rfl (by decide +kernel) rfl rfl (Nat.le_of_ble_eq_true rfl) d_Ks_init_25 (fun H locs hP hD hS => ?_)
  have hP : va_P (dC, dI) gx_cl [(h0, .inr (4, [.ref q1, .ref q3, .ref q5])), (q5, .inl (cA6, 16, .inl (fun _ => 0)))] H := hP
  have hD : va_D A [(h0, .inr (4, [.ref q1, .ref q3, .ref q5])), (q5, .inl (cA6, 16, .inl (fun _ => 0)))] := hD
  have hP := hP.sub (ws' := [(h0, .inr (4, [.ref q1, .ref q3, .ref q5]))]) [0] rfl
  have hD := hD.sub (ws' := [(h0, .inr (4, [.ref q1, .ref q3, .ref q5]))]) [0] (by decide) rfl
  have hK := hK.sub (tys' := []) [] rfl
  refine W.widen (k := 3) (n := 96) (Nat.le_of_ble_eq_true rfl) (Nat.le_of_ble_eq_true rfl) ?_
  exact W.vret hx hb hr (fun t ht hW => ⟨⟨(), rfl, trivial, trivial⟩, hS.F ht⟩) hS.2.2 d_Ks_init_28
set_option maxHeartbeats 4000000 in
set_option maxRecDepth 100000 in
theorem c_La_init (l : Launch) (dC : Nat → ClassId) (dI : Nat → Nat → Nat) (h0 sz : Nat) (fn : Int32) : Met l y_La_init w_La_init ({ frames := 1, cells := 1, slots := 32, locals := 20 }) (va_Pc [.ref h0, .int fn] (fun U => U.heap.size = sz ∧ va_P (dC, dI) gx_cl [(h0, .inr (5, [.null, .int 0, .int 0, .int 0, .int 0, .int 0, .int 0, .int 0]))] U.heap ∧ va_K (dC, dI) gx_cl [] U ∧ va_D (fun _ => True) [(h0, .inr (5, [.null, .int 0, .int 0, .int 0, .int 0, .int 0, .int 0, .int 0]))])) (va_Qv (fun _ : Unit => True) (fun _ t => ∃ (q : Nat), va_P (dC, dI) gx_cl [(h0, .inr (5, [.ref q, .int fn, .int 0, .int 0, .int 0, .int 0, .int 0, .int 0]))] t.heap ∧ va_D (va_A [(h0, .inr (5, [.null, .int 0, .int 0, .int 0, .int 0, .int 0, .int 0, .int 0]))] sz) [(h0, .inr (5, [.ref q, .int fn, .int 0, .int 0, .int 0, .int 0, .int 0, .int 0]))]) (va_A [(h0, .inr (5, [.null, .int 0, .int 0, .int 0, .int 0, .int 0, .int 0, .int 0]))] sz)) 1 32 (va_A [(h0, .inr (5, [.null, .int 0, .int 0, .int 0, .int 0, .int 0, .int 0, .int 0]))] sz) := by
  refine Met.ofW (cc := b_La_init) (maxL := 2) (ret := none) (by decide) rfl ?_
  intro p e s m args below meth c s₁ B hml hv
  obtain ⟨rfl, hsz, hP, hK, hD0⟩ := hv
  have hx := B.exec
  have hb := B.bytes
  have hr := B.returns
  have hts := atoms_spec (ws := w_La_init) B.pre
  have hB : ∀ w ∈ gx_B, w.before _ s = true := fun w h => hts w (List.mem_cons_of_mem _ h)
  have hown : s.vm.findClass RLa = some m.cls := findClass_of_methodNamed B.named
  have hlocks := B.notSynchronized
  have hin : meth.name = "<init>" := (name_of_methodNamed B.named B.method).1
  subst hsz
  have hD := hD0.self (sz := s.heap.size)
  generalize hAe : va_A [(h0, .inr (5, [.null, .int 0, .int 0, .int 0, .int 0, .int 0, .int 0, .int 0]))] s.heap.size = A at hD ⊢
  have hA : ∀ q : Nat, s.heap.size ≤ q → A q := fun q h => by rw [← hAe]; exact Or.inr h
  have hS : va_S A s.heap s.heap [] := va_S.rf
  have hP : va_P (dC, dI) gx_cl [(h0, .inr (5, [.null, .int 0, .int 0, .int 0, .int 0, .int 0, .int 0, .int 0]))] s.heap := hP
  have hl := lv_entry ([.ref h0, .int fn]) (n := 2) (Nat.le_of_ble_eq_true rfl)
  rw [lg_entry_eq]
  generalize (lg_sl ([.ref h0, .int fn]) ++ List.replicate (2 - (lg_sl ([.ref h0, .int fn])).length) Slot.unset).toArray = ls at hl ⊢
  have hl : lv_has ls 2 [(0, .ref h0), (1, .int fn)] := hl
  refine lv_aload_n hx hb d_La_init_0 rfl (lv_at hl 0 rfl) ?_
  refine W.objInit hx hb hown (hB _ hw_246) (hB _ hw_94) (hB _ hw_oc) rfl (by rw [hml]; exact hl.1) rfl d_La_init_1 (Nat.le_of_ble_eq_true rfl) (Nat.le_of_ble_eq_true rfl) ?_
  refine W.eq (g2 := F0 m 4 ls []) rfl ?_
  refine lv_aload_n hx hb d_La_init_4 rfl (lv_at hl 0 rfl) ?_
  refine lv_bipush (v := 32) hx hb d_La_init_5 (by decide) ?_
  refine va_newa (D := (dC, dI)) (atype := .int) (a0 := (32, .inl (fun _ => 0))) (ty := .int) hx hb (hB _ hw_131) rfl hK hP hD hS hA (fun _ => rfl) (by decide) (N' := 32) rfl (by decide) (Nat.le_of_ble_eq_true rfl) (Nat.le_of_ble_eq_true rfl) d_La_init_7 (fun q1 cA2 H hK hP hD hS => ?_)
  have hP : va_P (dC, dI) gx_cl [(h0, .inr (5, [.null, .int 0, .int 0, .int 0, .int 0, .int 0, .int 0, .int 0])), (q1, .inl (cA2, 32, .inl (fun _ => 0)))] H := hP
  have hD : va_D A [(h0, .inr (5, [.null, .int 0, .int 0, .int 0, .int 0, .int 0, .int 0, .int 0])), (q1, .inl (cA2, 32, .inl (fun _ => 0)))] := hD
  have hK : va_K (dC, dI) gx_cl [(cA2, .int)] s := hK
  refine W.widen (k := 1) (n := 32) (Nat.le_of_ble_eq_true rfl) (Nat.le_of_ble_eq_true rfl) ?_
  refine va_putF (D := (dC, dI)) (ci := 5) (v := .ref q1) (ty := .array .int) (C := RLa) (T := FLa) (N := 8) hx hb hB in_La tLa tLa_ok nLa hown hK hP hD hS 0 rfl rfl 0 (by decide) (hB _ hw_247) (fun _ h9 => h9) rfl hin rfl (by decide +kernel) rfl rfl (Nat.le_of_ble_eq_true rfl) d_La_init_9 (fun H locs hP hD hS => ?_)
  have hP : va_P (dC, dI) gx_cl [(h0, .inr (5, [.ref q1, .int 0, .int 0, .int 0, .int 0, .int 0, .int 0, .int 0])), (q1, .inl (cA2, 32, .inl (fun _ => 0)))] H := hP
  have hD : va_D A [(h0, .inr (5, [.ref q1, .int 0, .int 0, .int 0, .int 0, .int 0, .int 0, .int 0])), (q1, .inl (cA2, 32, .inl (fun _ => 0)))] := hD
  have hP := hP.sub (ws' := [(h0, .inr (5, [.ref q1, .int 0, .int 0, .int 0, .int 0, .int 0, .int 0, .int 0]))]) [0] rfl
  have hD := hD.sub (ws' := [(h0, .inr (5, [.ref q1, .int 0, .int 0, .int 0, .int 0, .int 0, .int 0, .int 0]))]) [0] (by decide) rfl
  have hK := hK.sub (tys' := []) [] rfl
  refine lv_aload_n hx hb d_La_init_12 rfl (lv_at hl 0 rfl) ?_
  refine lv_iload_n hx hb d_La_init_13 rfl (lv_at hl 1 rfl) ?_
  refine va_put (D := (dC, dI)) (ci := 5) (v := .int fn) (ty := .int) (C := RLa) (T := FLa) (N := 8) hx hb hB in_La tLa tLa_ok nLa hown hK hP hD hS 0 rfl rfl 1 (by decide) (hB _ hw_249) (fun _ h9 => h9) rfl (by decide +kernel) rfl rfl (Nat.le_of_ble_eq_true rfl) d_La_init_14 (fun H locs hP hD hS => ?_)
  have hP : va_P (dC, dI) gx_cl [(h0, .inr (5, [.ref q1, .int fn, .int 0, .int 0, .int 0, .int 0, .int 0, .int 0]))] H := hP
  have hD : va_D A [(h0, .inr (5, [.ref q1, .int fn, .int 0, .int 0, .int 0, .int 0, .int 0, .int 0]))] := hD
  refine W.widen (k := 1) (n := 32) (Nat.le_of_ble_eq_true rfl) (Nat.le_of_ble_eq_true rfl) ?_
  exact W.vret hx hb hr (fun t ht hW => ⟨⟨(), rfl, trivial, q1, by rw [ht]; exact hP, hD⟩, hS.F ht⟩) hS.2.2 d_La_init_17
set_option maxHeartbeats 4000000 in
set_option maxRecDepth 100000 in
theorem c_Dr_init (l : Launch) (dC : Nat → ClassId) (dI : Nat → Nat → Nat) (h0 sz : Nat) : Met l y_Dr_init w_Dr_init ({ frames := 1, cells := 1, slots := 768, locals := 20 }) (va_Pc [.ref h0] (fun U => U.heap.size = sz ∧ va_P (dC, dI) gx_cl [(h0, .inr (2, [.null, .int 0, .int 0, .int 0]))] U.heap ∧ va_K (dC, dI) gx_cl [] U ∧ va_D (fun _ => True) [(h0, .inr (2, [.null, .int 0, .int 0, .int 0]))])) (va_Qv (fun _ : Unit => True) (fun _ t => ∃ (q : Nat), va_P (dC, dI) gx_cl [(h0, .inr (2, [.ref q, .int (-1), .int 0, .int 0]))] t.heap ∧ va_D (va_A [(h0, .inr (2, [.null, .int 0, .int 0, .int 0]))] sz) [(h0, .inr (2, [.ref q, .int (-1), .int 0, .int 0]))]) (va_A [(h0, .inr (2, [.null, .int 0, .int 0, .int 0]))] sz)) 1 768 (va_A [(h0, .inr (2, [.null, .int 0, .int 0, .int 0]))] sz) := by
  refine Met.ofW (cc := b_Dr_init) (maxL := 1) (ret := none) (by decide) rfl ?_
  intro p e s m args below meth c s₁ B hml hv
  obtain ⟨rfl, hsz, hP, hK, hD0⟩ := hv
  have hx := B.exec
  have hb := B.bytes
  have hr := B.returns
  have hts := atoms_spec (ws := w_Dr_init) B.pre
  have hB : ∀ w ∈ gx_B, w.before _ s = true := fun w h => hts w (List.mem_cons_of_mem _ h)
  have hown : s.vm.findClass RDr = some m.cls := findClass_of_methodNamed B.named
  have hlocks := B.notSynchronized
  have hin : meth.name = "<init>" := (name_of_methodNamed B.named B.method).1
  subst hsz
  have hD := hD0.self (sz := s.heap.size)
  generalize hAe : va_A [(h0, .inr (2, [.null, .int 0, .int 0, .int 0]))] s.heap.size = A at hD ⊢
  have hA : ∀ q : Nat, s.heap.size ≤ q → A q := fun q h => by rw [← hAe]; exact Or.inr h
  have hS : va_S A s.heap s.heap [] := va_S.rf
  have hP : va_P (dC, dI) gx_cl [(h0, .inr (2, [.null, .int 0, .int 0, .int 0]))] s.heap := hP
  have hl := lv_entry ([.ref h0]) (n := 1) (Nat.le_of_ble_eq_true rfl)
  rw [lg_entry_eq]
  generalize (lg_sl ([.ref h0]) ++ List.replicate (1 - (lg_sl ([.ref h0])).length) Slot.unset).toArray = ls at hl ⊢
  have hl : lv_has ls 1 [(0, .ref h0)] := hl
  refine lv_aload_n hx hb d_Dr_init_0 rfl (lv_at hl 0 rfl) ?_
  refine W.objInit hx hb hown (hB _ hw_291) (hB _ hw_94) (hB _ hw_oc) rfl (by rw [hml]; exact hl.1) rfl d_Dr_init_1 (Nat.le_of_ble_eq_true rfl) (Nat.le_of_ble_eq_true rfl) ?_
  refine W.eq (g2 := F0 m 4 ls []) rfl ?_
  refine lv_aload_n hx hb d_Dr_init_4 rfl (lv_at hl 0 rfl) ?_
  refine lv_sipush (v := 768) hx hb d_Dr_init_5 (by decide) ?_
  refine va_newa (D := (dC, dI)) (atype := .int) (a0 := (768, .inl (fun _ => 0))) (ty := .int) hx hb (hB _ hw_131) rfl hK hP hD hS hA (fun _ => rfl) (by decide) (N' := 768) rfl (by decide) (Nat.le_of_ble_eq_true rfl) (Nat.le_of_ble_eq_true rfl) d_Dr_init_8 (fun q1 cA2 H hK hP hD hS => ?_)
  have hP : va_P (dC, dI) gx_cl [(h0, .inr (2, [.null, .int 0, .int 0, .int 0])), (q1, .inl (cA2, 768, .inl (fun _ => 0)))] H := hP
  have hD : va_D A [(h0, .inr (2, [.null, .int 0, .int 0, .int 0])), (q1, .inl (cA2, 768, .inl (fun _ => 0)))] := hD
  have hK : va_K (dC, dI) gx_cl [(cA2, .int)] s := hK
  refine W.widen (k := 1) (n := 768) (Nat.le_of_ble_eq_true rfl) (Nat.le_of_ble_eq_true rfl) ?_
  refine va_putF (D := (dC, dI)) (ci := 2) (v := .ref q1) (ty := .array .int) (C := RDr) (T := FDr) (N := 4) hx hb hB in_Dr tDr tDr_ok nDr hown hK hP hD hS 0 rfl rfl 0 (by decide) (hB _ hw_292) (fun _ h9 => h9) rfl hin rfl (by decide +kernel) rfl rfl (Nat.le_of_ble_eq_true rfl) d_Dr_init_10 (fun H locs hP hD hS => ?_)
  have hP : va_P (dC, dI) gx_cl [(h0, .inr (2, [.ref q1, .int 0, .int 0, .int 0])), (q1, .inl (cA2, 768, .inl (fun _ => 0)))] H := hP
  have hD : va_D A [(h0, .inr (2, [.ref q1, .int 0, .int 0, .int 0])), (q1, .inl (cA2, 768, .inl (fun _ => 0)))] := hD
  have hP := hP.sub (ws' := [(h0, .inr (2, [.ref q1, .int 0, .int 0, .int 0]))]) [0] rfl
  have hD := hD.sub (ws' := [(h0, .inr (2, [.ref q1, .int 0, .int 0, .int 0]))]) [0] (by decide) rfl
  have hK := hK.sub (tys' := []) [] rfl
  refine lv_aload_n hx hb d_Dr_init_13 rfl (lv_at hl 0 rfl) ?_
  refine lv_iconst (v := (-1)) hx hb d_Dr_init_14 (by decide) ?_
  refine va_put (D := (dC, dI)) (ci := 2) (v := .int (-1)) (ty := .int) (C := RDr) (T := FDr) (N := 4) hx hb hB in_Dr tDr tDr_ok nDr hown hK hP hD hS 0 rfl rfl 1 (by decide) (hB _ hw_294) (fun _ h9 => h9) rfl (by decide +kernel) rfl rfl (Nat.le_of_ble_eq_true rfl) d_Dr_init_15 (fun H locs hP hD hS => ?_)
  have hP : va_P (dC, dI) gx_cl [(h0, .inr (2, [.ref q1, .int (-1), .int 0, .int 0]))] H := hP
  have hD : va_D A [(h0, .inr (2, [.ref q1, .int (-1), .int 0, .int 0]))] := hD
  refine W.widen (k := 1) (n := 768) (Nat.le_of_ble_eq_true rfl) (Nat.le_of_ble_eq_true rfl) ?_
  exact W.vret hx hb hr (fun t ht hW => ⟨⟨(), rfl, trivial, q1, by rw [ht]; exact hP, hD⟩, hS.F ht⟩) hS.2.2 d_Dr_init_18
end
section
abbrev b_Ep_init : ByteArray := prog_5_method_1_code
def y_Ep_init : MethodName := ⟨"TapeSealer$Epochs", "<init>", "()V"⟩
abbrev w_Ep_init : List Cond := .code y_Ep_init b_Ep_init 1 none :: gx_B
theorem k_Ep_init : (.code y_Ep_init b_Ep_init 1 none : Cond) ∈ gx_B := gx_mem 137 (by decide +kernel) rfl
abbrev b_St_init : ByteArray := prog_10_method_1_code
def y_St_init : MethodName := ⟨"TapeSealer$Stripe", "<init>", "(LTapeSealer$Cartridge;LTapeSealer$Sealing;)V"⟩
abbrev w_St_init : List Cond := .code y_St_init b_St_init 3 none :: gx_B
theorem k_St_init : (.code y_St_init b_St_init 3 none : Cond) ∈ gx_B := gx_mem 219 (by decide +kernel) rfl
abbrev b_Se_init : ByteArray := prog_9_method_1_code
def y_Se_init : MethodName := ⟨"TapeSealer$Sealing", "<init>", "()V"⟩
abbrev w_Se_init : List Cond := .code y_Se_init b_Se_init 1 none :: gx_B
theorem k_Se_init : (.code y_Se_init b_Se_init 1 none : Cond) ∈ gx_B := gx_mem 156 (by decide +kernel) rfl
abbrev b_Ca_init : ByteArray := prog_3_method_1_code
def y_Ca_init : MethodName := ⟨"TapeSealer$Cartridge", "<init>", "()V"⟩
abbrev w_Ca_init : List Cond := .code y_Ca_init b_Ca_init 1 none :: gx_B
theorem k_Ca_init : (.code y_Ca_init b_Ca_init 1 none : Cond) ∈ gx_B := gx_mem 100 (by decide +kernel) rfl
theorem hw_70 : (.initialized "TapeSealer$KeyStream" : Cond) ∈ gx_B := gx_mem 70 (by decide +kernel) rfl
theorem hw_71 : (.initialized "TapeSealer$Authenticator" : Cond) ∈ gx_B := gx_mem 71 (by decide +kernel) rfl
theorem hw_101 : (.methodLink "TapeSealer$Cartridge" 3 ⟨"java/lang/Object", "<init>", "()V"⟩ : Cond) ∈ gx_B := gx_mem 101 (by decide +kernel) rfl
theorem hw_102 : (.classLink "TapeSealer$Cartridge" 9 "[[I" : Cond) ∈ gx_B := gx_mem 102 (by decide +kernel) rfl
theorem hw_104 : (.fieldLink "TapeSealer$Cartridge" 11 "TapeSealer$Cartridge" "rows" "[[I" : Cond) ∈ gx_B := gx_mem 104 (by decide +kernel) rfl
theorem hw_107 : (.fieldLink "TapeSealer$Cartridge" 16 "TapeSealer$Cartridge" "spoiled" "[Z" : Cond) ∈ gx_B := gx_mem 107 (by decide +kernel) rfl
theorem hw_112 : (.fieldLink "TapeSealer$Cartridge" 20 "TapeSealer$Cartridge" "writesLeft" "I" : Cond) ∈ gx_B := gx_mem 112 (by decide +kernel) rfl
theorem hw_132 : (.arrayClass .boolean : Cond) ∈ gx_B := gx_mem 132 (by decide +kernel) rfl
theorem hw_138 : (.methodLink "TapeSealer$Epochs" 3 ⟨"java/lang/Object", "<init>", "()V"⟩ : Cond) ∈ gx_B := gx_mem 138 (by decide +kernel) rfl
theorem hw_139 : (.classLink "TapeSealer$Epochs" 9 "[[I" : Cond) ∈ gx_B := gx_mem 139 (by decide +kernel) rfl
theorem hw_140 : (.fieldLink "TapeSealer$Epochs" 11 "TapeSealer$Epochs" "keys" "[[I" : Cond) ∈ gx_B := gx_mem 140 (by decide +kernel) rfl
theorem hw_142 : (.fieldLink "TapeSealer$Epochs" 16 "TapeSealer$Epochs" "dropped" "[Z" : Cond) ∈ gx_B := gx_mem 142 (by decide +kernel) rfl
theorem hw_157 : (.methodLink "TapeSealer$Sealing" 3 ⟨"java/lang/Object", "<init>", "()V"⟩ : Cond) ∈ gx_B := gx_mem 157 (by decide +kernel) rfl
theorem hw_158 : (.classLink "TapeSealer$Sealing" 9 "TapeSealer$KeyStream" : Cond) ∈ gx_B := gx_mem 158 (by decide +kernel) rfl
theorem hw_159 : (.instantiable "TapeSealer$KeyStream" 3 : Cond) ∈ gx_B := gx_mem 159 (by decide +kernel) rfl
theorem hw_161 : (.instanceMethod ⟨"TapeSealer$KeyStream", "<init>", "()V"⟩ : Cond) ∈ gx_B := gx_mem 161 (by decide +kernel) rfl
theorem hw_175 : (.classLink "TapeSealer$Sealing" 18 "TapeSealer$Authenticator" : Cond) ∈ gx_B := gx_mem 175 (by decide +kernel) rfl
theorem hw_176 : (.instantiable "TapeSealer$Authenticator" 5 : Cond) ∈ gx_B := gx_mem 176 (by decide +kernel) rfl
theorem hw_178 : (.instanceMethod ⟨"TapeSealer$Authenticator", "<init>", "()V"⟩ : Cond) ∈ gx_B := gx_mem 178 (by decide +kernel) rfl
theorem hw_199 : (.fieldLink "TapeSealer$Sealing" 12 "TapeSealer$Sealing" "stream" "LTapeSealer$KeyStream;" : Cond) ∈ gx_B := gx_mem 199 (by decide +kernel) rfl
theorem hw_200 : (.fieldLink "TapeSealer$Sealing" 21 "TapeSealer$Sealing" "check" "LTapeSealer$Authenticator;" : Cond) ∈ gx_B := gx_mem 200 (by decide +kernel) rfl
theorem hw_201 : (.fieldLink "TapeSealer$Sealing" 25 "TapeSealer$Sealing" "nonce" "[I" : Cond) ∈ gx_B := gx_mem 201 (by decide +kernel) rfl
theorem hw_202 : (.fieldLink "TapeSealer$Sealing" 29 "TapeSealer$Sealing" "saltRow" "[I" : Cond) ∈ gx_B := gx_mem 202 (by decide +kernel) rfl
theorem hw_203 : (.fieldLink "TapeSealer$Sealing" 32 "TapeSealer$Sealing" "lengths" "[I" : Cond) ∈ gx_B := gx_mem 203 (by decide +kernel) rfl
theorem hw_220 : (.methodLink "TapeSealer$Stripe" 3 ⟨"java/lang/Object", "<init>", "()V"⟩ : Cond) ∈ gx_B := gx_mem 220 (by decide +kernel) rfl
theorem hw_221 : (.classLink "TapeSealer$Stripe" 9 "[[I" : Cond) ∈ gx_B := gx_mem 221 (by decide +kernel) rfl
theorem hw_222 : (.fieldLink "TapeSealer$Stripe" 11 "TapeSealer$Stripe" "rows" "[[I" : Cond) ∈ gx_B := gx_mem 222 (by decide +kernel) rfl
theorem hw_224 : (.fieldLink "TapeSealer$Stripe" 16 "TapeSealer$Stripe" "bad" "[Z" : Cond) ∈ gx_B := gx_mem 224 (by decide +kernel) rfl
theorem hw_226 : (.fieldLink "TapeSealer$Stripe" 24 "TapeSealer$Stripe" "tape" "LTapeSealer$Cartridge;" : Cond) ∈ gx_B := gx_mem 226 (by decide +kernel) rfl
theorem hw_227 : (.fieldLink "TapeSealer$Stripe" 28 "TapeSealer$Stripe" "sealing" "LTapeSealer$Sealing;" : Cond) ∈ gx_B := gx_mem 227 (by decide +kernel) rfl
theorem hw_228 : (.fieldLink "TapeSealer$Stripe" 20 "TapeSealer$Stripe" "base" "I" : Cond) ∈ gx_B := gx_mem 228 (by decide +kernel) rfl
end
section
theorem d_Ca_init_0 : decode b_Ca_init 0 = .ok (.aload_n 0, 1) := by decide +kernel
theorem d_Ca_init_1 : decode b_Ca_init 1 = .ok (.invokespecial 3, 3) := by decide +kernel
theorem d_Ca_init_13 : decode b_Ca_init 13 = .ok (.putfield 11, 3) := by decide +kernel
theorem d_Ca_init_16 : decode b_Ca_init 16 = .ok (.aload_n 0, 1) := by decide +kernel
theorem d_Ca_init_17 : decode b_Ca_init 17 = .ok (.bipush 44, 2) := by decide +kernel
theorem d_Ca_init_19 : decode b_Ca_init 19 = .ok (.newarray .boolean, 2) := by decide +kernel
theorem d_Ca_init_21 : decode b_Ca_init 21 = .ok (.putfield 16, 3) := by decide +kernel
theorem d_Ca_init_24 : decode b_Ca_init 24 = .ok (.aload_n 0, 1) := by decide +kernel
theorem d_Ca_init_25 : decode b_Ca_init 25 = .ok (.iconst (-1), 1) := by decide +kernel
theorem d_Ca_init_26 : decode b_Ca_init 26 = .ok (.putfield 20, 3) := by decide +kernel
theorem d_Ca_init_29 : decode b_Ca_init 29 = .ok (.return_, 1) := by decide +kernel
theorem d_Ca_init_4 : decode b_Ca_init 4 = .ok (.aload_n 0, 1) := by decide +kernel
theorem d_Ca_init_5 : decode b_Ca_init 5 = .ok (.bipush 44, 2) := by decide +kernel
theorem d_Ca_init_7 : decode b_Ca_init 7 = .ok (.bipush 64, 2) := by decide +kernel
theorem d_Ca_init_9 : decode b_Ca_init 9 = .ok (.multianewarray 9 2, 4) := by decide +kernel
theorem d_Ep_init_0 : decode b_Ep_init 0 = .ok (.aload_n 0, 1) := by decide +kernel
theorem d_Ep_init_1 : decode b_Ep_init 1 = .ok (.invokespecial 3, 3) := by decide +kernel
theorem d_Ep_init_13 : decode b_Ep_init 13 = .ok (.putfield 11, 3) := by decide +kernel
theorem d_Ep_init_16 : decode b_Ep_init 16 = .ok (.aload_n 0, 1) := by decide +kernel
theorem d_Ep_init_17 : decode b_Ep_init 17 = .ok (.bipush 10, 2) := by decide +kernel
theorem d_Ep_init_19 : decode b_Ep_init 19 = .ok (.newarray .boolean, 2) := by decide +kernel
theorem d_Ep_init_21 : decode b_Ep_init 21 = .ok (.putfield 16, 3) := by decide +kernel
theorem d_Ep_init_24 : decode b_Ep_init 24 = .ok (.return_, 1) := by decide +kernel
theorem d_Ep_init_4 : decode b_Ep_init 4 = .ok (.aload_n 0, 1) := by decide +kernel
theorem d_Ep_init_5 : decode b_Ep_init 5 = .ok (.bipush 10, 2) := by decide +kernel
theorem d_Ep_init_7 : decode b_Ep_init 7 = .ok (.bipush 32, 2) := by decide +kernel
theorem d_Ep_init_9 : decode b_Ep_init 9 = .ok (.multianewarray 9 2, 4) := by decide +kernel
theorem d_Se_init_0 : decode b_Se_init 0 = .ok (.aload_n 0, 1) := by decide +kernel
theorem d_Se_init_1 : decode b_Se_init 1 = .ok (.invokespecial 3, 3) := by decide +kernel
theorem d_Se_init_12 : decode b_Se_init 12 = .ok (.putfield 12, 3) := by decide +kernel
theorem d_Se_init_15 : decode b_Se_init 15 = .ok (.aload_n 0, 1) := by decide +kernel
theorem d_Se_init_16 : decode b_Se_init 16 = .ok (.new 18, 3) := by decide +kernel
theorem d_Se_init_19 : decode b_Se_init 19 = .ok (.dup, 1) := by decide +kernel
theorem d_Se_init_20 : decode b_Se_init 20 = .ok (.invokespecial 20, 3) := by decide +kernel
theorem d_Se_init_23 : decode b_Se_init 23 = .ok (.putfield 21, 3) := by decide +kernel
theorem d_Se_init_26 : decode b_Se_init 26 = .ok (.aload_n 0, 1) := by decide +kernel
theorem d_Se_init_27 : decode b_Se_init 27 = .ok (.bipush 12, 2) := by decide +kernel
theorem d_Se_init_29 : decode b_Se_init 29 = .ok (.newarray .int, 2) := by decide +kernel
theorem d_Se_init_31 : decode b_Se_init 31 = .ok (.putfield 25, 3) := by decide +kernel
theorem d_Se_init_34 : decode b_Se_init 34 = .ok (.aload_n 0, 1) := by decide +kernel
theorem d_Se_init_35 : decode b_Se_init 35 = .ok (.iconst 4, 1) := by decide +kernel
theorem d_Se_init_36 : decode b_Se_init 36 = .ok (.newarray .int, 2) := by decide +kernel
theorem d_Se_init_38 : decode b_Se_init 38 = .ok (.putfield 29, 3) := by decide +kernel
theorem d_Se_init_4 : decode b_Se_init 4 = .ok (.aload_n 0, 1) := by decide +kernel
theorem d_Se_init_41 : decode b_Se_init 41 = .ok (.aload_n 0, 1) := by decide +kernel
theorem d_Se_init_42 : decode b_Se_init 42 = .ok (.bipush 16, 2) := by decide +kernel
theorem d_Se_init_44 : decode b_Se_init 44 = .ok (.newarray .int, 2) := by decide +kernel
theorem d_Se_init_46 : decode b_Se_init 46 = .ok (.putfield 32, 3) := by decide +kernel
theorem d_Se_init_49 : decode b_Se_init 49 = .ok (.return_, 1) := by decide +kernel
theorem d_Se_init_5 : decode b_Se_init 5 = .ok (.new 9, 3) := by decide +kernel
theorem d_Se_init_8 : decode b_Se_init 8 = .ok (.dup, 1) := by decide +kernel
theorem d_Se_init_9 : decode b_Se_init 9 = .ok (.invokespecial 11, 3) := by decide +kernel
theorem d_St_init_0 : decode b_St_init 0 = .ok (.aload_n 0, 1) := by decide +kernel
theorem d_St_init_1 : decode b_St_init 1 = .ok (.invokespecial 3, 3) := by decide +kernel
theorem d_St_init_13 : decode b_St_init 13 = .ok (.putfield 11, 3) := by decide +kernel
theorem d_St_init_16 : decode b_St_init 16 = .ok (.aload_n 0, 1) := by decide +kernel
theorem d_St_init_17 : decode b_St_init 17 = .ok (.iconst 4, 1) := by decide +kernel
theorem d_St_init_18 : decode b_St_init 18 = .ok (.newarray .boolean, 2) := by decide +kernel
theorem d_St_init_20 : decode b_St_init 20 = .ok (.putfield 16, 3) := by decide +kernel
theorem d_St_init_23 : decode b_St_init 23 = .ok (.aload_n 0, 1) := by decide +kernel
end
section
theorem d_St_init_24 : decode b_St_init 24 = .ok (.bipush 8, 2) := by decide +kernel
theorem d_St_init_26 : decode b_St_init 26 = .ok (.putfield 20, 3) := by decide +kernel
theorem d_St_init_29 : decode b_St_init 29 = .ok (.aload_n 0, 1) := by decide +kernel
theorem d_St_init_30 : decode b_St_init 30 = .ok (.aload_n 1, 1) := by decide +kernel
theorem d_St_init_31 : decode b_St_init 31 = .ok (.putfield 24, 3) := by decide +kernel
theorem d_St_init_34 : decode b_St_init 34 = .ok (.aload_n 0, 1) := by decide +kernel
theorem d_St_init_35 : decode b_St_init 35 = .ok (.aload_n 2, 1) := by decide +kernel
theorem d_St_init_36 : decode b_St_init 36 = .ok (.putfield 28, 3) := by decide +kernel
theorem d_St_init_39 : decode b_St_init 39 = .ok (.return_, 1) := by decide +kernel
theorem d_St_init_4 : decode b_St_init 4 = .ok (.aload_n 0, 1) := by decide +kernel
theorem d_St_init_5 : decode b_St_init 5 = .ok (.bipush 6, 2) := by decide +kernel
theorem d_St_init_7 : decode b_St_init 7 = .ok (.bipush 64, 2) := by decide +kernel
theorem d_St_init_9 : decode b_St_init 9 = .ok (.multianewarray 9 2, 4) := by decide +kernel
end
section
set_option maxHeartbeats 4000000 in
set_option maxRecDepth 100000 in
theorem c_Ep_init (l : Launch) (dC : Nat → ClassId) (dI : Nat → Nat → Nat) (aS aT : Nat) (cS cT : Cell) (h0 sz : Nat) : Met l y_Ep_init w_Ep_init ({ frames := 1, cells := 12, slots := 340, locals := 20 }) (va_Pc [.ref h0] (fun U => U.heap.size = sz ∧ va_P (dC, dI) gx_cl [(h0, .inr (3, [.null, .null, .int 0]))] U.heap ∧ va_K (dC, dI) gx_cl [] U ∧ va_D (fun _ => True) [(h0, .inr (3, [.null, .null, .int 0]))] ∧ jx aS aT cS cT U)) (va_Qv (fun _ : Unit => True) (fun _ t => ∃ (q q9 : Nat), va_P (dC, dI) gx_cl [(h0, .inr (3, [.ref q, .ref q9, .int 0]))] t.heap ∧ va_D (va_A [(h0, .inr (3, [.null, .null, .int 0]))] sz) [(h0, .inr (3, [.ref q, .ref q9, .int 0]))]) (va_A [(h0, .inr (3, [.null, .null, .int 0]))] sz)) 12 340 (va_A [(h0, .inr (3, [.null, .null, .int 0]))] sz) := by
  refine Met.ofW (cc := b_Ep_init) (maxL := 1) (ret := none) (by decide) rfl ?_
  intro p e s m args below meth c s₁ B hml hv
  obtain ⟨rfl, hsz, hP, hK, hD0, hJ⟩ := hv
  have hx := B.exec
  have hb := B.bytes
  have hr := B.returns
  have hts := atoms_spec (ws := w_Ep_init) B.pre
  have hB : ∀ w ∈ gx_B, w.before _ s = true := fun w h => hts w (List.mem_cons_of_mem _ h)
  have hown : s.vm.findClass REp = some m.cls := findClass_of_methodNamed B.named
  have hlocks := B.notSynchronized
  have hin : meth.name = "<init>" := (name_of_methodNamed B.named B.method).1
  subst hsz
  have haS := (Array.getElem?_eq_some_iff.mp hJ.2.2.2.2.2.1).1
  have haT := (Array.getElem?_eq_some_iff.mp hJ.2.2.2.2.2.2).1
  have hoS : ¬ va_A [(h0, .inr (3, [.null, .null, .int 0]))] s.heap.size aS := jx_off hP hJ.2.2.2.2.2.1 hJ.2.2.2.1.stat haS
  have hoT : ¬ va_A [(h0, .inr (3, [.null, .null, .int 0]))] s.heap.size aT := jx_off hP hJ.2.2.2.2.2.2 hJ.2.2.2.2.1.stat haT
  have hD := hD0.self (sz := s.heap.size)
  generalize hAe : va_A [(h0, .inr (3, [.null, .null, .int 0]))] s.heap.size = A at hD hoS hoT ⊢
  have hA : ∀ q : Nat, s.heap.size ≤ q → A q := fun q h => by rw [← hAe]; exact Or.inr h
  have hS : va_S A s.heap s.heap [] := va_S.rf
  have hP : va_P (dC, dI) gx_cl [(h0, .inr (3, [.null, .null, .int 0]))] s.heap := hP
  have hl := lv_entry ([.ref h0]) (n := 1) (Nat.le_of_ble_eq_true rfl)
  rw [lg_entry_eq]
  generalize (lg_sl ([.ref h0]) ++ List.replicate (1 - (lg_sl ([.ref h0])).length) Slot.unset).toArray = ls at hl ⊢
  have hl : lv_has ls 1 [(0, .ref h0)] := hl
  refine lv_aload_n hx hb d_Ep_init_0 rfl (lv_at hl 0 rfl) ?_
  refine W.objInit hx hb hown (hB _ hw_138) (hB _ hw_94) (hB _ hw_oc) rfl (by rw [hml]; exact hl.1) rfl d_Ep_init_1 (Nat.le_of_ble_eq_true rfl) (Nat.le_of_ble_eq_true rfl) ?_
  refine W.eq (g2 := F0 m 4 ls []) rfl ?_
  refine lv_aload_n hx hb d_Ep_init_4 rfl (lv_at hl 0 rfl) ?_
  refine lv_bipush (v := 10) hx hb d_Ep_init_5 (by decide) ?_
  refine lv_bipush (v := 32) hx hb d_Ep_init_7 (by decide) ?_
  refine mx_newD (D := (dC, dI)) (N := 10) (M := 32) hx hb hown (hB _ hw_139) hJ.2.1 (hB _ hw_131) hP hS (by decide) (by decide) rfl rfl (by decide) (by decide) (Nat.le_of_ble_eq_true rfl) (Nat.le_of_ble_eq_true rfl) d_Ep_init_9 (fun q1 H hP hS => ?_)
  have hP : va_P (dC, dI) gx_cl [(h0, .inr (3, [.null, .null, .int 0]))] H := hP
  have hD : va_D A [(h0, .inr (3, [.null, .null, .int 0]))] := hD
  refine W.widen (k := 11) (n := 330) (Nat.le_of_ble_eq_true rfl) (Nat.le_of_ble_eq_true rfl) ?_
  refine va_putF (D := (dC, dI)) (ci := 3) (v := .ref q1) (ty := .array (.array .int)) (C := REp) (T := FEp) (N := 3) hx hb hB in_Ep tEp tEp_ok nEp hown hK hP hD hS 0 rfl rfl 0 (by decide) (hB _ hw_140) (fun _ h9 => h9) rfl hin rfl (by decide +kernel) rfl rfl (Nat.le_of_ble_eq_true rfl) d_Ep_init_13 (fun H locs hP hD hS => ?_)
  have hP : va_P (dC, dI) gx_cl [(h0, .inr (3, [.ref q1, .null, .int 0]))] H := hP
  have hD : va_D A [(h0, .inr (3, [.ref q1, .null, .int 0]))] := hD
  refine lv_aload_n hx hb d_Ep_init_16 rfl (lv_at hl 0 rfl) ?_
  refine lv_bipush (v := 10) hx hb d_Ep_init_17 (by decide) ?_
  refine va_newa (D := (dC, dI)) (atype := .boolean) (a0 := (10, .inl (fun _ => 0))) (ty := .boolean) hx hb (hB _ hw_132) rfl hK hP hD hS hA (fun _ => rfl) (by decide) (N' := 10) rfl (by decide) (Nat.le_of_ble_eq_true rfl) (Nat.le_of_ble_eq_true rfl) d_Ep_init_19 (fun q2 cA3 H hK hP hD hS => ?_)
  have hP : va_P (dC, dI) gx_cl [(h0, .inr (3, [.ref q1, .null, .int 0])), (q2, .inl (cA3, 10, .inl (fun _ => 0)))] H := hP
  have hD : va_D A [(h0, .inr (3, [.ref q1, .null, .int 0])), (q2, .inl (cA3, 10, .inl (fun _ => 0)))] := hD
  have hK : va_K (dC, dI) gx_cl [(cA3, .boolean)] s := hK
  refine W.widen (k := 12) (n := 340) (Nat.le_of_ble_eq_true rfl) (Nat.le_of_ble_eq_true rfl) ?_
  refine va_putF (D := (dC, dI)) (ci := 3) (v := .ref q2) (ty := .array .boolean) (C := REp) (T := FEp) (N := 3) hx hb hB in_Ep tEp tEp_ok nEp hown hK hP hD hS 0 rfl rfl 1 (by decide) (hB _ hw_142) (fun _ h9 => h9) rfl hin rfl (by decide +kernel) rfl rfl (Nat.le_of_ble_eq_true rfl) d_Ep_init_21 (fun H locs hP hD hS => ?_)
  have hP : va_P (dC, dI) gx_cl [(h0, .inr (3, [.ref q1, .ref q2, .int 0])), (q2, .inl (cA3, 10, .inl (fun _ => 0)))] H := hP
  have hD : va_D A [(h0, .inr (3, [.ref q1, .ref q2, .int 0])), (q2, .inl (cA3, 10, .inl (fun _ => 0)))] := hD
  have hP := hP.sub (ws' := [(h0, .inr (3, [.ref q1, .ref q2, .int 0]))]) [0] rfl
  have hD := hD.sub (ws' := [(h0, .inr (3, [.ref q1, .ref q2, .int 0]))]) [0] (by decide) rfl
  have hK := hK.sub (tys' := []) [] rfl
  refine W.widen (k := 12) (n := 340) (Nat.le_of_ble_eq_true rfl) (Nat.le_of_ble_eq_true rfl) ?_
  exact W.vret hx hb hr (fun t ht hW => ⟨⟨(), rfl, trivial, q1, q2, by rw [ht]; exact hP, hD⟩, hS.F ht⟩) hS.2.2 d_Ep_init_24
set_option maxHeartbeats 4000000 in
set_option maxRecDepth 100000 in
theorem c_St_init (l : Launch) (dC : Nat → ClassId) (dI : Nat → Nat → Nat) (aS aT : Nat) (cS cT : Cell) (h0 sz : Nat) (ta : Nat) (se : Nat) : Met l y_St_init w_St_init ({ frames := 1, cells := 8, slots := 394, locals := 20 }) (va_Pc [.ref h0, .ref ta, .ref se] (fun U => U.heap.size = sz ∧ va_P (dC, dI) gx_cl [(h0, .inr (7, [.null, .null, .null, .null, .int 0]))] U.heap ∧ va_K (dC, dI) gx_cl [] U ∧ va_D (fun _ => True) [(h0, .inr (7, [.null, .null, .null, .null, .int 0]))] ∧ jx aS aT cS cT U)) (va_Qv (fun _ : Unit => True) (fun _ t => True) (va_A [(h0, .inr (7, [.null, .null, .null, .null, .int 0]))] sz)) 8 394 (va_A [(h0, .inr (7, [.null, .null, .null, .null, .int 0]))] sz) := by
  refine Met.ofW (cc := b_St_init) (maxL := 3) (ret := none) (by decide) rfl ?_
  intro p e s m args below meth c s₁ B hml hv
  obtain ⟨rfl, hsz, hP, hK, hD0, hJ⟩ := hv
  have hx := B.exec
  have hb := B.bytes
  have hr := B.returns
  have hts := atoms_spec (ws := w_St_init) B.pre
  have hB : ∀ w ∈ gx_B, w.before _ s = true := fun w h => hts w (List.mem_cons_of_mem _ h)
  have hown : s.vm.findClass RSt = some m.cls := findClass_of_methodNamed B.named
  have hlocks := B.notSynchronized
  have hin : meth.name = "<init>" := (name_of_methodNamed B.named B.method).1
  subst hsz
  have haS := (Array.getElem?_eq_some_iff.mp hJ.2.2.2.2.2.1).1
  have haT := (Array.getElem?_eq_some_iff.mp hJ.2.2.2.2.2.2).1
  have hoS : ¬ va_A [(h0, .inr (7, [.null, .null, .null, .null, .int 0]))] s.heap.size aS := jx_off hP hJ.2.2.2.2.2.1 hJ.2.2.2.1.stat haS
  have hoT : ¬ va_A [(h0, .inr (7, [.null, .null, .null, .null, .int 0]))] s.heap.size aT := jx_off hP hJ.2.2.2.2.2.2 hJ.2.2.2.2.1.stat haT
  have hD := hD0.self (sz := s.heap.size)
  generalize hAe : va_A [(h0, .inr (7, [.null, .null, .null, .null, .int 0]))] s.heap.size = A at hD hoS hoT ⊢
  have hA : ∀ q : Nat, s.heap.size ≤ q → A q := fun q h => by rw [← hAe]; exact Or.inr h
  have hS : va_S A s.heap s.heap [] := va_S.rf
  have hP : va_P (dC, dI) gx_cl [(h0, .inr (7, [.null, .null, .null, .null, .int 0]))] s.heap := hP
  have hl := lv_entry ([.ref h0, .ref ta, .ref se]) (n := 3) (Nat.le_of_ble_eq_true rfl)
  rw [lg_entry_eq]
  generalize (lg_sl ([.ref h0, .ref ta, .ref se]) ++ List.replicate (3 - (lg_sl ([.ref h0, .ref ta, .ref se])).length) Slot.unset).toArray = ls at hl ⊢
  have hl : lv_has ls 3 [(0, .ref h0), (1, .ref ta), (2, .ref se)] := hl
  refine lv_aload_n hx hb d_St_init_0 rfl (lv_at hl 0 rfl) ?_
  refine W.objInit hx hb hown (hB _ hw_220) (hB _ hw_94) (hB _ hw_oc) rfl (by rw [hml]; exact hl.1) rfl d_St_init_1 (Nat.le_of_ble_eq_true rfl) (Nat.le_of_ble_eq_true rfl) ?_
  refine W.eq (g2 := F0 m 4 ls []) rfl ?_
  refine lv_aload_n hx hb d_St_init_4 rfl (lv_at hl 0 rfl) ?_
  refine lv_bipush (v := 6) hx hb d_St_init_5 (by decide) ?_
  refine lv_bipush (v := 64) hx hb d_St_init_7 (by decide) ?_
  refine mx_newD (D := (dC, dI)) (N := 6) (M := 64) hx hb hown (hB _ hw_221) hJ.2.1 (hB _ hw_131) hP hS (by decide) (by decide) rfl rfl (by decide) (by decide) (Nat.le_of_ble_eq_true rfl) (Nat.le_of_ble_eq_true rfl) d_St_init_9 (fun q1 H hP hS => ?_)
  have hP : va_P (dC, dI) gx_cl [(h0, .inr (7, [.null, .null, .null, .null, .int 0]))] H := hP
  have hD : va_D A [(h0, .inr (7, [.null, .null, .null, .null, .int 0]))] := hD
  refine W.widen (k := 7) (n := 390) (Nat.le_of_ble_eq_true rfl) (Nat.le_of_ble_eq_true rfl) ?_
  refine va_putF (D := (dC, dI)) (ci := 7) (v := .ref q1) (ty := .array (.array .int)) (C := RSt) (T := FSt) (N := 5) hx hb hB in_St tSt tSt_ok nSt hown hK hP hD hS 0 rfl rfl 0 (by decide) (hB _ hw_222) (fun _ h9 => h9) rfl hin rfl (by decide +kernel) rfl rfl (Nat.le_of_ble_eq_true rfl) d_St_init_13 (fun H locs hP hD hS => ?_)
  have hP : va_P (dC, dI) gx_cl [(h0, .inr (7, [.ref q1, .null, .null, .null, .int 0]))] H := hP
  have hD : va_D A [(h0, .inr (7, [.ref q1, .null, .null, .null, .int 0]))] := hD
  refine lv_aload_n hx hb d_St_init_16 rfl (lv_at hl 0 rfl) ?_
  refine lv_iconst (v := 4) hx hb d_St_init_17 (by decide) ?_
  refine va_newa (D := (dC, dI)) (atype := .boolean) (a0 := (4, .inl (fun _ => 0))) (ty := .boolean) hx hb (hB _ hw_132) rfl hK hP hD hS hA (fun _ => rfl) (by decide) (N' := 4) rfl (by decide) (Nat.le_of_ble_eq_true rfl) (Nat.le_of_ble_eq_true rfl) d_St_init_18 (fun q2 cA3 H hK hP hD hS => ?_)
  have hP : va_P (dC, dI) gx_cl [(h0, .inr (7, [.ref q1, .null, .null, .null, .int 0])), (q2, .inl (cA3, 4, .inl (fun _ => 0)))] H := hP
  have hD : va_D A [(h0, .inr (7, [.ref q1, .null, .null, .null, .int 0])), (q2, .inl (cA3, 4, .inl (fun _ => 0)))] := hD
  have hK : va_K (dC, dI) gx_cl [(cA3, .boolean)] s := hK
  refine W.widen (k := 8) (n := 394) (Nat.le_of_ble_eq_true rfl) (Nat.le_of_ble_eq_true rfl) ?_
  refine va_putF (D := (dC, dI)) (ci := 7) (v := .ref q2) (ty := .array .boolean) (C := RSt) (T := FSt) (N := 5) hx hb hB in_St tSt tSt_ok nSt hown hK hP hD hS 0 rfl rfl 1 (by decide) (hB _ hw_224) (fun _ h9 => h9) rfl hin rfl (by decide +kernel) rfl rfl (Nat.le_of_ble_eq_true rfl) d_St_init_20 (fun H locs hP hD hS => ?_)
  have hP : va_P (dC, dI) gx_cl [(h0, .inr (7, [.ref q1, .ref q2, .null, .null, .int 0])), (q2, .inl (cA3, 4, .inl (fun _ => 0)))] H := hP
  have hD : va_D A [(h0, .inr (7, [.ref q1, .ref q2, .null, .null, .int 0])), (q2, .inl (cA3, 4, .inl (fun _ => 0)))] := hD
  have hP := hP.sub (ws' := [(h0, .inr (7, [.ref q1, .ref q2, .null, .null, .int 0]))]) [0] rfl
  have hD := hD.sub (ws' := [(h0, .inr (7, [.ref q1, .ref q2, .null, .null, .int 0]))]) [0] (by decide) rfl
  have hK := hK.sub (tys' := []) [] rfl
  refine lv_aload_n hx hb d_St_init_23 rfl (lv_at hl 0 rfl) ?_
  refine lv_bipush (v := 8) hx hb d_St_init_24 (by decide) ?_
  refine va_put (D := (dC, dI)) (ci := 7) (v := .int 8) (ty := .int) (C := RSt) (T := FSt) (N := 5) hx hb hB in_St tSt tSt_ok nSt hown hK hP hD hS 0 rfl rfl 4 (by decide) (hB _ hw_228) (fun _ h9 => h9) rfl (by decide +kernel) rfl rfl (Nat.le_of_ble_eq_true rfl) d_St_init_26 (fun H locs hP hD hS => ?_)
  have hP : va_P (dC, dI) gx_cl [(h0, .inr (7, [.ref q1, .ref q2, .null, .null, .int 8]))] H := hP
  have hD : va_D A [(h0, .inr (7, [.ref q1, .ref q2, .null, .null, .int 8]))] := hD
  refine lv_aload_n hx hb d_St_init_29 rfl (lv_at hl 0 rfl) ?_
  refine lv_aload_n hx hb d_St_init_30 rfl (lv_at hl 1 rfl) ?_
  refine va_putF (D := (dC, dI)) (ci := 7) (v := .ref ta) (ty := .object "TapeSealer$Cartridge") (C := RSt) (T := FSt) (N := 5) hx hb hB in_St tSt tSt_ok nSt hown hK hP hD hS 0 rfl rfl 2 (by decide) (hB _ hw_226) (fun _ h9 => h9) rfl hin rfl (by decide +kernel) rfl rfl (Nat.le_of_ble_eq_true rfl) d_St_init_31 (fun H locs hP hD hS => ?_)
  have hP : va_P (dC, dI) gx_cl [(h0, .inr (7, [.ref q1, .ref q2, .ref ta, .null, .int 8]))] H := hP
  have hD : va_D A [(h0, .inr (7, [.ref q1, .ref q2, .ref ta, .null, .int 8]))] := hD
  refine lv_aload_n hx hb d_St_init_34 rfl (lv_at hl 0 rfl) ?_
  refine lv_aload_n hx hb d_St_init_35 rfl (lv_at hl 2 rfl) ?_
  refine va_putF (D := (dC, dI)) (ci := 7) (v := .ref se) (ty := .object "TapeSealer$Sealing") (C := RSt) (T := FSt) (N := 5) hx hb hB in_St tSt tSt_ok nSt hown hK hP hD hS 0 rfl rfl 3 (by decide) (hB _ hw_227) (fun _ h9 => h9) rfl hin rfl (by decide +kernel) rfl rfl (Nat.le_of_ble_eq_true rfl) d_St_init_36 (fun H locs hP hD hS => ?_)
  have hP : va_P (dC, dI) gx_cl [(h0, .inr (7, [.ref q1, .ref q2, .ref ta, .ref se, .int 8]))] H := hP
  have hD : va_D A [(h0, .inr (7, [.ref q1, .ref q2, .ref ta, .ref se, .int 8]))] := hD
  refine W.widen (k := 8) (n := 394) (Nat.le_of_ble_eq_true rfl) (Nat.le_of_ble_eq_true rfl) ?_
  exact W.vret hx hb hr (fun t ht hW => ⟨⟨(), rfl, trivial, trivial⟩, hS.F ht⟩) hS.2.2 d_St_init_39
set_option maxHeartbeats 4000000 in
set_option maxRecDepth 100000 in
theorem c_Se_init (l : Launch) (dC : Nat → ClassId) (dI : Nat → Nat → Nat) (aS aT : Nat) (cS cT : Cell) (h0 sz : Nat) : Met l y_Se_init w_Se_init ({ frames := 2, cells := 13, slots := 183, locals := 40 }) (va_Pc [.ref h0] (fun U => U.heap.size = sz ∧ va_P (dC, dI) gx_cl [(h0, .inr (6, [.null, .null, .null, .null, .null]))] U.heap ∧ va_K (dC, dI) gx_cl [] U ∧ va_D (fun _ => True) [(h0, .inr (6, [.null, .null, .null, .null, .null]))] ∧ jx aS aT cS cT U)) (va_Qv (fun _ : Unit => True) (fun _ t => True) (va_A [(h0, .inr (6, [.null, .null, .null, .null, .null]))] sz)) 13 183 (va_A [(h0, .inr (6, [.null, .null, .null, .null, .null]))] sz) := by
  refine Met.ofW (cc := b_Se_init) (maxL := 1) (ret := none) (by decide) rfl ?_
  intro p e s m args below meth c s₁ B hml hv
  obtain ⟨rfl, hsz, hP, hK, hD0, hJ⟩ := hv
  have hx := B.exec
  have hb := B.bytes
  have hr := B.returns
  have hts := atoms_spec (ws := w_Se_init) B.pre
  have hB : ∀ w ∈ gx_B, w.before _ s = true := fun w h => hts w (List.mem_cons_of_mem _ h)
  have hown : s.vm.findClass RSe = some m.cls := findClass_of_methodNamed B.named
  have hlocks := B.notSynchronized
  have hin : meth.name = "<init>" := (name_of_methodNamed B.named B.method).1
  subst hsz
  have haS := (Array.getElem?_eq_some_iff.mp hJ.2.2.2.2.2.1).1
  have haT := (Array.getElem?_eq_some_iff.mp hJ.2.2.2.2.2.2).1
  have hoS : ¬ va_A [(h0, .inr (6, [.null, .null, .null, .null, .null]))] s.heap.size aS := jx_off hP hJ.2.2.2.2.2.1 hJ.2.2.2.1.stat haS
  have hoT : ¬ va_A [(h0, .inr (6, [.null, .null, .null, .null, .null]))] s.heap.size aT := jx_off hP hJ.2.2.2.2.2.2 hJ.2.2.2.2.1.stat haT
  have hD := hD0.self (sz := s.heap.size)
  generalize hAe : va_A [(h0, .inr (6, [.null, .null, .null, .null, .null]))] s.heap.size = A at hD hoS hoT ⊢
  have hA : ∀ q : Nat, s.heap.size ≤ q → A q := fun q h => by rw [← hAe]; exact Or.inr h
  have hS : va_S A s.heap s.heap [] := va_S.rf
  have hP : va_P (dC, dI) gx_cl [(h0, .inr (6, [.null, .null, .null, .null, .null]))] s.heap := hP
  have hl := lv_entry ([.ref h0]) (n := 1) (Nat.le_of_ble_eq_true rfl)
  rw [lg_entry_eq]
  generalize (lg_sl ([.ref h0]) ++ List.replicate (1 - (lg_sl ([.ref h0])).length) Slot.unset).toArray = ls at hl ⊢
  have hl : lv_has ls 1 [(0, .ref h0)] := hl
  refine lv_aload_n hx hb d_Se_init_0 rfl (lv_at hl 0 rfl) ?_
  refine W.objInit hx hb hown (hB _ hw_157) (hB _ hw_94) (hB _ hw_oc) rfl (by rw [hml]; exact hl.1) rfl d_Se_init_1 (Nat.le_of_ble_eq_true rfl) (Nat.le_of_ble_eq_true rfl) ?_
  refine W.eq (g2 := F0 m 4 ls []) rfl ?_
  refine lv_aload_n hx hb d_Se_init_4 rfl (lv_at hl 0 rfl) ?_
  refine va_new (D := (dC, dI)) (ci := 4) (fs := [.null, .null, .null]) (C := RKs) (T := FKs) (N := 3) hx hb hB in_Ks tKs tKs_ok hown (hB _ hw_158) (hB _ hw_159) (hB _ hw_70) hK hP hD hS hA rfl (fun j hj => by rcases (show j = 0 ∨ j = 1 ∨ j = 2 by omega) with rfl | rfl | rfl <;> rfl) (Nat.le_of_ble_eq_true rfl) (Nat.le_of_ble_eq_true rfl) d_Se_init_5 (fun q1 H hP hD hS => ?_)
  have hP : va_P (dC, dI) gx_cl [(h0, .inr (6, [.null, .null, .null, .null, .null])), (q1, .inr (4, [.null, .null, .null]))] H := hP
  have hD : va_D A [(h0, .inr (6, [.null, .null, .null, .null, .null])), (q1, .inr (4, [.null, .null, .null]))] := hD
  refine W.widen (k := 1) (n := 3) (Nat.le_of_ble_eq_true rfl) (Nat.le_of_ble_eq_true rfl) ?_
  refine lv_dup hx hb d_Se_init_8 rfl ?_
  have hPc := hP.sub (ws' := [(q1, .inr (4, [.null, .null, .null]))]) [1] rfl
  have hDc := hD.sub (ws' := [(q1, .inr (4, [.null, .null, .null]))]) [1] (by decide) rfl
  have hKc := hK.sub (tys' := []) [] rfl
  have hFc := va_free (wc := [(q1, .inr (4, [.null, .null, .null]))]) hD hS hA [1] rfl
  refine va_callv (va_runIN (own := "TapeSealer$Sealing") (index := 11) (host := "TapeSealer") (As := []) (rest := [.ref q1, .ref h0]) ⟨hx, hb, hml, hown, hts⟩ (c_Ks_init l dC dI q1 H.size) ⟨va_cnB 0 hts (gx_good k_Ks_init) rfl rfl rfl (hJ.1 _ (List.mem_of_getElem? (i := 160) (by decide +kernel)) rfl) (hB _ hw_70) (by decide +kernel) ⟨(Nat.le_of_ble_eq_true rfl), (Nat.le_of_ble_eq_true rfl)⟩, rfl, hB _ hw_161⟩ ⟨fun a U g mk q => by obtain ⟨q0, q1, qP, qK, qD⟩ := q; exact ⟨q0, q1, qP, va_K.moved (u := U) (U := U.calling g mk a) (Vm.Alike.refl U.vm) qK, qD⟩, fun U hU hW => ⟨rfl, by rw [hU], by rw [hU]; exact hPc, va_K.moved hW.alike hKc, hDc.weaken (fun _ _ _ _ => trivial)⟩⟩ rfl rfl hl.1 rfl (lv_room (Nat.le_of_ble_eq_true rfl)) d_Se_init_9 ⟨(Nat.le_of_ble_eq_true rfl), (Nat.le_of_ble_eq_true rfl)⟩) hS (fun q _ h => hFc q h) hFc (fun u t H1 locs ht hvm hw hB1 hz1 hk1 hS => ?_)
  obtain ⟨hP, hD⟩ := va_join (wr := [(h0, .inr (6, [.null, .null, .null, .null, .null]))]) (w1 := []) hP hD [1] [0] rfl rfl (by decide) (by decide) hk1 hFc gx_P0 gx_D0
  generalize H1 = H at hP hS ⊢
  have hP : va_P (dC, dI) gx_cl [(h0, .inr (6, [.null, .null, .null, .null, .null]))] H := hP
  have hD : va_D A [(h0, .inr (6, [.null, .null, .null, .null, .null]))] := hD
  refine W.widen (k := 4) (n := 99) (Nat.le_of_ble_eq_true rfl) (Nat.le_of_ble_eq_true rfl) ?_
  refine va_putF (D := (dC, dI)) (ci := 6) (v := .ref q1) (ty := .object "TapeSealer$KeyStream") (C := RSe) (T := FSe) (N := 5) hx hb hB in_Se tSe tSe_ok nSe hown hK hP hD hS 0 rfl rfl 0 (by decide) (hB _ hw_199) (fun _ h9 => h9) rfl hin rfl (by decide +kernel) rfl rfl (Nat.le_of_ble_eq_true rfl) d_Se_init_12 (fun H locs hP hD hS => ?_)
  have hP : va_P (dC, dI) gx_cl [(h0, .inr (6, [.ref q1, .null, .null, .null, .null]))] H := hP
  have hD : va_D A [(h0, .inr (6, [.ref q1, .null, .null, .null, .null]))] := hD
  refine lv_aload_n hx hb d_Se_init_15 rfl (lv_at hl 0 rfl) ?_
  refine va_new (D := (dC, dI)) (ci := 0) (fs := [.null, .null, .null, .null, .null]) (C := RAu) (T := FAu) (N := 5) hx hb hB in_Au tAu tAu_ok hown (hB _ hw_175) (hB _ hw_176) (hB _ hw_71) hK hP hD hS hA rfl (fun j hj => by rcases (show j = 0 ∨ j = 1 ∨ j = 2 ∨ j = 3 ∨ j = 4 by omega) with rfl | rfl | rfl | rfl | rfl <;> rfl) (Nat.le_of_ble_eq_true rfl) (Nat.le_of_ble_eq_true rfl) d_Se_init_16 (fun q2 H hP hD hS => ?_)
  have hP : va_P (dC, dI) gx_cl [(h0, .inr (6, [.ref q1, .null, .null, .null, .null])), (q2, .inr (0, [.null, .null, .null, .null, .null]))] H := hP
  have hD : va_D A [(h0, .inr (6, [.ref q1, .null, .null, .null, .null])), (q2, .inr (0, [.null, .null, .null, .null, .null]))] := hD
  refine W.widen (k := 5) (n := 104) (Nat.le_of_ble_eq_true rfl) (Nat.le_of_ble_eq_true rfl) ?_
  refine lv_dup hx hb d_Se_init_19 rfl ?_
  have hPc := hP.sub (ws' := [(q2, .inr (0, [.null, .null, .null, .null, .null]))]) [1] rfl
  have hDc := hD.sub (ws' := [(q2, .inr (0, [.null, .null, .null, .null, .null]))]) [1] (by decide) rfl
  have hKc := hK.sub (tys' := []) [] rfl
  have hFc := va_free (wc := [(q2, .inr (0, [.null, .null, .null, .null, .null]))]) hD hS hA [1] rfl
  refine va_callv (va_runIN (own := "TapeSealer$Sealing") (index := 20) (host := "TapeSealer") (As := []) (rest := [.ref q2, .ref h0]) ⟨hx, hb, hml, hown, hts⟩ (c_Au_init l dC dI q2 H.size) ⟨va_cnB 0 hts (gx_good k_Au_init) rfl rfl rfl (hJ.1 _ (List.mem_of_getElem? (i := 177) (by decide +kernel)) rfl) (hB _ hw_71) (by decide +kernel) ⟨(Nat.le_of_ble_eq_true rfl), (Nat.le_of_ble_eq_true rfl)⟩, rfl, hB _ hw_178⟩ ⟨fun a U g mk q => by obtain ⟨q0, q1, qP, qK, qD⟩ := q; exact ⟨q0, q1, qP, va_K.moved (u := U) (U := U.calling g mk a) (Vm.Alike.refl U.vm) qK, qD⟩, fun U hU hW => ⟨rfl, by rw [hU], by rw [hU]; exact hPc, va_K.moved hW.alike hKc, hDc.weaken (fun _ _ _ _ => trivial)⟩⟩ rfl rfl hl.1 rfl (lv_room (Nat.le_of_ble_eq_true rfl)) d_Se_init_20 ⟨(Nat.le_of_ble_eq_true rfl), (Nat.le_of_ble_eq_true rfl)⟩) hS (fun q _ h => hFc q h) hFc (fun u t H1 locs ht hvm hw hB1 hz1 hk1 hS => ?_)
  obtain ⟨hP, hD⟩ := va_join (wr := [(h0, .inr (6, [.ref q1, .null, .null, .null, .null]))]) (w1 := []) hP hD [1] [0] rfl rfl (by decide) (by decide) hk1 hFc gx_P0 gx_D0
  generalize H1 = H at hP hS ⊢
  have hP : va_P (dC, dI) gx_cl [(h0, .inr (6, [.ref q1, .null, .null, .null, .null]))] H := hP
  have hD : va_D A [(h0, .inr (6, [.ref q1, .null, .null, .null, .null]))] := hD
  refine W.widen (k := 10) (n := 151) (Nat.le_of_ble_eq_true rfl) (Nat.le_of_ble_eq_true rfl) ?_
  refine va_putF (D := (dC, dI)) (ci := 6) (v := .ref q2) (ty := .object "TapeSealer$Authenticator") (C := RSe) (T := FSe) (N := 5) hx hb hB in_Se tSe tSe_ok nSe hown hK hP hD hS 0 rfl rfl 1 (by decide) (hB _ hw_200) (fun _ h9 => h9) rfl hin rfl (by decide +kernel) rfl rfl (Nat.le_of_ble_eq_true rfl) d_Se_init_23 (fun H locs hP hD hS => ?_)
  have hP : va_P (dC, dI) gx_cl [(h0, .inr (6, [.ref q1, .ref q2, .null, .null, .null]))] H := hP
  have hD : va_D A [(h0, .inr (6, [.ref q1, .ref q2, .null, .null, .null]))] := hD
  refine lv_aload_n hx hb d_Se_init_26 rfl (lv_at hl 0 rfl) ?_
  refine lv_bipush (v := 12) hx hb d_Se_init_27 (by decide) ?_
  refine va_newa (D := (dC, dI)) (atype := .int) (a0 := (12, .inl (fun _ => 0))) (ty := .int) hx hb (hB _ hw_131) rfl hK hP hD hS hA (fun _ => rfl) (by decide) (N' := 12) rfl (by decide) (Nat.le_of_ble_eq_true rfl) (Nat.le_of_ble_eq_true rfl) d_Se_init_29 (fun q3 cA4 H hK hP hD hS => ?_)
  have hP : va_P (dC, dI) gx_cl [(h0, .inr (6, [.ref q1, .ref q2, .null, .null, .null])), (q3, .inl (cA4, 12, .inl (fun _ => 0)))] H := hP
  have hD : va_D A [(h0, .inr (6, [.ref q1, .ref q2, .null, .null, .null])), (q3, .inl (cA4, 12, .inl (fun _ => 0)))] := hD
  have hK : va_K (dC, dI) gx_cl [(cA4, .int)] s := hK
  refine W.widen (k := 11) (n := 163) (Nat.le_of_ble_eq_true rfl) (Nat.le_of_ble_eq_true rfl) ?_
  refine va_putF (D := (dC, dI)) (ci := 6) (v := .ref q3) (ty := .array .int) (C := RSe) (T := FSe) (N := 5) hx hb hB in_Se tSe tSe_ok nSe hown hK hP hD hS 0 rfl rfl 2 (by decide) (hB _ hw_201) (fun _ h9 => h9) rfl hin rfl (by decide +kernel) rfl rfl (Nat.le_of_ble_eq_true rfl) d_Se_init_31 (fun H locs hP hD hS => ?_)
  have hP : va_P (dC, dI) gx_cl [(h0, .inr (6, [.ref q1, .ref q2, .ref q3, .null, .null])), (q3, .inl (cA4, 12, .inl (fun _ => 0)))] H := hP
  have hD : va_D A [(h0, .inr (6, [.ref q1, .ref q2, .ref q3, .null, .null])), (q3, .inl (cA4, 12, .inl (fun _ => 0)))] := hD
  have hP := hP.sub (ws' := [(h0, .inr (6, [.ref q1, .ref q2, .ref q3, .null, .null]))]) [0] rfl
  have hD := hD.sub (ws' := [(h0, .inr (6, [.ref q1, .ref q2, .ref q3, .null, .null]))]) [0] (by decide) rfl
  have hK := hK.sub (tys' := []) [] rfl
  refine lv_aload_n hx hb d_Se_init_34 rfl (lv_at hl 0 rfl) ?_
  refine lv_iconst (v := 4) hx hb d_Se_init_35 (by decide) ?_
  refine va_newa (D := (dC, dI)) (atype := .int) (a0 := (4, .inl (fun _ => 0))) (ty := .int) hx hb (hB _ hw_131) rfl hK hP hD hS hA (fun _ => rfl) (by decide) (N' := 4) rfl (by decide) (Nat.le_of_ble_eq_true rfl) (Nat.le_of_ble_eq_true rfl) d_Se_init_36 (fun q5 cA6 H hK hP hD hS => ?_)
  have hP : va_P (dC, dI) gx_cl [(h0, .inr (6, [.ref q1, .ref q2, .ref q3, .null, .null])), (q5, .inl (cA6, 4, .inl (fun _ => 0)))] H := hP
  have hD : va_D A [(h0, .inr (6, [.ref q1, .ref q2, .ref q3, .null, .null])), (q5, .inl (cA6, 4, .inl (fun _ => 0)))] := hD
  have hK : va_K (dC, dI) gx_cl [(cA6, .int)] s := hK
  refine W.widen (k := 12) (n := 167) (Nat.le_of_ble_eq_true rfl) (Nat.le_of_ble_eq_true rfl) ?_
  refine va_putF (D := (dC, dI)) (ci := 6) (v := .ref q5) (ty := .array .int) (C := RSe) (T := FSe) (N := 5) hx hb hB in_Se tSe tSe_ok nSe hown hK hP hD hS 0 rfl rfl 3 (by decide) (hB _ hw_202) (fun _ h9 => h9) rfl hin rfl (by decide +kernel) rfl rfl (Nat.le_of_ble_eq_true rfl) d_Se_init_38 (fun H locs hP hD hS => ?_)
  have hP : va_P (dC, dI) gx_cl [(h0, .inr (6, [.ref q1, .ref q2, .ref q3, .ref q5, .null])), (q5, .inl (cA6, 4, .inl (fun _ => 0)))] H := hP
  have hD : va_D A [(h0, .inr (6, [.ref q1, .ref q2, .ref q3, .ref q5, .null])), (q5, .inl (cA6, 4, .inl (fun _ => 0)))] := hD
  have hP := hP.sub (ws' := [(h0, .inr (6, [.ref q1, .ref q2, .ref q3, .ref q5, .null]))]) [0] rfl
  have hD := hD.sub (ws' := [(h0, .inr (6, [.ref q1, .ref q2, .ref q3, .ref q5, .null]))]) [0] (by decide) rfl
  have hK := hK.sub (tys' := []) [] rfl
  refine lv_aload_n hx hb d_Se_init_41 rfl (lv_at hl 0 rfl) ?_
  refine lv_bipush (v := 16) hx hb d_Se_init_42 (by decide) ?_
  refine va_newa (D := (dC, dI)) (atype := .int) (a0 := (16, .inl (fun _ => 0))) (ty := .int) hx hb (hB _ hw_131) rfl hK hP hD hS hA (fun _ => rfl) (by decide) (N' := 16) rfl (by decide) (Nat.le_of_ble_eq_true rfl) (Nat.le_of_ble_eq_true rfl) d_Se_init_44 (fun q7 cA8 H hK hP hD hS => ?_)
  have hP : va_P (dC, dI) gx_cl [(h0, .inr (6, [.ref q1, .ref q2, .ref q3, .ref q5, .null])), (q7, .inl (cA8, 16, .inl (fun _ => 0)))] H := hP
  have hD : va_D A [(h0, .inr (6, [.ref q1, .ref q2, .ref q3, .ref q5, .null])), (q7, .inl (cA8, 16, .inl (fun _ => 0)))] := hD
  have hK : va_K (dC, dI) gx_cl [(cA8, .int)] s := hK
  refine W.widen (k := 13) (n := 183) (Nat.le_of_ble_eq_true rfl) (Nat.le_of_ble_eq_true rfl) ?_
  refine va_putF (D := (dC, dI)) (ci := 6) (v := .ref q7) (ty := .array .int) (C := RSe) (T := FSe) (N := 5) hx hb hB in_Se tSe tSe_ok nSe hown hK hP hD hS 0 rfl rfl 4 (by decide) (hB _ hw_203) (fun _ h9 => h9) rfl hin rfl (by decide +kernel) rfl rfl (Nat.le_of_ble_eq_true rfl) d_Se_init_46 (fun H locs hP hD hS => ?_)
  have hP : va_P (dC, dI) gx_cl [(h0, .inr (6, [.ref q1, .ref q2, .ref q3, .ref q5, .ref q7])), (q7, .inl (cA8, 16, .inl (fun _ => 0)))] H := hP
  have hD : va_D A [(h0, .inr (6, [.ref q1, .ref q2, .ref q3, .ref q5, .ref q7])), (q7, .inl (cA8, 16, .inl (fun _ => 0)))] := hD
  have hP := hP.sub (ws' := [(h0, .inr (6, [.ref q1, .ref q2, .ref q3, .ref q5, .ref q7]))]) [0] rfl
  have hD := hD.sub (ws' := [(h0, .inr (6, [.ref q1, .ref q2, .ref q3, .ref q5, .ref q7]))]) [0] (by decide) rfl
  have hK := hK.sub (tys' := []) [] rfl
  refine W.widen (k := 13) (n := 183) (Nat.le_of_ble_eq_true rfl) (Nat.le_of_ble_eq_true rfl) ?_
  exact W.vret hx hb hr (fun t ht hW => ⟨⟨(), rfl, trivial, trivial⟩, hS.F ht⟩) hS.2.2 d_Se_init_49
set_option maxHeartbeats 4000000 in
set_option maxRecDepth 100000 in
theorem c_Ca_init (l : Launch) (dC : Nat → ClassId) (dI : Nat → Nat → Nat) (aS aT : Nat) (cS cT : Cell) (h0 sz : Nat) : Met l y_Ca_init w_Ca_init ({ frames := 1, cells := 46, slots := 2904, locals := 20 }) (va_Pc [.ref h0] (fun U => U.heap.size = sz ∧ va_P (dC, dI) gx_cl [(h0, .inr (1, [.null, .null, .int 0, .int 0, .int 0, .int 0]))] U.heap ∧ va_K (dC, dI) gx_cl [] U ∧ va_D (fun _ => True) [(h0, .inr (1, [.null, .null, .int 0, .int 0, .int 0, .int 0]))] ∧ jx aS aT cS cT U)) (va_Qv (fun _ : Unit => True) (fun _ t => ∃ (q1 q2 : Nat) (cA cI cB : ClassId), va_P (dC, dI) gx_cl ([(h0, .inr (1, [.ref q1, .ref q2, .int 0, .int (-1), .int 0, .int 0])), (q1, .inl (cA, 44, .inr (.inr (.inr (.inr (mx_g q1 44)))))), (q2, .inl (cB, 44, .inl (fun _ => 0)))] ++ mx_Y q1 cI) t.heap ∧ va_D (va_A [(h0, .inr (1, [.null, .null, .int 0, .int 0, .int 0, .int 0]))] sz) ([(h0, .inr (1, [.ref q1, .ref q2, .int 0, .int (-1), .int 0, .int 0])), (q1, .inl (cA, 44, .inr (.inr (.inr (.inr (mx_g q1 44)))))), (q2, .inl (cB, 44, .inl (fun _ => 0)))] ++ mx_Y q1 cI) ∧ va_K (dC, dI) gx_cl [(cA, .array .int), (cI, .int), (cB, .boolean)] t) (va_A [(h0, .inr (1, [.null, .null, .int 0, .int 0, .int 0, .int 0]))] sz)) 46 2904 (va_A [(h0, .inr (1, [.null, .null, .int 0, .int 0, .int 0, .int 0]))] sz) := by
  refine Met.ofW (cc := b_Ca_init) (maxL := 1) (ret := none) (by decide) rfl ?_
  intro p e s m args below meth c s₁ B hml hv
  obtain ⟨rfl, hsz, hP, hK, hD0, hJ⟩ := hv
  have hx := B.exec
  have hb := B.bytes
  have hr := B.returns
  have hts := atoms_spec (ws := w_Ca_init) B.pre
  have hB : ∀ w ∈ gx_B, w.before _ s = true := fun w h => hts w (List.mem_cons_of_mem _ h)
  have hown : s.vm.findClass RCa = some m.cls := findClass_of_methodNamed B.named
  have hlocks := B.notSynchronized
  have hin : meth.name = "<init>" := (name_of_methodNamed B.named B.method).1
  subst hsz
  have haS := (Array.getElem?_eq_some_iff.mp hJ.2.2.2.2.2.1).1
  have haT := (Array.getElem?_eq_some_iff.mp hJ.2.2.2.2.2.2).1
  have hoS : ¬ va_A [(h0, .inr (1, [.null, .null, .int 0, .int 0, .int 0, .int 0]))] s.heap.size aS := jx_off hP hJ.2.2.2.2.2.1 hJ.2.2.2.1.stat haS
  have hoT : ¬ va_A [(h0, .inr (1, [.null, .null, .int 0, .int 0, .int 0, .int 0]))] s.heap.size aT := jx_off hP hJ.2.2.2.2.2.2 hJ.2.2.2.2.1.stat haT
  have hD := hD0.self (sz := s.heap.size)
  generalize hAe : va_A [(h0, .inr (1, [.null, .null, .int 0, .int 0, .int 0, .int 0]))] s.heap.size = A at hD hoS hoT ⊢
  have hA : ∀ q : Nat, s.heap.size ≤ q → A q := fun q h => by rw [← hAe]; exact Or.inr h
  have hS : va_S A s.heap s.heap [] := va_S.rf
  have hP : va_P (dC, dI) gx_cl [(h0, .inr (1, [.null, .null, .int 0, .int 0, .int 0, .int 0]))] s.heap := hP
  have hl := lv_entry ([.ref h0]) (n := 1) (Nat.le_of_ble_eq_true rfl)
  rw [lg_entry_eq]
  generalize (lg_sl ([.ref h0]) ++ List.replicate (1 - (lg_sl ([.ref h0])).length) Slot.unset).toArray = ls at hl ⊢
  have hl : lv_has ls 1 [(0, .ref h0)] := hl
  refine lv_aload_n hx hb d_Ca_init_0 rfl (lv_at hl 0 rfl) ?_
  refine W.objInit hx hb hown (hB _ hw_101) (hB _ hw_94) (hB _ hw_oc) rfl (by rw [hml]; exact hl.1) rfl d_Ca_init_1 (Nat.le_of_ble_eq_true rfl) (Nat.le_of_ble_eq_true rfl) ?_
  refine W.eq (g2 := F0 m 4 ls []) rfl ?_
  refine lv_aload_n hx hb d_Ca_init_4 rfl (lv_at hl 0 rfl) ?_
  refine lv_bipush (v := 44) hx hb d_Ca_init_5 (by decide) ?_
  refine lv_bipush (v := 64) hx hb d_Ca_init_7 (by decide) ?_
  refine mx_newK (D := (dC, dI)) hx hb hown (hB _ hw_102) hJ.2.1 (hB _ hw_131) hK hP hD hS hA (by decide) (by decide) rfl rfl (Nat.le_of_ble_eq_true rfl) (Nat.le_of_ble_eq_true rfl) d_Ca_init_9 (fun q1 cA2 cA3 H hK hP hD hS => ?_)
  have hP : va_P (dC, dI) gx_cl ([(h0, .inr (1, [.null, .null, .int 0, .int 0, .int 0, .int 0])), (q1, .inl (cA2, 44, .inr (.inr (.inr (.inr (mx_g q1 44))))))] ++ mx_Y q1 cA3) H := hP
  have hD : va_D A ([(h0, .inr (1, [.null, .null, .int 0, .int 0, .int 0, .int 0])), (q1, .inl (cA2, 44, .inr (.inr (.inr (.inr (mx_g q1 44))))))] ++ mx_Y q1 cA3) := hD
  have hK : va_K (dC, dI) gx_cl [(cA2, .array .int), (cA3, .int)] s := hK
  refine W.widen (k := 45) (n := 2860) (Nat.le_of_ble_eq_true rfl) (Nat.le_of_ble_eq_true rfl) ?_
  refine va_putF (D := (dC, dI)) (ci := 1) (v := .ref q1) (ty := .array (.array .int)) (C := RCa) (T := FCa) (N := 6) hx hb hB in_Ca tCa tCa_ok nCa hown hK hP hD hS 0 rfl rfl 0 (by decide) (hB _ hw_104) (fun _ h9 => h9) rfl hin rfl (by decide +kernel) rfl rfl (Nat.le_of_ble_eq_true rfl) d_Ca_init_13 (fun H locs hP hD hS => ?_)
  have hP : va_P (dC, dI) gx_cl ([(h0, .inr (1, [.ref q1, .null, .int 0, .int 0, .int 0, .int 0])), (q1, .inl (cA2, 44, .inr (.inr (.inr (.inr (mx_g q1 44))))))] ++ mx_Y q1 cA3) H := hP
  have hD : va_D A ([(h0, .inr (1, [.ref q1, .null, .int 0, .int 0, .int 0, .int 0])), (q1, .inl (cA2, 44, .inr (.inr (.inr (.inr (mx_g q1 44))))))] ++ mx_Y q1 cA3) := hD
  refine lv_aload_n hx hb d_Ca_init_16 rfl (lv_at hl 0 rfl) ?_
  refine lv_bipush (v := 44) hx hb d_Ca_init_17 (by decide) ?_
  refine va_newa (D := (dC, dI)) (atype := .boolean) (a0 := (44, .inl (fun _ => 0))) (ty := .boolean) hx hb (hB _ hw_132) rfl hK hP hD hS hA (fun _ => rfl) (by decide) (N' := 44) rfl (by decide) (Nat.le_of_ble_eq_true rfl) (Nat.le_of_ble_eq_true rfl) d_Ca_init_19 (fun q4 cA5 H hK hP hD hS => ?_)
  have hP := hP.sub (ws' := ([(h0, .inr (1, [.ref q1, .null, .int 0, .int 0, .int 0, .int 0])), (q1, .inl (cA2, 44, .inr (.inr (.inr (.inr (mx_g q1 44)))))), (q4, .inl (cA5, 44, .inl (fun _ => 0)))] ++ mx_Y q1 cA3)) [0, 1, 46, 2, 3, 4, 5, 6, 7, 8, 9, 10, 11, 12, 13, 14, 15, 16, 17, 18, 19, 20, 21, 22, 23, 24, 25, 26, 27, 28, 29, 30, 31, 32, 33, 34, 35, 36, 37, 38, 39, 40, 41, 42, 43, 44, 45] rfl
  have hD := hD.sub (ws' := ([(h0, .inr (1, [.ref q1, .null, .int 0, .int 0, .int 0, .int 0])), (q1, .inl (cA2, 44, .inr (.inr (.inr (.inr (mx_g q1 44)))))), (q4, .inl (cA5, 44, .inl (fun _ => 0)))] ++ mx_Y q1 cA3)) [0, 1, 46, 2, 3, 4, 5, 6, 7, 8, 9, 10, 11, 12, 13, 14, 15, 16, 17, 18, 19, 20, 21, 22, 23, 24, 25, 26, 27, 28, 29, 30, 31, 32, 33, 34, 35, 36, 37, 38, 39, 40, 41, 42, 43, 44, 45] (by decide) rfl
  have hK : va_K (dC, dI) gx_cl [(cA2, .array .int), (cA3, .int), (cA5, .boolean)] s := hK
  refine W.widen (k := 46) (n := 2904) (Nat.le_of_ble_eq_true rfl) (Nat.le_of_ble_eq_true rfl) ?_
  refine va_putF (D := (dC, dI)) (ci := 1) (v := .ref q4) (ty := .array .boolean) (C := RCa) (T := FCa) (N := 6) hx hb hB in_Ca tCa tCa_ok nCa hown hK hP hD hS 0 rfl rfl 1 (by decide) (hB _ hw_107) (fun _ h9 => h9) rfl hin rfl (by decide +kernel) rfl rfl (Nat.le_of_ble_eq_true rfl) d_Ca_init_21 (fun H locs hP hD hS => ?_)
  have hP : va_P (dC, dI) gx_cl ([(h0, .inr (1, [.ref q1, .ref q4, .int 0, .int 0, .int 0, .int 0])), (q1, .inl (cA2, 44, .inr (.inr (.inr (.inr (mx_g q1 44)))))), (q4, .inl (cA5, 44, .inl (fun _ => 0)))] ++ mx_Y q1 cA3) H := hP
  have hD : va_D A ([(h0, .inr (1, [.ref q1, .ref q4, .int 0, .int 0, .int 0, .int 0])), (q1, .inl (cA2, 44, .inr (.inr (.inr (.inr (mx_g q1 44)))))), (q4, .inl (cA5, 44, .inl (fun _ => 0)))] ++ mx_Y q1 cA3) := hD
  refine lv_aload_n hx hb d_Ca_init_24 rfl (lv_at hl 0 rfl) ?_
  refine lv_iconst (v := (-1)) hx hb d_Ca_init_25 (by decide) ?_
  refine va_put (D := (dC, dI)) (ci := 1) (v := .int (-1)) (ty := .int) (C := RCa) (T := FCa) (N := 6) hx hb hB in_Ca tCa tCa_ok nCa hown hK hP hD hS 0 rfl rfl 3 (by decide) (hB _ hw_112) (fun _ h9 => h9) rfl (by decide +kernel) rfl rfl (Nat.le_of_ble_eq_true rfl) d_Ca_init_26 (fun H locs hP hD hS => ?_)
  have hP : va_P (dC, dI) gx_cl ([(h0, .inr (1, [.ref q1, .ref q4, .int 0, .int (-1), .int 0, .int 0])), (q1, .inl (cA2, 44, .inr (.inr (.inr (.inr (mx_g q1 44)))))), (q4, .inl (cA5, 44, .inl (fun _ => 0)))] ++ mx_Y q1 cA3) H := hP
  have hD : va_D A ([(h0, .inr (1, [.ref q1, .ref q4, .int 0, .int (-1), .int 0, .int 0])), (q1, .inl (cA2, 44, .inr (.inr (.inr (.inr (mx_g q1 44)))))), (q4, .inl (cA5, 44, .inl (fun _ => 0)))] ++ mx_Y q1 cA3) := hD
  refine W.widen (k := 46) (n := 2904) (Nat.le_of_ble_eq_true rfl) (Nat.le_of_ble_eq_true rfl) ?_
  exact W.vret hx hb hr (fun t ht hW => ⟨⟨(), rfl, trivial, q1, q4, cA2, cA3, cA5, by rw [ht]; exact hP, hD, va_K.moved hW.alike hK⟩, hS.F ht⟩) hS.2.2 d_Ca_init_29
end
section
abbrev b_TS_init : ByteArray := prog_1_method_1_code
def y_TS_init : MethodName := ⟨"TapeSealer", "<init>", "()V"⟩
abbrev w_TS_init : List Cond := .code y_TS_init b_TS_init 2 none :: gx_B
theorem k_TS_init : (.code y_TS_init b_TS_init 2 none : Cond) ∈ gx_B := gx_mem 92 (by decide +kernel) rfl
theorem hw_67 : (.initialized "TapeSealer$Cartridge" : Cond) ∈ gx_B := gx_mem 67 (by decide +kernel) rfl
theorem hw_68 : (.initialized "TapeSealer$Epochs" : Cond) ∈ gx_B := gx_mem 68 (by decide +kernel) rfl
theorem hw_69 : (.initialized "TapeSealer$Sealing" : Cond) ∈ gx_B := gx_mem 69 (by decide +kernel) rfl
theorem hw_72 : (.initialized "TapeSealer$Stripe" : Cond) ∈ gx_B := gx_mem 72 (by decide +kernel) rfl
theorem hw_73 : (.initialized "TapeSealer$Label" : Cond) ∈ gx_B := gx_mem 73 (by decide +kernel) rfl
theorem hw_74 : (.initialized "TapeSealer$Draft" : Cond) ∈ gx_B := gx_mem 74 (by decide +kernel) rfl
theorem hw_93 : (.methodLink "TapeSealer" 1 ⟨"java/lang/Object", "<init>", "()V"⟩ : Cond) ∈ gx_B := gx_mem 93 (by decide +kernel) rfl
theorem hw_96 : (.classLink "TapeSealer" 7 "TapeSealer$Cartridge" : Cond) ∈ gx_B := gx_mem 96 (by decide +kernel) rfl
theorem hw_97 : (.instantiable "TapeSealer$Cartridge" 6 : Cond) ∈ gx_B := gx_mem 97 (by decide +kernel) rfl
theorem hw_99 : (.instanceMethod ⟨"TapeSealer$Cartridge", "<init>", "()V"⟩ : Cond) ∈ gx_B := gx_mem 99 (by decide +kernel) rfl
theorem hw_133 : (.classLink "TapeSealer" 16 "TapeSealer$Epochs" : Cond) ∈ gx_B := gx_mem 133 (by decide +kernel) rfl
theorem hw_134 : (.instantiable "TapeSealer$Epochs" 3 : Cond) ∈ gx_B := gx_mem 134 (by decide +kernel) rfl
theorem hw_136 : (.instanceMethod ⟨"TapeSealer$Epochs", "<init>", "()V"⟩ : Cond) ∈ gx_B := gx_mem 136 (by decide +kernel) rfl
theorem hw_152 : (.classLink "TapeSealer" 23 "TapeSealer$Sealing" : Cond) ∈ gx_B := gx_mem 152 (by decide +kernel) rfl
theorem hw_153 : (.instantiable "TapeSealer$Sealing" 5 : Cond) ∈ gx_B := gx_mem 153 (by decide +kernel) rfl
theorem hw_155 : (.instanceMethod ⟨"TapeSealer$Sealing", "<init>", "()V"⟩ : Cond) ∈ gx_B := gx_mem 155 (by decide +kernel) rfl
theorem hw_215 : (.classLink "TapeSealer" 30 "TapeSealer$Stripe" : Cond) ∈ gx_B := gx_mem 215 (by decide +kernel) rfl
theorem hw_216 : (.instantiable "TapeSealer$Stripe" 5 : Cond) ∈ gx_B := gx_mem 216 (by decide +kernel) rfl
theorem hw_217 : (.methodLink "TapeSealer" 32 ⟨"TapeSealer$Stripe", "<init>", "(LTapeSealer$Cartridge;LTapeSealer$Sealing;)V"⟩ : Cond) ∈ gx_B := gx_mem 217 (by decide +kernel) rfl
theorem hw_218 : (.instanceMethod ⟨"TapeSealer$Stripe", "<init>", "(LTapeSealer$Cartridge;LTapeSealer$Sealing;)V"⟩ : Cond) ∈ gx_B := gx_mem 218 (by decide +kernel) rfl
theorem hw_240 : (.classLink "TapeSealer" 39 "TapeSealer$Label" : Cond) ∈ gx_B := gx_mem 240 (by decide +kernel) rfl
theorem hw_242 : (.instantiable "TapeSealer$Label" 8 : Cond) ∈ gx_B := gx_mem 242 (by decide +kernel) rfl
theorem hw_243 : (.methodLink "TapeSealer" 45 ⟨"TapeSealer$Label", "<init>", "(I)V"⟩ : Cond) ∈ gx_B := gx_mem 243 (by decide +kernel) rfl
theorem hw_244 : (.instanceMethod ⟨"TapeSealer$Label", "<init>", "(I)V"⟩ : Cond) ∈ gx_B := gx_mem 244 (by decide +kernel) rfl
theorem hw_286 : (.classLink "TapeSealer" 62 "TapeSealer$Draft" : Cond) ∈ gx_B := gx_mem 286 (by decide +kernel) rfl
theorem hw_287 : (.instantiable "TapeSealer$Draft" 4 : Cond) ∈ gx_B := gx_mem 287 (by decide +kernel) rfl
theorem hw_289 : (.instanceMethod ⟨"TapeSealer$Draft", "<init>", "()V"⟩ : Cond) ∈ gx_B := gx_mem 289 (by decide +kernel) rfl
theorem hw_307 : (.fieldLink "TapeSealer" 10 "TapeSealer" "tape" "LTapeSealer$Cartridge;" : Cond) ∈ gx_B := gx_mem 307 (by decide +kernel) rfl
theorem hw_308 : (.fieldLink "TapeSealer" 19 "TapeSealer" "epochs" "LTapeSealer$Epochs;" : Cond) ∈ gx_B := gx_mem 308 (by decide +kernel) rfl
theorem hw_309 : (.fieldLink "TapeSealer" 26 "TapeSealer" "sealing" "LTapeSealer$Sealing;" : Cond) ∈ gx_B := gx_mem 309 (by decide +kernel) rfl
theorem hw_310 : (.fieldLink "TapeSealer" 35 "TapeSealer" "stripe" "LTapeSealer$Stripe;" : Cond) ∈ gx_B := gx_mem 310 (by decide +kernel) rfl
theorem hw_311 : (.fieldLink "TapeSealer" 41 "TapeSealer" "labels" "[LTapeSealer$Label;" : Cond) ∈ gx_B := gx_mem 311 (by decide +kernel) rfl
theorem hw_312 : (.fieldLink "TapeSealer" 48 "TapeSealer" "fresh" "LTapeSealer$Label;" : Cond) ∈ gx_B := gx_mem 312 (by decide +kernel) rfl
theorem hw_313 : (.fieldLink "TapeSealer" 52 "TapeSealer" "headerRow" "[I" : Cond) ∈ gx_B := gx_mem 313 (by decide +kernel) rfl
theorem hw_314 : (.fieldLink "TapeSealer" 56 "TapeSealer" "zeroRow" "[I" : Cond) ∈ gx_B := gx_mem 314 (by decide +kernel) rfl
theorem hw_315 : (.fieldLink "TapeSealer" 59 "TapeSealer" "text" "[I" : Cond) ∈ gx_B := gx_mem 315 (by decide +kernel) rfl
theorem hw_316 : (.fieldLink "TapeSealer" 65 "TapeSealer" "draft" "LTapeSealer$Draft;" : Cond) ∈ gx_B := gx_mem 316 (by decide +kernel) rfl
theorem hw_317 : (.fieldLink "TapeSealer" 69 "TapeSealer" "buffer" "[I" : Cond) ∈ gx_B := gx_mem 317 (by decide +kernel) rfl
theorem hw_319 : (.fieldLink "TapeSealer" 72 "TapeSealer" "told" "[I" : Cond) ∈ gx_B := gx_mem 319 (by decide +kernel) rfl
theorem hw_320 : (.fieldLink "TapeSealer" 75 "TapeSealer" "gathered" "[I" : Cond) ∈ gx_B := gx_mem 320 (by decide +kernel) rfl
end
section
theorem d_TS_init_0 : decode b_TS_init 0 = .ok (.aload_n 0, 1) := by decide +kernel
theorem d_TS_init_1 : decode b_TS_init 1 = .ok (.invokespecial 1, 3) := by decide +kernel
theorem d_TS_init_100 : decode b_TS_init 100 = .ok (.putfield 48, 3) := by decide +kernel
theorem d_TS_init_103 : decode b_TS_init 103 = .ok (.aload_n 0, 1) := by decide +kernel
theorem d_TS_init_104 : decode b_TS_init 104 = .ok (.bipush 64, 2) := by decide +kernel
theorem d_TS_init_106 : decode b_TS_init 106 = .ok (.newarray .int, 2) := by decide +kernel
theorem d_TS_init_108 : decode b_TS_init 108 = .ok (.putfield 52, 3) := by decide +kernel
theorem d_TS_init_111 : decode b_TS_init 111 = .ok (.aload_n 0, 1) := by decide +kernel
theorem d_TS_init_112 : decode b_TS_init 112 = .ok (.bipush 64, 2) := by decide +kernel
theorem d_TS_init_114 : decode b_TS_init 114 = .ok (.newarray .int, 2) := by decide +kernel
theorem d_TS_init_116 : decode b_TS_init 116 = .ok (.putfield 56, 3) := by decide +kernel
theorem d_TS_init_119 : decode b_TS_init 119 = .ok (.aload_n 0, 1) := by decide +kernel
theorem d_TS_init_12 : decode b_TS_init 12 = .ok (.putfield 10, 3) := by decide +kernel
theorem d_TS_init_120 : decode b_TS_init 120 = .ok (.bipush 48, 2) := by decide +kernel
theorem d_TS_init_122 : decode b_TS_init 122 = .ok (.newarray .int, 2) := by decide +kernel
theorem d_TS_init_124 : decode b_TS_init 124 = .ok (.putfield 59, 3) := by decide +kernel
theorem d_TS_init_127 : decode b_TS_init 127 = .ok (.aload_n 0, 1) := by decide +kernel
theorem d_TS_init_128 : decode b_TS_init 128 = .ok (.new 62, 3) := by decide +kernel
theorem d_TS_init_131 : decode b_TS_init 131 = .ok (.dup, 1) := by decide +kernel
theorem d_TS_init_132 : decode b_TS_init 132 = .ok (.invokespecial 64, 3) := by decide +kernel
theorem d_TS_init_135 : decode b_TS_init 135 = .ok (.putfield 65, 3) := by decide +kernel
theorem d_TS_init_138 : decode b_TS_init 138 = .ok (.aload_n 0, 1) := by decide +kernel
theorem d_TS_init_139 : decode b_TS_init 139 = .ok (.sipush 192, 3) := by decide +kernel
theorem d_TS_init_142 : decode b_TS_init 142 = .ok (.newarray .int, 2) := by decide +kernel
theorem d_TS_init_144 : decode b_TS_init 144 = .ok (.putfield 69, 3) := by decide +kernel
theorem d_TS_init_147 : decode b_TS_init 147 = .ok (.aload_n 0, 1) := by decide +kernel
theorem d_TS_init_148 : decode b_TS_init 148 = .ok (.sipush 1152, 3) := by decide +kernel
theorem d_TS_init_15 : decode b_TS_init 15 = .ok (.aload_n 0, 1) := by decide +kernel
theorem d_TS_init_151 : decode b_TS_init 151 = .ok (.newarray .int, 2) := by decide +kernel
theorem d_TS_init_153 : decode b_TS_init 153 = .ok (.putfield 72, 3) := by decide +kernel
theorem d_TS_init_156 : decode b_TS_init 156 = .ok (.aload_n 0, 1) := by decide +kernel
theorem d_TS_init_157 : decode b_TS_init 157 = .ok (.sipush 1152, 3) := by decide +kernel
theorem d_TS_init_16 : decode b_TS_init 16 = .ok (.new 16, 3) := by decide +kernel
theorem d_TS_init_160 : decode b_TS_init 160 = .ok (.newarray .int, 2) := by decide +kernel
theorem d_TS_init_162 : decode b_TS_init 162 = .ok (.putfield 75, 3) := by decide +kernel
theorem d_TS_init_165 : decode b_TS_init 165 = .ok (.return_, 1) := by decide +kernel
theorem d_TS_init_19 : decode b_TS_init 19 = .ok (.dup, 1) := by decide +kernel
theorem d_TS_init_20 : decode b_TS_init 20 = .ok (.invokespecial 18, 3) := by decide +kernel
theorem d_TS_init_23 : decode b_TS_init 23 = .ok (.putfield 19, 3) := by decide +kernel
theorem d_TS_init_26 : decode b_TS_init 26 = .ok (.aload_n 0, 1) := by decide +kernel
theorem d_TS_init_27 : decode b_TS_init 27 = .ok (.new 23, 3) := by decide +kernel
theorem d_TS_init_30 : decode b_TS_init 30 = .ok (.dup, 1) := by decide +kernel
theorem d_TS_init_31 : decode b_TS_init 31 = .ok (.invokespecial 25, 3) := by decide +kernel
theorem d_TS_init_34 : decode b_TS_init 34 = .ok (.putfield 26, 3) := by decide +kernel
theorem d_TS_init_37 : decode b_TS_init 37 = .ok (.aload_n 0, 1) := by decide +kernel
theorem d_TS_init_38 : decode b_TS_init 38 = .ok (.new 30, 3) := by decide +kernel
theorem d_TS_init_4 : decode b_TS_init 4 = .ok (.aload_n 0, 1) := by decide +kernel
theorem d_TS_init_41 : decode b_TS_init 41 = .ok (.dup, 1) := by decide +kernel
theorem d_TS_init_42 : decode b_TS_init 42 = .ok (.aload_n 0, 1) := by decide +kernel
theorem d_TS_init_43 : decode b_TS_init 43 = .ok (.getfield 10, 3) := by decide +kernel
theorem d_TS_init_46 : decode b_TS_init 46 = .ok (.aload_n 0, 1) := by decide +kernel
theorem d_TS_init_47 : decode b_TS_init 47 = .ok (.getfield 26, 3) := by decide +kernel
theorem d_TS_init_5 : decode b_TS_init 5 = .ok (.new 7, 3) := by decide +kernel
theorem d_TS_init_50 : decode b_TS_init 50 = .ok (.invokespecial 32, 3) := by decide +kernel
theorem d_TS_init_53 : decode b_TS_init 53 = .ok (.putfield 35, 3) := by decide +kernel
theorem d_TS_init_56 : decode b_TS_init 56 = .ok (.aload_n 0, 1) := by decide +kernel
theorem d_TS_init_57 : decode b_TS_init 57 = .ok (.iconst 4, 1) := by decide +kernel
theorem d_TS_init_58 : decode b_TS_init 58 = .ok (.anewarray 39, 3) := by decide +kernel
theorem d_TS_init_61 : decode b_TS_init 61 = .ok (.putfield 41, 3) := by decide +kernel
theorem d_TS_init_64 : decode b_TS_init 64 = .ok (.iconst 0, 1) := by decide +kernel
end
section
theorem d_TS_init_65 : decode b_TS_init 65 = .ok (.istore_n 1, 1) := by decide +kernel
theorem d_TS_init_66 : decode b_TS_init 66 = .ok (.iload_n 1, 1) := by decide +kernel
theorem d_TS_init_67 : decode b_TS_init 67 = .ok (.iconst 4, 1) := by decide +kernel
theorem d_TS_init_68 : decode b_TS_init 68 = .ok (.if_icmp .ge 23, 3) := by decide +kernel
theorem d_TS_init_71 : decode b_TS_init 71 = .ok (.aload_n 0, 1) := by decide +kernel
theorem d_TS_init_72 : decode b_TS_init 72 = .ok (.getfield 41, 3) := by decide +kernel
theorem d_TS_init_75 : decode b_TS_init 75 = .ok (.iload_n 1, 1) := by decide +kernel
theorem d_TS_init_76 : decode b_TS_init 76 = .ok (.new 39, 3) := by decide +kernel
theorem d_TS_init_79 : decode b_TS_init 79 = .ok (.dup, 1) := by decide +kernel
theorem d_TS_init_8 : decode b_TS_init 8 = .ok (.dup, 1) := by decide +kernel
theorem d_TS_init_80 : decode b_TS_init 80 = .ok (.iload_n 1, 1) := by decide +kernel
theorem d_TS_init_81 : decode b_TS_init 81 = .ok (.invokespecial 45, 3) := by decide +kernel
theorem d_TS_init_84 : decode b_TS_init 84 = .ok (.aastore, 1) := by decide +kernel
theorem d_TS_init_85 : decode b_TS_init 85 = .ok (.iinc 1 1, 3) := by decide +kernel
theorem d_TS_init_88 : decode b_TS_init 88 = .ok (.goto (-22), 3) := by decide +kernel
theorem d_TS_init_9 : decode b_TS_init 9 = .ok (.invokespecial 9, 3) := by decide +kernel
theorem d_TS_init_91 : decode b_TS_init 91 = .ok (.aload_n 0, 1) := by decide +kernel
theorem d_TS_init_92 : decode b_TS_init 92 = .ok (.new 39, 3) := by decide +kernel
theorem d_TS_init_95 : decode b_TS_init 95 = .ok (.dup, 1) := by decide +kernel
theorem d_TS_init_96 : decode b_TS_init 96 = .ok (.iconst 0, 1) := by decide +kernel
theorem d_TS_init_97 : decode b_TS_init 97 = .ok (.invokespecial 45, 3) := by decide +kernel
end
section
abbrev wTS (h0 : Nat) (q : Nat → Nat) (c : Nat → ClassId) : va_W := [(h0, .inr (8, [.ref (q 0), .ref (q 3), .ref (q 18), .ref (q 19), .ref (q 6), .ref (q 20), .ref (q 21), .ref (q 22), .ref (q 23), .ref (q 15), .ref (q 17), .int 0, .ref (q 24), .ref (q 25), .int 0])), (q 0, .inr (1, [.ref (q 1), .ref (q 2), .int 0, .int (-1), .int 0, .int 0])), (q 1, .inl (c 0, 44, .inr (.inr (.inr (.inr (mx_g (q 1) 44)))))), (q 2, .inl (c 2, 44, .inl (fun _ => 0))), (q 3, .inr (3, [.ref (q 4), .ref (q 5), .int 0])), (q 6, .inl (c 3, 4, .inr (.inr (.inr (.inr (gx_L4 (q 7) (q 8) (q 9) (q 10))))))), (q 7, .inr (5, [.ref (q 11), .int 0, .int 0, .int 0, .int 0, .int 0, .int 0, .int 0])), (q 8, .inr (5, [.ref (q 12), .int 1, .int 0, .int 0, .int 0, .int 0, .int 0, .int 0])), (q 9, .inr (5, [.ref (q 13), .int 2, .int 0, .int 0, .int 0, .int 0, .int 0, .int 0])), (q 10, .inr (5, [.ref (q 14), .int 3, .int 0, .int 0, .int 0, .int 0, .int 0, .int 0])), (q 15, .inr (2, [.ref (q 16), .int (-1), .int 0, .int 0])), (q 17, .inl (c 4, 192, .inl (fun _ => 0)))] ++ mx_Y (q 1) (c 1)
abbrev kTS (c : Nat → ClassId) : List (ClassId × FieldType) := [(c 0, .array .int), (c 1, .int), (c 2, .boolean), (c 3, .object "TapeSealer$Label"), (c 4, .int)]
set_option maxHeartbeats 4000000 in
set_option maxRecDepth 100000 in
theorem c_TS_init (l : Launch) (dC : Nat → ClassId) (dI : Nat → Nat → Nat) (aS aT : Nat) (cS cT : Cell) (h0 sz : Nat) : Met l y_TS_init w_TS_init ({ frames := 3, cells := 102, slots := 7488, locals := 70 }) (va_Pc [.ref h0] (fun U => U.heap.size = sz ∧ va_P (dC, dI) gx_cl [(h0, .inr (8, [.null, .null, .null, .null, .null, .null, .null, .null, .null, .null, .null, .int 0, .null, .null, .int 0]))] U.heap ∧ va_K (dC, dI) gx_cl [] U ∧ va_D (fun _ => True) [(h0, .inr (8, [.null, .null, .null, .null, .null, .null, .null, .null, .null, .null, .null, .int 0, .null, .null, .int 0]))] ∧ jx aS aT cS cT U)) (va_Qv (fun _ : Unit => True) (fun _ t => ∃ (q : Nat → Nat) (c : Nat → ClassId), va_P (dC, dI) gx_cl (wTS h0 q c) t.heap ∧ va_D (va_A [(h0, .inr (8, [.null, .null, .null, .null, .null, .null, .null, .null, .null, .null, .null, .int 0, .null, .null, .int 0]))] sz) (wTS h0 q c) ∧ va_K (dC, dI) gx_cl (kTS c) t) (va_A [(h0, .inr (8, [.null, .null, .null, .null, .null, .null, .null, .null, .null, .null, .null, .int 0, .null, .null, .int 0]))] sz)) 102 7488 (va_A [(h0, .inr (8, [.null, .null, .null, .null, .null, .null, .null, .null, .null, .null, .null, .int 0, .null, .null, .int 0]))] sz) := by
  refine Met.ofW (cc := b_TS_init) (maxL := 2) (ret := none) (by decide) rfl ?_
  intro p e s m args below meth c s₁ B hml hv
  obtain ⟨rfl, hsz, hP, hK, hD0, hJ⟩ := hv
  have hx := B.exec
  have hb := B.bytes
  have hr := B.returns
  have hts := atoms_spec (ws := w_TS_init) B.pre
  have hB : ∀ w ∈ gx_B, w.before _ s = true := fun w h => hts w (List.mem_cons_of_mem _ h)
  have hown : s.vm.findClass RTS = some m.cls := findClass_of_methodNamed B.named
  have hlocks := B.notSynchronized
  have hin : meth.name = "<init>" := (name_of_methodNamed B.named B.method).1
  subst hsz
  have haS := (Array.getElem?_eq_some_iff.mp hJ.2.2.2.2.2.1).1
  have haT := (Array.getElem?_eq_some_iff.mp hJ.2.2.2.2.2.2).1
  have hoS : ¬ va_A [(h0, .inr (8, [.null, .null, .null, .null, .null, .null, .null, .null, .null, .null, .null, .int 0, .null, .null, .int 0]))] s.heap.size aS := jx_off hP hJ.2.2.2.2.2.1 hJ.2.2.2.1.stat haS
  have hoT : ¬ va_A [(h0, .inr (8, [.null, .null, .null, .null, .null, .null, .null, .null, .null, .null, .null, .int 0, .null, .null, .int 0]))] s.heap.size aT := jx_off hP hJ.2.2.2.2.2.2 hJ.2.2.2.2.1.stat haT
  have hD := hD0.self (sz := s.heap.size)
  generalize hAe : va_A [(h0, .inr (8, [.null, .null, .null, .null, .null, .null, .null, .null, .null, .null, .null, .int 0, .null, .null, .int 0]))] s.heap.size = A at hD hoS hoT ⊢
  have hA : ∀ q : Nat, s.heap.size ≤ q → A q := fun q h => by rw [← hAe]; exact Or.inr h
  have hS : va_S A s.heap s.heap [] := va_S.rf
  have hP : va_P (dC, dI) gx_cl [(h0, .inr (8, [.null, .null, .null, .null, .null, .null, .null, .null, .null, .null, .null, .int 0, .null, .null, .int 0]))] s.heap := hP
  have hl := lv_entry ([.ref h0]) (n := 2) (Nat.le_of_ble_eq_true rfl)
  rw [lg_entry_eq]
  generalize (lg_sl ([.ref h0]) ++ List.replicate (2 - (lg_sl ([.ref h0])).length) Slot.unset).toArray = ls at hl ⊢
  have hl : lv_has ls 2 [(0, .ref h0)] := hl
  refine lv_aload_n hx hb d_TS_init_0 rfl (lv_at hl 0 rfl) ?_
  refine W.objInit hx hb hown (hB _ hw_93) (hB _ hw_94) (hB _ hw_oc) rfl (by rw [hml]; exact hl.1) rfl d_TS_init_1 (Nat.le_of_ble_eq_true rfl) (Nat.le_of_ble_eq_true rfl) ?_
  refine W.eq (g2 := F0 m 4 ls []) rfl ?_
  refine lv_aload_n hx hb d_TS_init_4 rfl (lv_at hl 0 rfl) ?_
  refine va_new (D := (dC, dI)) (ci := 1) (fs := [.null, .null, .int 0, .int 0, .int 0, .int 0]) (C := RCa) (T := FCa) (N := 6) hx hb hB in_Ca tCa tCa_ok hown (hB _ hw_96) (hB _ hw_97) (hB _ hw_67) hK hP hD hS hA rfl (fun j hj => by rcases (show j = 0 ∨ j = 1 ∨ j = 2 ∨ j = 3 ∨ j = 4 ∨ j = 5 by omega) with rfl | rfl | rfl | rfl | rfl | rfl <;> rfl) (Nat.le_of_ble_eq_true rfl) (Nat.le_of_ble_eq_true rfl) d_TS_init_5 (fun q1 H hP hD hS => ?_)
  have hP : va_P (dC, dI) gx_cl [(h0, .inr (8, [.null, .null, .null, .null, .null, .null, .null, .null, .null, .null, .null, .int 0, .null, .null, .int 0])), (q1, .inr (1, [.null, .null, .int 0, .int 0, .int 0, .int 0]))] H := hP
  have hD : va_D A [(h0, .inr (8, [.null, .null, .null, .null, .null, .null, .null, .null, .null, .null, .null, .int 0, .null, .null, .int 0])), (q1, .inr (1, [.null, .null, .int 0, .int 0, .int 0, .int 0]))] := hD
  refine W.widen (k := 1) (n := 6) (Nat.le_of_ble_eq_true rfl) (Nat.le_of_ble_eq_true rfl) ?_
  refine lv_dup hx hb d_TS_init_8 rfl ?_
  have hPc := hP.sub (ws' := [(q1, .inr (1, [.null, .null, .int 0, .int 0, .int 0, .int 0]))]) [1] rfl
  have hDc := hD.sub (ws' := [(q1, .inr (1, [.null, .null, .int 0, .int 0, .int 0, .int 0]))]) [1] (by decide) rfl
  have hKc := hK.sub (tys' := []) [] rfl
  have hFc := va_free (wc := [(q1, .inr (1, [.null, .null, .int 0, .int 0, .int 0, .int 0]))]) hD hS hA [1] rfl
  refine va_callv (va_runIN (own := "TapeSealer") (index := 9) (host := "TapeSealer") (As := []) (rest := [.ref q1, .ref h0]) ⟨hx, hb, hml, hown, hts⟩ (c_Ca_init l dC dI aS aT cS cT q1 H.size) ⟨va_cnB 0 hts (gx_good k_Ca_init) rfl rfl rfl (hJ.1 _ (List.mem_of_getElem? (i := 98) (by decide +kernel)) rfl) (hB _ hw_67) (by decide +kernel) ⟨(Nat.le_of_ble_eq_true rfl), (Nat.le_of_ble_eq_true rfl)⟩, rfl, hB _ hw_99⟩ ⟨fun a U g mk q => by obtain ⟨q0, q1, qP, qK, qD, qJ⟩ := q; exact ⟨q0, q1, qP, va_K.moved (u := U) (U := U.calling g mk a) (Vm.Alike.refl U.vm) qK, qD, qJ.call g mk a⟩, fun U hU hW => ⟨rfl, by rw [hU], by rw [hU]; exact hPc, va_K.moved hW.alike hKc, hDc.weaken (fun _ _ _ _ => trivial), hJ.move hW (by rw [hU]; exact hS.2.1 aS haS hoS) (by rw [hU]; exact hS.2.1 aT haT hoT)⟩⟩ rfl rfl hl.1 rfl (lv_room (Nat.le_of_ble_eq_true rfl)) d_TS_init_9 ⟨(Nat.le_of_ble_eq_true rfl), (Nat.le_of_ble_eq_true rfl)⟩) hS (fun q _ h => hFc q h) hFc (fun u t H1 locs ht hvm hw hB1 hz1 hk1 hS => ?_)
  obtain ⟨q2, q3, cA4, cA5, cA6, hP1, hD1, hK1⟩ := hB1
  rw [ht] at hP1
  obtain ⟨hP, hD⟩ := va_join (wr := [(h0, .inr (8, [.null, .null, .null, .null, .null, .null, .null, .null, .null, .null, .null, .int 0, .null, .null, .int 0]))]) (w1 := ([(q1, .inr (1, [.ref q2, .ref q3, .int 0, .int (-1), .int 0, .int 0])), (q2, .inl (cA4, 44, .inr (.inr (.inr (.inr (mx_g q2 44)))))), (q3, .inl (cA6, 44, .inl (fun _ => 0)))] ++ mx_Y q2 cA5)) hP hD [1] [0] rfl rfl (by decide) (by decide) hk1 hFc hP1 hD1
  have hK := hK.app (va_K.moved hvm.symm hK1)
  have hK : va_K (dC, dI) gx_cl [(cA4, .array .int), (cA5, .int), (cA6, .boolean)] s := hK
  generalize H1 = H at hP hS ⊢
  have hP : va_P (dC, dI) gx_cl ([(h0, .inr (8, [.null, .null, .null, .null, .null, .null, .null, .null, .null, .null, .null, .int 0, .null, .null, .int 0])), (q1, .inr (1, [.ref q2, .ref q3, .int 0, .int (-1), .int 0, .int 0])), (q2, .inl (cA4, 44, .inr (.inr (.inr (.inr (mx_g q2 44)))))), (q3, .inl (cA6, 44, .inl (fun _ => 0)))] ++ mx_Y q2 cA5) H := hP
  have hD : va_D A ([(h0, .inr (8, [.null, .null, .null, .null, .null, .null, .null, .null, .null, .null, .null, .int 0, .null, .null, .int 0])), (q1, .inr (1, [.ref q2, .ref q3, .int 0, .int (-1), .int 0, .int 0])), (q2, .inl (cA4, 44, .inr (.inr (.inr (.inr (mx_g q2 44)))))), (q3, .inl (cA6, 44, .inl (fun _ => 0)))] ++ mx_Y q2 cA5) := hD
  refine W.widen (k := 47) (n := 2910) (Nat.le_of_ble_eq_true rfl) (Nat.le_of_ble_eq_true rfl) ?_
  refine va_putF (D := (dC, dI)) (ci := 8) (v := .ref q1) (ty := .object "TapeSealer$Cartridge") (C := RTS) (T := FTS) (N := 15) hx hb hB in_TS tTS tTS_ok nTS hown hK hP hD hS 0 rfl rfl 0 (by decide) (hB _ hw_307) (fun _ h9 => h9) rfl hin rfl (by decide +kernel) rfl rfl (Nat.le_of_ble_eq_true rfl) d_TS_init_12 (fun H locs hP hD hS => ?_)
  have hP : va_P (dC, dI) gx_cl ([(h0, .inr (8, [.ref q1, .null, .null, .null, .null, .null, .null, .null, .null, .null, .null, .int 0, .null, .null, .int 0])), (q1, .inr (1, [.ref q2, .ref q3, .int 0, .int (-1), .int 0, .int 0])), (q2, .inl (cA4, 44, .inr (.inr (.inr (.inr (mx_g q2 44)))))), (q3, .inl (cA6, 44, .inl (fun _ => 0)))] ++ mx_Y q2 cA5) H := hP
  have hD : va_D A ([(h0, .inr (8, [.ref q1, .null, .null, .null, .null, .null, .null, .null, .null, .null, .null, .int 0, .null, .null, .int 0])), (q1, .inr (1, [.ref q2, .ref q3, .int 0, .int (-1), .int 0, .int 0])), (q2, .inl (cA4, 44, .inr (.inr (.inr (.inr (mx_g q2 44)))))), (q3, .inl (cA6, 44, .inl (fun _ => 0)))] ++ mx_Y q2 cA5) := hD
  refine lv_aload_n hx hb d_TS_init_15 rfl (lv_at hl 0 rfl) ?_
  refine va_new (D := (dC, dI)) (ci := 3) (fs := [.null, .null, .int 0]) (C := REp) (T := FEp) (N := 3) hx hb hB in_Ep tEp tEp_ok hown (hB _ hw_133) (hB _ hw_134) (hB _ hw_68) hK hP hD hS hA rfl (fun j hj => by rcases (show j = 0 ∨ j = 1 ∨ j = 2 by omega) with rfl | rfl | rfl <;> rfl) (Nat.le_of_ble_eq_true rfl) (Nat.le_of_ble_eq_true rfl) d_TS_init_16 (fun q7 H hP hD hS => ?_)
  have hP := hP.sub (ws' := ([(h0, .inr (8, [.ref q1, .null, .null, .null, .null, .null, .null, .null, .null, .null, .null, .int 0, .null, .null, .int 0])), (q1, .inr (1, [.ref q2, .ref q3, .int 0, .int (-1), .int 0, .int 0])), (q2, .inl (cA4, 44, .inr (.inr (.inr (.inr (mx_g q2 44)))))), (q3, .inl (cA6, 44, .inl (fun _ => 0))), (q7, .inr (3, [.null, .null, .int 0]))] ++ mx_Y q2 cA5)) [0, 1, 2, 3, 48, 4, 5, 6, 7, 8, 9, 10, 11, 12, 13, 14, 15, 16, 17, 18, 19, 20, 21, 22, 23, 24, 25, 26, 27, 28, 29, 30, 31, 32, 33, 34, 35, 36, 37, 38, 39, 40, 41, 42, 43, 44, 45, 46, 47] rfl
  have hD := hD.sub (ws' := ([(h0, .inr (8, [.ref q1, .null, .null, .null, .null, .null, .null, .null, .null, .null, .null, .int 0, .null, .null, .int 0])), (q1, .inr (1, [.ref q2, .ref q3, .int 0, .int (-1), .int 0, .int 0])), (q2, .inl (cA4, 44, .inr (.inr (.inr (.inr (mx_g q2 44)))))), (q3, .inl (cA6, 44, .inl (fun _ => 0))), (q7, .inr (3, [.null, .null, .int 0]))] ++ mx_Y q2 cA5)) [0, 1, 2, 3, 48, 4, 5, 6, 7, 8, 9, 10, 11, 12, 13, 14, 15, 16, 17, 18, 19, 20, 21, 22, 23, 24, 25, 26, 27, 28, 29, 30, 31, 32, 33, 34, 35, 36, 37, 38, 39, 40, 41, 42, 43, 44, 45, 46, 47] (by decide) rfl
  refine W.widen (k := 48) (n := 2913) (Nat.le_of_ble_eq_true rfl) (Nat.le_of_ble_eq_true rfl) ?_
  refine lv_dup hx hb d_TS_init_19 rfl ?_
  have hPc := hP.sub (ws' := [(q7, .inr (3, [.null, .null, .int 0]))]) [4] rfl
  have hDc := hD.sub (ws' := [(q7, .inr (3, [.null, .null, .int 0]))]) [4] (by decide) rfl
  have hKc := hK.sub (tys' := []) [] rfl
  have hFc := va_free (wc := [(q7, .inr (3, [.null, .null, .int 0]))]) hD hS hA [4] rfl
  refine va_callv (va_runIN (own := "TapeSealer") (index := 18) (host := "TapeSealer") (As := []) (rest := [.ref q7, .ref h0]) ⟨hx, hb, hml, hown, hts⟩ (c_Ep_init l dC dI aS aT cS cT q7 H.size) ⟨va_cnB 0 hts (gx_good k_Ep_init) rfl rfl rfl (hJ.1 _ (List.mem_of_getElem? (i := 135) (by decide +kernel)) rfl) (hB _ hw_68) (by decide +kernel) ⟨(Nat.le_of_ble_eq_true rfl), (Nat.le_of_ble_eq_true rfl)⟩, rfl, hB _ hw_136⟩ ⟨fun a U g mk q => by obtain ⟨q0, q1, qP, qK, qD, qJ⟩ := q; exact ⟨q0, q1, qP, va_K.moved (u := U) (U := U.calling g mk a) (Vm.Alike.refl U.vm) qK, qD, qJ.call g mk a⟩, fun U hU hW => ⟨rfl, by rw [hU], by rw [hU]; exact hPc, va_K.moved hW.alike hKc, hDc.weaken (fun _ _ _ _ => trivial), hJ.move hW (by rw [hU]; exact hS.2.1 aS haS hoS) (by rw [hU]; exact hS.2.1 aT haT hoT)⟩⟩ rfl rfl hl.1 rfl (lv_room (Nat.le_of_ble_eq_true rfl)) d_TS_init_20 ⟨(Nat.le_of_ble_eq_true rfl), (Nat.le_of_ble_eq_true rfl)⟩) hS (fun q _ h => hFc q h) hFc (fun u t H1 locs ht hvm hw hB1 hz1 hk1 hS => ?_)
  obtain ⟨q8, q9, hP1, hD1⟩ := hB1
  rw [ht] at hP1
  obtain ⟨hP, hD⟩ := va_join (wr := ([(h0, .inr (8, [.ref q1, .null, .null, .null, .null, .null, .null, .null, .null, .null, .null, .int 0, .null, .null, .int 0])), (q1, .inr (1, [.ref q2, .ref q3, .int 0, .int (-1), .int 0, .int 0])), (q2, .inl (cA4, 44, .inr (.inr (.inr (.inr (mx_g q2 44)))))), (q3, .inl (cA6, 44, .inl (fun _ => 0)))] ++ mx_Y q2 cA5)) (w1 := [(q7, .inr (3, [.ref q8, .ref q9, .int 0]))]) hP hD [4] [0, 1, 2, 3, 5, 6, 7, 8, 9, 10, 11, 12, 13, 14, 15, 16, 17, 18, 19, 20, 21, 22, 23, 24, 25, 26, 27, 28, 29, 30, 31, 32, 33, 34, 35, 36, 37, 38, 39, 40, 41, 42, 43, 44, 45, 46, 47, 48] rfl rfl (by decide) (by decide) hk1 hFc hP1 hD1
  generalize H1 = H at hP hS ⊢
  have hP := hP.sub (ws' := ([(h0, .inr (8, [.ref q1, .null, .null, .null, .null, .null, .null, .null, .null, .null, .null, .int 0, .null, .null, .int 0])), (q1, .inr (1, [.ref q2, .ref q3, .int 0, .int (-1), .int 0, .int 0])), (q2, .inl (cA4, 44, .inr (.inr (.inr (.inr (mx_g q2 44)))))), (q3, .inl (cA6, 44, .inl (fun _ => 0))), (q7, .inr (3, [.ref q8, .ref q9, .int 0]))] ++ mx_Y q2 cA5)) [0, 1, 2, 3, 48, 4, 5, 6, 7, 8, 9, 10, 11, 12, 13, 14, 15, 16, 17, 18, 19, 20, 21, 22, 23, 24, 25, 26, 27, 28, 29, 30, 31, 32, 33, 34, 35, 36, 37, 38, 39, 40, 41, 42, 43, 44, 45, 46, 47] rfl
  have hD := hD.sub (ws' := ([(h0, .inr (8, [.ref q1, .null, .null, .null, .null, .null, .null, .null, .null, .null, .null, .int 0, .null, .null, .int 0])), (q1, .inr (1, [.ref q2, .ref q3, .int 0, .int (-1), .int 0, .int 0])), (q2, .inl (cA4, 44, .inr (.inr (.inr (.inr (mx_g q2 44)))))), (q3, .inl (cA6, 44, .inl (fun _ => 0))), (q7, .inr (3, [.ref q8, .ref q9, .int 0]))] ++ mx_Y q2 cA5)) [0, 1, 2, 3, 48, 4, 5, 6, 7, 8, 9, 10, 11, 12, 13, 14, 15, 16, 17, 18, 19, 20, 21, 22, 23, 24, 25, 26, 27, 28, 29, 30, 31, 32, 33, 34, 35, 36, 37, 38, 39, 40, 41, 42, 43, 44, 45, 46, 47] (by decide) rfl
  refine W.widen (k := 60) (n := 3253) (Nat.le_of_ble_eq_true rfl) (Nat.le_of_ble_eq_true rfl) ?_
  refine va_putF (D := (dC, dI)) (ci := 8) (v := .ref q7) (ty := .object "TapeSealer$Epochs") (C := RTS) (T := FTS) (N := 15) hx hb hB in_TS tTS tTS_ok nTS hown hK hP hD hS 0 rfl rfl 1 (by decide) (hB _ hw_308) (fun _ h9 => h9) rfl hin rfl (by decide +kernel) rfl rfl (Nat.le_of_ble_eq_true rfl) d_TS_init_23 (fun H locs hP hD hS => ?_)
  have hP : va_P (dC, dI) gx_cl ([(h0, .inr (8, [.ref q1, .ref q7, .null, .null, .null, .null, .null, .null, .null, .null, .null, .int 0, .null, .null, .int 0])), (q1, .inr (1, [.ref q2, .ref q3, .int 0, .int (-1), .int 0, .int 0])), (q2, .inl (cA4, 44, .inr (.inr (.inr (.inr (mx_g q2 44)))))), (q3, .inl (cA6, 44, .inl (fun _ => 0))), (q7, .inr (3, [.ref q8, .ref q9, .int 0]))] ++ mx_Y q2 cA5) H := hP
  have hD : va_D A ([(h0, .inr (8, [.ref q1, .ref q7, .null, .null, .null, .null, .null, .null, .null, .null, .null, .int 0, .null, .null, .int 0])), (q1, .inr (1, [.ref q2, .ref q3, .int 0, .int (-1), .int 0, .int 0])), (q2, .inl (cA4, 44, .inr (.inr (.inr (.inr (mx_g q2 44)))))), (q3, .inl (cA6, 44, .inl (fun _ => 0))), (q7, .inr (3, [.ref q8, .ref q9, .int 0]))] ++ mx_Y q2 cA5) := hD
  refine lv_aload_n hx hb d_TS_init_26 rfl (lv_at hl 0 rfl) ?_
  refine va_new (D := (dC, dI)) (ci := 6) (fs := [.null, .null, .null, .null, .null]) (C := RSe) (T := FSe) (N := 5) hx hb hB in_Se tSe tSe_ok hown (hB _ hw_152) (hB _ hw_153) (hB _ hw_69) hK hP hD hS hA rfl (fun j hj => by rcases (show j = 0 ∨ j = 1 ∨ j = 2 ∨ j = 3 ∨ j = 4 by omega) with rfl | rfl | rfl | rfl | rfl <;> rfl) (Nat.le_of_ble_eq_true rfl) (Nat.le_of_ble_eq_true rfl) d_TS_init_27 (fun q10 H hP hD hS => ?_)
  have hP := hP.sub (ws' := ([(h0, .inr (8, [.ref q1, .ref q7, .null, .null, .null, .null, .null, .null, .null, .null, .null, .int 0, .null, .null, .int 0])), (q1, .inr (1, [.ref q2, .ref q3, .int 0, .int (-1), .int 0, .int 0])), (q2, .inl (cA4, 44, .inr (.inr (.inr (.inr (mx_g q2 44)))))), (q3, .inl (cA6, 44, .inl (fun _ => 0))), (q7, .inr (3, [.ref q8, .ref q9, .int 0])), (q10, .inr (6, [.null, .null, .null, .null, .null]))] ++ mx_Y q2 cA5)) [0, 1, 2, 3, 4, 49, 5, 6, 7, 8, 9, 10, 11, 12, 13, 14, 15, 16, 17, 18, 19, 20, 21, 22, 23, 24, 25, 26, 27, 28, 29, 30, 31, 32, 33, 34, 35, 36, 37, 38, 39, 40, 41, 42, 43, 44, 45, 46, 47, 48] rfl
  have hD := hD.sub (ws' := ([(h0, .inr (8, [.ref q1, .ref q7, .null, .null, .null, .null, .null, .null, .null, .null, .null, .int 0, .null, .null, .int 0])), (q1, .inr (1, [.ref q2, .ref q3, .int 0, .int (-1), .int 0, .int 0])), (q2, .inl (cA4, 44, .inr (.inr (.inr (.inr (mx_g q2 44)))))), (q3, .inl (cA6, 44, .inl (fun _ => 0))), (q7, .inr (3, [.ref q8, .ref q9, .int 0])), (q10, .inr (6, [.null, .null, .null, .null, .null]))] ++ mx_Y q2 cA5)) [0, 1, 2, 3, 4, 49, 5, 6, 7, 8, 9, 10, 11, 12, 13, 14, 15, 16, 17, 18, 19, 20, 21, 22, 23, 24, 25, 26, 27, 28, 29, 30, 31, 32, 33, 34, 35, 36, 37, 38, 39, 40, 41, 42, 43, 44, 45, 46, 47, 48] (by decide) rfl
  refine W.widen (k := 61) (n := 3258) (Nat.le_of_ble_eq_true rfl) (Nat.le_of_ble_eq_true rfl) ?_
  refine lv_dup hx hb d_TS_init_30 rfl ?_
  have hPc := hP.sub (ws' := [(q10, .inr (6, [.null, .null, .null, .null, .null]))]) [5] rfl
  have hDc := hD.sub (ws' := [(q10, .inr (6, [.null, .null, .null, .null, .null]))]) [5] (by decide) rfl
  have hKc := hK.sub (tys' := []) [] rfl
  have hFc := va_free (wc := [(q10, .inr (6, [.null, .null, .null, .null, .null]))]) hD hS hA [5] rfl
  refine va_callv (va_runIN (own := "TapeSealer") (index := 25) (host := "TapeSealer") (As := []) (rest := [.ref q10, .ref h0]) ⟨hx, hb, hml, hown, hts⟩ (c_Se_init l dC dI aS aT cS cT q10 H.size) ⟨va_cnB 0 hts (gx_good k_Se_init) rfl rfl rfl (hJ.1 _ (List.mem_of_getElem? (i := 154) (by decide +kernel)) rfl) (hB _ hw_69) (by decide +kernel) ⟨(Nat.le_of_ble_eq_true rfl), (Nat.le_of_ble_eq_true rfl)⟩, rfl, hB _ hw_155⟩ ⟨fun a U g mk q => by obtain ⟨q0, q1, qP, qK, qD, qJ⟩ := q; exact ⟨q0, q1, qP, va_K.moved (u := U) (U := U.calling g mk a) (Vm.Alike.refl U.vm) qK, qD, qJ.call g mk a⟩, fun U hU hW => ⟨rfl, by rw [hU], by rw [hU]; exact hPc, va_K.moved hW.alike hKc, hDc.weaken (fun _ _ _ _ => trivial), hJ.move hW (by rw [hU]; exact hS.2.1 aS haS hoS) (by rw [hU]; exact hS.2.1 aT haT hoT)⟩⟩ rfl rfl hl.1 rfl (lv_room (Nat.le_of_ble_eq_true rfl)) d_TS_init_31 ⟨(Nat.le_of_ble_eq_true rfl), (Nat.le_of_ble_eq_true rfl)⟩) hS (fun q _ h => hFc q h) hFc (fun u t H1 locs ht hvm hw hB1 hz1 hk1 hS => ?_)
  obtain ⟨hP, hD⟩ := va_join (wr := ([(h0, .inr (8, [.ref q1, .ref q7, .null, .null, .null, .null, .null, .null, .null, .null, .null, .int 0, .null, .null, .int 0])), (q1, .inr (1, [.ref q2, .ref q3, .int 0, .int (-1), .int 0, .int 0])), (q2, .inl (cA4, 44, .inr (.inr (.inr (.inr (mx_g q2 44)))))), (q3, .inl (cA6, 44, .inl (fun _ => 0))), (q7, .inr (3, [.ref q8, .ref q9, .int 0]))] ++ mx_Y q2 cA5)) (w1 := []) hP hD [5] [0, 1, 2, 3, 4, 6, 7, 8, 9, 10, 11, 12, 13, 14, 15, 16, 17, 18, 19, 20, 21, 22, 23, 24, 25, 26, 27, 28, 29, 30, 31, 32, 33, 34, 35, 36, 37, 38, 39, 40, 41, 42, 43, 44, 45, 46, 47, 48, 49] rfl rfl (by decide) (by decide) hk1 hFc gx_P0 gx_D0
  generalize H1 = H at hP hS ⊢
  have hP := hP.sub (ws' := ([(h0, .inr (8, [.ref q1, .ref q7, .null, .null, .null, .null, .null, .null, .null, .null, .null, .int 0, .null, .null, .int 0])), (q1, .inr (1, [.ref q2, .ref q3, .int 0, .int (-1), .int 0, .int 0])), (q2, .inl (cA4, 44, .inr (.inr (.inr (.inr (mx_g q2 44)))))), (q3, .inl (cA6, 44, .inl (fun _ => 0))), (q7, .inr (3, [.ref q8, .ref q9, .int 0]))] ++ mx_Y q2 cA5)) [0, 1, 2, 3, 4, 5, 6, 7, 8, 9, 10, 11, 12, 13, 14, 15, 16, 17, 18, 19, 20, 21, 22, 23, 24, 25, 26, 27, 28, 29, 30, 31, 32, 33, 34, 35, 36, 37, 38, 39, 40, 41, 42, 43, 44, 45, 46, 47, 48] rfl
  have hD := hD.sub (ws' := ([(h0, .inr (8, [.ref q1, .ref q7, .null, .null, .null, .null, .null, .null, .null, .null, .null, .int 0, .null, .null, .int 0])), (q1, .inr (1, [.ref q2, .ref q3, .int 0, .int (-1), .int 0, .int 0])), (q2, .inl (cA4, 44, .inr (.inr (.inr (.inr (mx_g q2 44)))))), (q3, .inl (cA6, 44, .inl (fun _ => 0))), (q7, .inr (3, [.ref q8, .ref q9, .int 0]))] ++ mx_Y q2 cA5)) [0, 1, 2, 3, 4, 5, 6, 7, 8, 9, 10, 11, 12, 13, 14, 15, 16, 17, 18, 19, 20, 21, 22, 23, 24, 25, 26, 27, 28, 29, 30, 31, 32, 33, 34, 35, 36, 37, 38, 39, 40, 41, 42, 43, 44, 45, 46, 47, 48] (by decide) rfl
  refine W.widen (k := 74) (n := 3441) (Nat.le_of_ble_eq_true rfl) (Nat.le_of_ble_eq_true rfl) ?_
  refine va_putF (D := (dC, dI)) (ci := 8) (v := .ref q10) (ty := .object "TapeSealer$Sealing") (C := RTS) (T := FTS) (N := 15) hx hb hB in_TS tTS tTS_ok nTS hown hK hP hD hS 0 rfl rfl 2 (by decide) (hB _ hw_309) (fun _ h9 => h9) rfl hin rfl (by decide +kernel) rfl rfl (Nat.le_of_ble_eq_true rfl) d_TS_init_34 (fun H locs hP hD hS => ?_)
  have hP : va_P (dC, dI) gx_cl ([(h0, .inr (8, [.ref q1, .ref q7, .ref q10, .null, .null, .null, .null, .null, .null, .null, .null, .int 0, .null, .null, .int 0])), (q1, .inr (1, [.ref q2, .ref q3, .int 0, .int (-1), .int 0, .int 0])), (q2, .inl (cA4, 44, .inr (.inr (.inr (.inr (mx_g q2 44)))))), (q3, .inl (cA6, 44, .inl (fun _ => 0))), (q7, .inr (3, [.ref q8, .ref q9, .int 0]))] ++ mx_Y q2 cA5) H := hP
  have hD : va_D A ([(h0, .inr (8, [.ref q1, .ref q7, .ref q10, .null, .null, .null, .null, .null, .null, .null, .null, .int 0, .null, .null, .int 0])), (q1, .inr (1, [.ref q2, .ref q3, .int 0, .int (-1), .int 0, .int 0])), (q2, .inl (cA4, 44, .inr (.inr (.inr (.inr (mx_g q2 44)))))), (q3, .inl (cA6, 44, .inl (fun _ => 0))), (q7, .inr (3, [.ref q8, .ref q9, .int 0]))] ++ mx_Y q2 cA5) := hD
  refine lv_aload_n hx hb d_TS_init_37 rfl (lv_at hl 0 rfl) ?_
  refine va_new (D := (dC, dI)) (ci := 7) (fs := [.null, .null, .null, .null, .int 0]) (C := RSt) (T := FSt) (N := 5) hx hb hB in_St tSt tSt_ok hown (hB _ hw_215) (hB _ hw_216) (hB _ hw_72) hK hP hD hS hA rfl (fun j hj => by rcases (show j = 0 ∨ j = 1 ∨ j = 2 ∨ j = 3 ∨ j = 4 by omega) with rfl | rfl | rfl | rfl | rfl <;> rfl) (Nat.le_of_ble_eq_true rfl) (Nat.le_of_ble_eq_true rfl) d_TS_init_38 (fun q11 H hP hD hS => ?_)
  have hP := hP.sub (ws' := ([(h0, .inr (8, [.ref q1, .ref q7, .ref q10, .null, .null, .null, .null, .null, .null, .null, .null, .int 0, .null, .null, .int 0])), (q1, .inr (1, [.ref q2, .ref q3, .int 0, .int (-1), .int 0, .int 0])), (q2, .inl (cA4, 44, .inr (.inr (.inr (.inr (mx_g q2 44)))))), (q3, .inl (cA6, 44, .inl (fun _ => 0))), (q7, .inr (3, [.ref q8, .ref q9, .int 0])), (q11, .inr (7, [.null, .null, .null, .null, .int 0]))] ++ mx_Y q2 cA5)) [0, 1, 2, 3, 4, 49, 5, 6, 7, 8, 9, 10, 11, 12, 13, 14, 15, 16, 17, 18, 19, 20, 21, 22, 23, 24, 25, 26, 27, 28, 29, 30, 31, 32, 33, 34, 35, 36, 37, 38, 39, 40, 41, 42, 43, 44, 45, 46, 47, 48] rfl
  have hD := hD.sub (ws' := ([(h0, .inr (8, [.ref q1, .ref q7, .ref q10, .null, .null, .null, .null, .null, .null, .null, .null, .int 0, .null, .null, .int 0])), (q1, .inr (1, [.ref q2, .ref q3, .int 0, .int (-1), .int 0, .int 0])), (q2, .inl (cA4, 44, .inr (.inr (.inr (.inr (mx_g q2 44)))))), (q3, .inl (cA6, 44, .inl (fun _ => 0))), (q7, .inr (3, [.ref q8, .ref q9, .int 0])), (q11, .inr (7, [.null, .null, .null, .null, .int 0]))] ++ mx_Y q2 cA5)) [0, 1, 2, 3, 4, 49, 5, 6, 7, 8, 9, 10, 11, 12, 13, 14, 15, 16, 17, 18, 19, 20, 21, 22, 23, 24, 25, 26, 27, 28, 29, 30, 31, 32, 33, 34, 35, 36, 37, 38, 39, 40, 41, 42, 43, 44, 45, 46, 47, 48] (by decide) rfl
  refine W.widen (k := 75) (n := 3446) (Nat.le_of_ble_eq_true rfl) (Nat.le_of_ble_eq_true rfl) ?_
  refine lv_dup hx hb d_TS_init_41 rfl ?_
  refine lv_aload_n hx hb d_TS_init_42 rfl (lv_at hl 0 rfl) ?_
  refine va_get (D := (dC, dI)) (ci := 8) (v := .ref q1) (C := RTS) (T := FTS) (N := 15) hx hb hB in_TS hown hK hP 0 rfl rfl 0 (by decide) (hB _ hw_307) (fun _ h9 => h9) rfl d_TS_init_43 ?_
  refine lv_aload_n hx hb d_TS_init_46 rfl (lv_at hl 0 rfl) ?_
  refine va_get (D := (dC, dI)) (ci := 8) (v := .ref q10) (C := RTS) (T := FTS) (N := 15) hx hb hB in_TS hown hK hP 0 rfl rfl 2 (by decide) (hB _ hw_309) (fun _ h9 => h9) rfl d_TS_init_47 ?_
  have hPc := hP.sub (ws' := [(q11, .inr (7, [.null, .null, .null, .null, .int 0]))]) [5] rfl
  have hDc := hD.sub (ws' := [(q11, .inr (7, [.null, .null, .null, .null, .int 0]))]) [5] (by decide) rfl
  have hKc := hK.sub (tys' := []) [] rfl
  have hFc := va_free (wc := [(q11, .inr (7, [.null, .null, .null, .null, .int 0]))]) hD hS hA [5] rfl
  refine va_callv (va_runI (As := [.ref q1, .ref q10]) (rest := [.ref q11, .ref h0]) ⟨hx, hb, hml, hown, hts⟩ (c_St_init l dC dI aS aT cS cT q11 H.size q1 q10) (cwI 2 hts (gx_good k_St_init) rfl rfl rfl (hB _ hw_72) (hB _ hw_217) (hB _ hw_218) rfl (by decide +kernel) ⟨(Nat.le_of_ble_eq_true rfl), (Nat.le_of_ble_eq_true rfl)⟩) ⟨fun a U g mk q => by obtain ⟨q0, q1, qP, qK, qD, qJ⟩ := q; exact ⟨q0, q1, qP, va_K.moved (u := U) (U := U.calling g mk a) (Vm.Alike.refl U.vm) qK, qD, qJ.call g mk a⟩, fun U hU hW => ⟨rfl, by rw [hU], by rw [hU]; exact hPc, va_K.moved hW.alike hKc, hDc.weaken (fun _ _ _ _ => trivial), hJ.move hW (by rw [hU]; exact hS.2.1 aS haS hoS) (by rw [hU]; exact hS.2.1 aT haT hoT)⟩⟩ rfl rfl hl.1 rfl (lv_room (Nat.le_of_ble_eq_true rfl)) d_TS_init_50 ⟨(Nat.le_of_ble_eq_true rfl), (Nat.le_of_ble_eq_true rfl)⟩) hS (fun q _ h => hFc q h) hFc (fun u t H1 locs ht hvm hw hB1 hz1 hk1 hS => ?_)
  obtain ⟨hP, hD⟩ := va_join (wr := ([(h0, .inr (8, [.ref q1, .ref q7, .ref q10, .null, .null, .null, .null, .null, .null, .null, .null, .int 0, .null, .null, .int 0])), (q1, .inr (1, [.ref q2, .ref q3, .int 0, .int (-1), .int 0, .int 0])), (q2, .inl (cA4, 44, .inr (.inr (.inr (.inr (mx_g q2 44)))))), (q3, .inl (cA6, 44, .inl (fun _ => 0))), (q7, .inr (3, [.ref q8, .ref q9, .int 0]))] ++ mx_Y q2 cA5)) (w1 := []) hP hD [5] [0, 1, 2, 3, 4, 6, 7, 8, 9, 10, 11, 12, 13, 14, 15, 16, 17, 18, 19, 20, 21, 22, 23, 24, 25, 26, 27, 28, 29, 30, 31, 32, 33, 34, 35, 36, 37, 38, 39, 40, 41, 42, 43, 44, 45, 46, 47, 48, 49] rfl rfl (by decide) (by decide) hk1 hFc gx_P0 gx_D0
  generalize H1 = H at hP hS ⊢
  have hP := hP.sub (ws' := ([(h0, .inr (8, [.ref q1, .ref q7, .ref q10, .null, .null, .null, .null, .null, .null, .null, .null, .int 0, .null, .null, .int 0])), (q1, .inr (1, [.ref q2, .ref q3, .int 0, .int (-1), .int 0, .int 0])), (q2, .inl (cA4, 44, .inr (.inr (.inr (.inr (mx_g q2 44)))))), (q3, .inl (cA6, 44, .inl (fun _ => 0))), (q7, .inr (3, [.ref q8, .ref q9, .int 0]))] ++ mx_Y q2 cA5)) [0, 1, 2, 3, 4, 5, 6, 7, 8, 9, 10, 11, 12, 13, 14, 15, 16, 17, 18, 19, 20, 21, 22, 23, 24, 25, 26, 27, 28, 29, 30, 31, 32, 33, 34, 35, 36, 37, 38, 39, 40, 41, 42, 43, 44, 45, 46, 47, 48] rfl
  have hD := hD.sub (ws' := ([(h0, .inr (8, [.ref q1, .ref q7, .ref q10, .null, .null, .null, .null, .null, .null, .null, .null, .int 0, .null, .null, .int 0])), (q1, .inr (1, [.ref q2, .ref q3, .int 0, .int (-1), .int 0, .int 0])), (q2, .inl (cA4, 44, .inr (.inr (.inr (.inr (mx_g q2 44)))))), (q3, .inl (cA6, 44, .inl (fun _ => 0))), (q7, .inr (3, [.ref q8, .ref q9, .int 0]))] ++ mx_Y q2 cA5)) [0, 1, 2, 3, 4, 5, 6, 7, 8, 9, 10, 11, 12, 13, 14, 15, 16, 17, 18, 19, 20, 21, 22, 23, 24, 25, 26, 27, 28, 29, 30, 31, 32, 33, 34, 35, 36, 37, 38, 39, 40, 41, 42, 43, 44, 45, 46, 47, 48] (by decide) rfl
  refine W.widen (k := 83) (n := 3840) (Nat.le_of_ble_eq_true rfl) (Nat.le_of_ble_eq_true rfl) ?_
  refine va_putF (D := (dC, dI)) (ci := 8) (v := .ref q11) (ty := .object "TapeSealer$Stripe") (C := RTS) (T := FTS) (N := 15) hx hb hB in_TS tTS tTS_ok nTS hown hK hP hD hS 0 rfl rfl 3 (by decide) (hB _ hw_310) (fun _ h9 => h9) rfl hin rfl (by decide +kernel) rfl rfl (Nat.le_of_ble_eq_true rfl) d_TS_init_53 (fun H locs hP hD hS => ?_)
  have hP : va_P (dC, dI) gx_cl ([(h0, .inr (8, [.ref q1, .ref q7, .ref q10, .ref q11, .null, .null, .null, .null, .null, .null, .null, .int 0, .null, .null, .int 0])), (q1, .inr (1, [.ref q2, .ref q3, .int 0, .int (-1), .int 0, .int 0])), (q2, .inl (cA4, 44, .inr (.inr (.inr (.inr (mx_g q2 44)))))), (q3, .inl (cA6, 44, .inl (fun _ => 0))), (q7, .inr (3, [.ref q8, .ref q9, .int 0]))] ++ mx_Y q2 cA5) H := hP
  have hD : va_D A ([(h0, .inr (8, [.ref q1, .ref q7, .ref q10, .ref q11, .null, .null, .null, .null, .null, .null, .null, .int 0, .null, .null, .int 0])), (q1, .inr (1, [.ref q2, .ref q3, .int 0, .int (-1), .int 0, .int 0])), (q2, .inl (cA4, 44, .inr (.inr (.inr (.inr (mx_g q2 44)))))), (q3, .inl (cA6, 44, .inl (fun _ => 0))), (q7, .inr (3, [.ref q8, .ref q9, .int 0]))] ++ mx_Y q2 cA5) := hD
  refine lv_aload_n hx hb d_TS_init_56 rfl (lv_at hl 0 rfl) ?_
  refine lv_iconst (v := 4) hx hb d_TS_init_57 (by decide) ?_
  refine va_newq (D := (dC, dI)) (C := "TapeSealer$Label") hx hb hown (hB _ hw_240) hJ.2.2.1 hK hP hD hS hA (by decide) (N' := 4) rfl (by decide) (Nat.le_of_ble_eq_true rfl) (Nat.le_of_ble_eq_true rfl) d_TS_init_58 (fun q12 cA13 H hK hP hD hS => ?_)
  have hP := hP.sub (ws' := ([(h0, .inr (8, [.ref q1, .ref q7, .ref q10, .ref q11, .null, .null, .null, .null, .null, .null, .null, .int 0, .null, .null, .int 0])), (q1, .inr (1, [.ref q2, .ref q3, .int 0, .int (-1), .int 0, .int 0])), (q2, .inl (cA4, 44, .inr (.inr (.inr (.inr (mx_g q2 44)))))), (q3, .inl (cA6, 44, .inl (fun _ => 0))), (q7, .inr (3, [.ref q8, .ref q9, .int 0])), (q12, .inl (cA13, 4, .inr (.inr (.inr (.inr (fun _ => none))))))] ++ mx_Y q2 cA5)) [0, 1, 2, 3, 4, 49, 5, 6, 7, 8, 9, 10, 11, 12, 13, 14, 15, 16, 17, 18, 19, 20, 21, 22, 23, 24, 25, 26, 27, 28, 29, 30, 31, 32, 33, 34, 35, 36, 37, 38, 39, 40, 41, 42, 43, 44, 45, 46, 47, 48] rfl
  have hD := hD.sub (ws' := ([(h0, .inr (8, [.ref q1, .ref q7, .ref q10, .ref q11, .null, .null, .null, .null, .null, .null, .null, .int 0, .null, .null, .int 0])), (q1, .inr (1, [.ref q2, .ref q3, .int 0, .int (-1), .int 0, .int 0])), (q2, .inl (cA4, 44, .inr (.inr (.inr (.inr (mx_g q2 44)))))), (q3, .inl (cA6, 44, .inl (fun _ => 0))), (q7, .inr (3, [.ref q8, .ref q9, .int 0])), (q12, .inl (cA13, 4, .inr (.inr (.inr (.inr (fun _ => none))))))] ++ mx_Y q2 cA5)) [0, 1, 2, 3, 4, 49, 5, 6, 7, 8, 9, 10, 11, 12, 13, 14, 15, 16, 17, 18, 19, 20, 21, 22, 23, 24, 25, 26, 27, 28, 29, 30, 31, 32, 33, 34, 35, 36, 37, 38, 39, 40, 41, 42, 43, 44, 45, 46, 47, 48] (by decide) rfl
  have hK : va_K (dC, dI) gx_cl [(cA4, .array .int), (cA5, .int), (cA6, .boolean), (cA13, .object "TapeSealer$Label")] s := hK
  refine W.widen (k := 84) (n := 3844) (Nat.le_of_ble_eq_true rfl) (Nat.le_of_ble_eq_true rfl) ?_
  refine va_putF (D := (dC, dI)) (ci := 8) (v := .ref q12) (ty := .array (.object "TapeSealer$Label")) (C := RTS) (T := FTS) (N := 15) hx hb hB in_TS tTS tTS_ok nTS hown hK hP hD hS 0 rfl rfl 4 (by decide) (hB _ hw_311) (fun _ h9 => h9) rfl hin rfl (by decide +kernel) rfl rfl (Nat.le_of_ble_eq_true rfl) d_TS_init_61 (fun H locs hP hD hS => ?_)
  have hP : va_P (dC, dI) gx_cl ([(h0, .inr (8, [.ref q1, .ref q7, .ref q10, .ref q11, .ref q12, .null, .null, .null, .null, .null, .null, .int 0, .null, .null, .int 0])), (q1, .inr (1, [.ref q2, .ref q3, .int 0, .int (-1), .int 0, .int 0])), (q2, .inl (cA4, 44, .inr (.inr (.inr (.inr (mx_g q2 44)))))), (q3, .inl (cA6, 44, .inl (fun _ => 0))), (q7, .inr (3, [.ref q8, .ref q9, .int 0])), (q12, .inl (cA13, 4, .inr (.inr (.inr (.inr (fun _ => none))))))] ++ mx_Y q2 cA5) H := hP
  have hD : va_D A ([(h0, .inr (8, [.ref q1, .ref q7, .ref q10, .ref q11, .ref q12, .null, .null, .null, .null, .null, .null, .int 0, .null, .null, .int 0])), (q1, .inr (1, [.ref q2, .ref q3, .int 0, .int (-1), .int 0, .int 0])), (q2, .inl (cA4, 44, .inr (.inr (.inr (.inr (mx_g q2 44)))))), (q3, .inl (cA6, 44, .inl (fun _ => 0))), (q7, .inr (3, [.ref q8, .ref q9, .int 0])), (q12, .inl (cA13, 4, .inr (.inr (.inr (.inr (fun _ => none))))))] ++ mx_Y q2 cA5) := hD
  refine lv_iconst (v := 0) hx hb d_TS_init_64 (by decide) ?_
  refine lv_istore_n hx hb d_TS_init_65 rfl hl (by decide) rfl (fun ls hl => ?_)
  have hl : lv_has ls 2 [(1, .int 0), (0, .ref h0)] := hl
  refine lv_iload_n hx hb d_TS_init_66 rfl (lv_at hl 0 rfl) ?_
  refine lv_iconst (v := 4) hx hb d_TS_init_67 (by decide) ?_
  refine lv_icmp_ge (tgt := 91) hx hb d_TS_init_68 (by decide) (fun h9 => absurd h9 (by decide)) (fun _ => ?_)
  refine lv_aload_n hx hb d_TS_init_71 rfl (lv_at hl 1 rfl) ?_
  refine va_get (D := (dC, dI)) (ci := 8) (v := .ref q12) (C := RTS) (T := FTS) (N := 15) hx hb hB in_TS hown hK hP 0 rfl rfl 4 (by decide) (hB _ hw_311) (fun _ h9 => h9) rfl d_TS_init_72 ?_
  refine lv_iload_n hx hb d_TS_init_75 rfl (lv_at hl 0 rfl) ?_
  refine va_new (D := (dC, dI)) (ci := 5) (fs := [.null, .int 0, .int 0, .int 0, .int 0, .int 0, .int 0, .int 0]) (C := RLa) (T := FLa) (N := 8) hx hb hB in_La tLa tLa_ok hown (hB _ hw_240) (hB _ hw_242) (hB _ hw_73) hK hP hD hS hA rfl (fun j hj => by rcases (show j = 0 ∨ j = 1 ∨ j = 2 ∨ j = 3 ∨ j = 4 ∨ j = 5 ∨ j = 6 ∨ j = 7 by omega) with rfl | rfl | rfl | rfl | rfl | rfl | rfl | rfl <;> rfl) (Nat.le_of_ble_eq_true rfl) (Nat.le_of_ble_eq_true rfl) d_TS_init_76 (fun q14 H hP hD hS => ?_)
  have hP := hP.sub (ws' := ([(h0, .inr (8, [.ref q1, .ref q7, .ref q10, .ref q11, .ref q12, .null, .null, .null, .null, .null, .null, .int 0, .null, .null, .int 0])), (q1, .inr (1, [.ref q2, .ref q3, .int 0, .int (-1), .int 0, .int 0])), (q2, .inl (cA4, 44, .inr (.inr (.inr (.inr (mx_g q2 44)))))), (q3, .inl (cA6, 44, .inl (fun _ => 0))), (q7, .inr (3, [.ref q8, .ref q9, .int 0])), (q12, .inl (cA13, 4, .inr (.inr (.inr (.inr (fun _ => none)))))), (q14, .inr (5, [.null, .int 0, .int 0, .int 0, .int 0, .int 0, .int 0, .int 0]))] ++ mx_Y q2 cA5)) [0, 1, 2, 3, 4, 5, 50, 6, 7, 8, 9, 10, 11, 12, 13, 14, 15, 16, 17, 18, 19, 20, 21, 22, 23, 24, 25, 26, 27, 28, 29, 30, 31, 32, 33, 34, 35, 36, 37, 38, 39, 40, 41, 42, 43, 44, 45, 46, 47, 48, 49] rfl
  have hD := hD.sub (ws' := ([(h0, .inr (8, [.ref q1, .ref q7, .ref q10, .ref q11, .ref q12, .null, .null, .null, .null, .null, .null, .int 0, .null, .null, .int 0])), (q1, .inr (1, [.ref q2, .ref q3, .int 0, .int (-1), .int 0, .int 0])), (q2, .inl (cA4, 44, .inr (.inr (.inr (.inr (mx_g q2 44)))))), (q3, .inl (cA6, 44, .inl (fun _ => 0))), (q7, .inr (3, [.ref q8, .ref q9, .int 0])), (q12, .inl (cA13, 4, .inr (.inr (.inr (.inr (fun _ => none)))))), (q14, .inr (5, [.null, .int 0, .int 0, .int 0, .int 0, .int 0, .int 0, .int 0]))] ++ mx_Y q2 cA5)) [0, 1, 2, 3, 4, 5, 50, 6, 7, 8, 9, 10, 11, 12, 13, 14, 15, 16, 17, 18, 19, 20, 21, 22, 23, 24, 25, 26, 27, 28, 29, 30, 31, 32, 33, 34, 35, 36, 37, 38, 39, 40, 41, 42, 43, 44, 45, 46, 47, 48, 49] (by decide) rfl
  refine W.widen (k := 85) (n := 3852) (Nat.le_of_ble_eq_true rfl) (Nat.le_of_ble_eq_true rfl) ?_
  refine lv_dup hx hb d_TS_init_79 rfl ?_
  refine lv_iload_n hx hb d_TS_init_80 rfl (lv_at hl 0 rfl) ?_
  have hPc := hP.sub (ws' := [(q14, .inr (5, [.null, .int 0, .int 0, .int 0, .int 0, .int 0, .int 0, .int 0]))]) [6] rfl
  have hDc := hD.sub (ws' := [(q14, .inr (5, [.null, .int 0, .int 0, .int 0, .int 0, .int 0, .int 0, .int 0]))]) [6] (by decide) rfl
  have hKc := hK.sub (tys' := []) [] rfl
  have hFc := va_free (wc := [(q14, .inr (5, [.null, .int 0, .int 0, .int 0, .int 0, .int 0, .int 0, .int 0]))]) hD hS hA [6] rfl
  refine va_callv (va_runI (As := [.int 0]) (rest := [.ref q14, .int 0, .ref q12]) ⟨hx, hb, hml, hown, hts⟩ (c_La_init l dC dI q14 H.size 0) (cwI 1 hts (gx_good k_La_init) rfl rfl rfl (hB _ hw_73) (hB _ hw_243) (hB _ hw_244) rfl (by decide +kernel) ⟨(Nat.le_of_ble_eq_true rfl), (Nat.le_of_ble_eq_true rfl)⟩) ⟨fun a U g mk q => by obtain ⟨q0, q1, qP, qK, qD⟩ := q; exact ⟨q0, q1, qP, va_K.moved (u := U) (U := U.calling g mk a) (Vm.Alike.refl U.vm) qK, qD⟩, fun U hU hW => ⟨rfl, by rw [hU], by rw [hU]; exact hPc, va_K.moved hW.alike hKc, hDc.weaken (fun _ _ _ _ => trivial)⟩⟩ rfl rfl hl.1 rfl (lv_room (Nat.le_of_ble_eq_true rfl)) d_TS_init_81 ⟨(Nat.le_of_ble_eq_true rfl), (Nat.le_of_ble_eq_true rfl)⟩) hS (fun q _ h => hFc q h) hFc (fun u t H1 locs ht hvm hw hB1 hz1 hk1 hS => ?_)
  obtain ⟨q15, hP1, hD1⟩ := hB1
  rw [ht] at hP1
  obtain ⟨hP, hD⟩ := va_join (wr := ([(h0, .inr (8, [.ref q1, .ref q7, .ref q10, .ref q11, .ref q12, .null, .null, .null, .null, .null, .null, .int 0, .null, .null, .int 0])), (q1, .inr (1, [.ref q2, .ref q3, .int 0, .int (-1), .int 0, .int 0])), (q2, .inl (cA4, 44, .inr (.inr (.inr (.inr (mx_g q2 44)))))), (q3, .inl (cA6, 44, .inl (fun _ => 0))), (q7, .inr (3, [.ref q8, .ref q9, .int 0])), (q12, .inl (cA13, 4, .inr (.inr (.inr (.inr (fun _ => none))))))] ++ mx_Y q2 cA5)) (w1 := [(q14, .inr (5, [.ref q15, .int 0, .int 0, .int 0, .int 0, .int 0, .int 0, .int 0]))]) hP hD [6] [0, 1, 2, 3, 4, 5, 7, 8, 9, 10, 11, 12, 13, 14, 15, 16, 17, 18, 19, 20, 21, 22, 23, 24, 25, 26, 27, 28, 29, 30, 31, 32, 33, 34, 35, 36, 37, 38, 39, 40, 41, 42, 43, 44, 45, 46, 47, 48, 49, 50] rfl rfl (by decide) (by decide) hk1 hFc hP1 hD1
  generalize H1 = H at hP hS ⊢
  have hP := hP.sub (ws' := ([(h0, .inr (8, [.ref q1, .ref q7, .ref q10, .ref q11, .ref q12, .null, .null, .null, .null, .null, .null, .int 0, .null, .null, .int 0])), (q1, .inr (1, [.ref q2, .ref q3, .int 0, .int (-1), .int 0, .int 0])), (q2, .inl (cA4, 44, .inr (.inr (.inr (.inr (mx_g q2 44)))))), (q3, .inl (cA6, 44, .inl (fun _ => 0))), (q7, .inr (3, [.ref q8, .ref q9, .int 0])), (q12, .inl (cA13, 4, .inr (.inr (.inr (.inr (fun _ => none)))))), (q14, .inr (5, [.ref q15, .int 0, .int 0, .int 0, .int 0, .int 0, .int 0, .int 0]))] ++ mx_Y q2 cA5)) [0, 1, 2, 3, 4, 5, 50, 6, 7, 8, 9, 10, 11, 12, 13, 14, 15, 16, 17, 18, 19, 20, 21, 22, 23, 24, 25, 26, 27, 28, 29, 30, 31, 32, 33, 34, 35, 36, 37, 38, 39, 40, 41, 42, 43, 44, 45, 46, 47, 48, 49] rfl
  have hD := hD.sub (ws' := ([(h0, .inr (8, [.ref q1, .ref q7, .ref q10, .ref q11, .ref q12, .null, .null, .null, .null, .null, .null, .int 0, .null, .null, .int 0])), (q1, .inr (1, [.ref q2, .ref q3, .int 0, .int (-1), .int 0, .int 0])), (q2, .inl (cA4, 44, .inr (.inr (.inr (.inr (mx_g q2 44)))))), (q3, .inl (cA6, 44, .inl (fun _ => 0))), (q7, .inr (3, [.ref q8, .ref q9, .int 0])), (q12, .inl (cA13, 4, .inr (.inr (.inr (.inr (fun _ => none)))))), (q14, .inr (5, [.ref q15, .int 0, .int 0, .int 0, .int 0, .int 0, .int 0, .int 0]))] ++ mx_Y q2 cA5)) [0, 1, 2, 3, 4, 5, 50, 6, 7, 8, 9, 10, 11, 12, 13, 14, 15, 16, 17, 18, 19, 20, 21, 22, 23, 24, 25, 26, 27, 28, 29, 30, 31, 32, 33, 34, 35, 36, 37, 38, 39, 40, 41, 42, 43, 44, 45, 46, 47, 48, 49] (by decide) rfl
  refine W.widen (k := 86) (n := 3884) (Nat.le_of_ble_eq_true rfl) (Nat.le_of_ble_eq_true rfl) ?_
  refine va_astq (D := (dC, dI)) hx hb hK hP hD hS 5 3 6 5 rfl rfl rfl rfl (by unfold vp_in; decide) d_TS_init_84 (fun H locs hP hD hS => ?_)
  have hP : va_P (dC, dI) gx_cl ([(h0, .inr (8, [.ref q1, .ref q7, .ref q10, .ref q11, .ref q12, .null, .null, .null, .null, .null, .null, .int 0, .null, .null, .int 0])), (q1, .inr (1, [.ref q2, .ref q3, .int 0, .int (-1), .int 0, .int 0])), (q2, .inl (cA4, 44, .inr (.inr (.inr (.inr (mx_g q2 44)))))), (q3, .inl (cA6, 44, .inl (fun _ => 0))), (q7, .inr (3, [.ref q8, .ref q9, .int 0])), (q12, .inl (cA13, 4, .inr (.inr (.inr (.inr (va_up (fun _ => none) 0 (some q14))))))), (q14, .inr (5, [.ref q15, .int 0, .int 0, .int 0, .int 0, .int 0, .int 0, .int 0]))] ++ mx_Y q2 cA5) H := hP
  have hD : va_D A ([(h0, .inr (8, [.ref q1, .ref q7, .ref q10, .ref q11, .ref q12, .null, .null, .null, .null, .null, .null, .int 0, .null, .null, .int 0])), (q1, .inr (1, [.ref q2, .ref q3, .int 0, .int (-1), .int 0, .int 0])), (q2, .inl (cA4, 44, .inr (.inr (.inr (.inr (mx_g q2 44)))))), (q3, .inl (cA6, 44, .inl (fun _ => 0))), (q7, .inr (3, [.ref q8, .ref q9, .int 0])), (q12, .inl (cA13, 4, .inr (.inr (.inr (.inr (va_up (fun _ => none) 0 (some q14))))))), (q14, .inr (5, [.ref q15, .int 0, .int 0, .int 0, .int 0, .int 0, .int 0, .int 0]))] ++ mx_Y q2 cA5) := hD
  refine lv_iinc (k := 0) (v := 1) hx hb d_TS_init_85 hl rfl (by decide) (by decide) rfl (fun ls hl => ?_)
  have hl : lv_has ls 2 [(1, .int 1), (0, .ref h0)] := hl
  refine lv_goto (tgt := 66) hx hb d_TS_init_88 (by decide) ?_
  refine lv_iload_n hx hb d_TS_init_66 rfl (lv_at hl 0 rfl) ?_
  refine lv_iconst (v := 4) hx hb d_TS_init_67 (by decide) ?_
  refine lv_icmp_ge (tgt := 91) hx hb d_TS_init_68 (by decide) (fun h9 => absurd h9 (by decide)) (fun _ => ?_)
  refine lv_aload_n hx hb d_TS_init_71 rfl (lv_at hl 1 rfl) ?_
  refine va_get (D := (dC, dI)) (ci := 8) (v := .ref q12) (C := RTS) (T := FTS) (N := 15) hx hb hB in_TS hown hK hP 0 rfl rfl 4 (by decide) (hB _ hw_311) (fun _ h9 => h9) rfl d_TS_init_72 ?_
  refine lv_iload_n hx hb d_TS_init_75 rfl (lv_at hl 0 rfl) ?_
  refine va_new (D := (dC, dI)) (ci := 5) (fs := [.null, .int 0, .int 0, .int 0, .int 0, .int 0, .int 0, .int 0]) (C := RLa) (T := FLa) (N := 8) hx hb hB in_La tLa tLa_ok hown (hB _ hw_240) (hB _ hw_242) (hB _ hw_73) hK hP hD hS hA rfl (fun j hj => by rcases (show j = 0 ∨ j = 1 ∨ j = 2 ∨ j = 3 ∨ j = 4 ∨ j = 5 ∨ j = 6 ∨ j = 7 by omega) with rfl | rfl | rfl | rfl | rfl | rfl | rfl | rfl <;> rfl) (Nat.le_of_ble_eq_true rfl) (Nat.le_of_ble_eq_true rfl) d_TS_init_76 (fun q16 H hP hD hS => ?_)
  have hP := hP.sub (ws' := ([(h0, .inr (8, [.ref q1, .ref q7, .ref q10, .ref q11, .ref q12, .null, .null, .null, .null, .null, .null, .int 0, .null, .null, .int 0])), (q1, .inr (1, [.ref q2, .ref q3, .int 0, .int (-1), .int 0, .int 0])), (q2, .inl (cA4, 44, .inr (.inr (.inr (.inr (mx_g q2 44)))))), (q3, .inl (cA6, 44, .inl (fun _ => 0))), (q7, .inr (3, [.ref q8, .ref q9, .int 0])), (q12, .inl (cA13, 4, .inr (.inr (.inr (.inr (va_up (fun _ => none) 0 (some q14))))))), (q14, .inr (5, [.ref q15, .int 0, .int 0, .int 0, .int 0, .int 0, .int 0, .int 0])), (q16, .inr (5, [.null, .int 0, .int 0, .int 0, .int 0, .int 0, .int 0, .int 0]))] ++ mx_Y q2 cA5)) [0, 1, 2, 3, 4, 5, 6, 51, 7, 8, 9, 10, 11, 12, 13, 14, 15, 16, 17, 18, 19, 20, 21, 22, 23, 24, 25, 26, 27, 28, 29, 30, 31, 32, 33, 34, 35, 36, 37, 38, 39, 40, 41, 42, 43, 44, 45, 46, 47, 48, 49, 50] rfl
  have hD := hD.sub (ws' := ([(h0, .inr (8, [.ref q1, .ref q7, .ref q10, .ref q11, .ref q12, .null, .null, .null, .null, .null, .null, .int 0, .null, .null, .int 0])), (q1, .inr (1, [.ref q2, .ref q3, .int 0, .int (-1), .int 0, .int 0])), (q2, .inl (cA4, 44, .inr (.inr (.inr (.inr (mx_g q2 44)))))), (q3, .inl (cA6, 44, .inl (fun _ => 0))), (q7, .inr (3, [.ref q8, .ref q9, .int 0])), (q12, .inl (cA13, 4, .inr (.inr (.inr (.inr (va_up (fun _ => none) 0 (some q14))))))), (q14, .inr (5, [.ref q15, .int 0, .int 0, .int 0, .int 0, .int 0, .int 0, .int 0])), (q16, .inr (5, [.null, .int 0, .int 0, .int 0, .int 0, .int 0, .int 0, .int 0]))] ++ mx_Y q2 cA5)) [0, 1, 2, 3, 4, 5, 6, 51, 7, 8, 9, 10, 11, 12, 13, 14, 15, 16, 17, 18, 19, 20, 21, 22, 23, 24, 25, 26, 27, 28, 29, 30, 31, 32, 33, 34, 35, 36, 37, 38, 39, 40, 41, 42, 43, 44, 45, 46, 47, 48, 49, 50] (by decide) rfl
  refine W.widen (k := 87) (n := 3892) (Nat.le_of_ble_eq_true rfl) (Nat.le_of_ble_eq_true rfl) ?_
  refine lv_dup hx hb d_TS_init_79 rfl ?_
  refine lv_iload_n hx hb d_TS_init_80 rfl (lv_at hl 0 rfl) ?_
  have hPc := hP.sub (ws' := [(q16, .inr (5, [.null, .int 0, .int 0, .int 0, .int 0, .int 0, .int 0, .int 0]))]) [7] rfl
  have hDc := hD.sub (ws' := [(q16, .inr (5, [.null, .int 0, .int 0, .int 0, .int 0, .int 0, .int 0, .int 0]))]) [7] (by decide) rfl
  have hKc := hK.sub (tys' := []) [] rfl
  have hFc := va_free (wc := [(q16, .inr (5, [.null, .int 0, .int 0, .int 0, .int 0, .int 0, .int 0, .int 0]))]) hD hS hA [7] rfl
  refine va_callv (va_runI (As := [.int 1]) (rest := [.ref q16, .int 1, .ref q12]) ⟨hx, hb, hml, hown, hts⟩ (c_La_init l dC dI q16 H.size 1) (cwI 1 hts (gx_good k_La_init) rfl rfl rfl (hB _ hw_73) (hB _ hw_243) (hB _ hw_244) rfl (by decide +kernel) ⟨(Nat.le_of_ble_eq_true rfl), (Nat.le_of_ble_eq_true rfl)⟩) ⟨fun a U g mk q => by obtain ⟨q0, q1, qP, qK, qD⟩ := q; exact ⟨q0, q1, qP, va_K.moved (u := U) (U := U.calling g mk a) (Vm.Alike.refl U.vm) qK, qD⟩, fun U hU hW => ⟨rfl, by rw [hU], by rw [hU]; exact hPc, va_K.moved hW.alike hKc, hDc.weaken (fun _ _ _ _ => trivial)⟩⟩ rfl rfl hl.1 rfl (lv_room (Nat.le_of_ble_eq_true rfl)) d_TS_init_81 ⟨(Nat.le_of_ble_eq_true rfl), (Nat.le_of_ble_eq_true rfl)⟩) hS (fun q _ h => hFc q h) hFc (fun u t H1 locs ht hvm hw hB1 hz1 hk1 hS => ?_)
  obtain ⟨q17, hP1, hD1⟩ := hB1
  rw [ht] at hP1
  obtain ⟨hP, hD⟩ := va_join (wr := ([(h0, .inr (8, [.ref q1, .ref q7, .ref q10, .ref q11, .ref q12, .null, .null, .null, .null, .null, .null, .int 0, .null, .null, .int 0])), (q1, .inr (1, [.ref q2, .ref q3, .int 0, .int (-1), .int 0, .int 0])), (q2, .inl (cA4, 44, .inr (.inr (.inr (.inr (mx_g q2 44)))))), (q3, .inl (cA6, 44, .inl (fun _ => 0))), (q7, .inr (3, [.ref q8, .ref q9, .int 0])), (q12, .inl (cA13, 4, .inr (.inr (.inr (.inr (va_up (fun _ => none) 0 (some q14))))))), (q14, .inr (5, [.ref q15, .int 0, .int 0, .int 0, .int 0, .int 0, .int 0, .int 0]))] ++ mx_Y q2 cA5)) (w1 := [(q16, .inr (5, [.ref q17, .int 1, .int 0, .int 0, .int 0, .int 0, .int 0, .int 0]))]) hP hD [7] [0, 1, 2, 3, 4, 5, 6, 8, 9, 10, 11, 12, 13, 14, 15, 16, 17, 18, 19, 20, 21, 22, 23, 24, 25, 26, 27, 28, 29, 30, 31, 32, 33, 34, 35, 36, 37, 38, 39, 40, 41, 42, 43, 44, 45, 46, 47, 48, 49, 50, 51] rfl rfl (by decide) (by decide) hk1 hFc hP1 hD1
  generalize H1 = H at hP hS ⊢
  have hP := hP.sub (ws' := ([(h0, .inr (8, [.ref q1, .ref q7, .ref q10, .ref q11, .ref q12, .null, .null, .null, .null, .null, .null, .int 0, .null, .null, .int 0])), (q1, .inr (1, [.ref q2, .ref q3, .int 0, .int (-1), .int 0, .int 0])), (q2, .inl (cA4, 44, .inr (.inr (.inr (.inr (mx_g q2 44)))))), (q3, .inl (cA6, 44, .inl (fun _ => 0))), (q7, .inr (3, [.ref q8, .ref q9, .int 0])), (q12, .inl (cA13, 4, .inr (.inr (.inr (.inr (va_up (fun _ => none) 0 (some q14))))))), (q14, .inr (5, [.ref q15, .int 0, .int 0, .int 0, .int 0, .int 0, .int 0, .int 0])), (q16, .inr (5, [.ref q17, .int 1, .int 0, .int 0, .int 0, .int 0, .int 0, .int 0]))] ++ mx_Y q2 cA5)) [0, 1, 2, 3, 4, 5, 6, 51, 7, 8, 9, 10, 11, 12, 13, 14, 15, 16, 17, 18, 19, 20, 21, 22, 23, 24, 25, 26, 27, 28, 29, 30, 31, 32, 33, 34, 35, 36, 37, 38, 39, 40, 41, 42, 43, 44, 45, 46, 47, 48, 49, 50] rfl
  have hD := hD.sub (ws' := ([(h0, .inr (8, [.ref q1, .ref q7, .ref q10, .ref q11, .ref q12, .null, .null, .null, .null, .null, .null, .int 0, .null, .null, .int 0])), (q1, .inr (1, [.ref q2, .ref q3, .int 0, .int (-1), .int 0, .int 0])), (q2, .inl (cA4, 44, .inr (.inr (.inr (.inr (mx_g q2 44)))))), (q3, .inl (cA6, 44, .inl (fun _ => 0))), (q7, .inr (3, [.ref q8, .ref q9, .int 0])), (q12, .inl (cA13, 4, .inr (.inr (.inr (.inr (va_up (fun _ => none) 0 (some q14))))))), (q14, .inr (5, [.ref q15, .int 0, .int 0, .int 0, .int 0, .int 0, .int 0, .int 0])), (q16, .inr (5, [.ref q17, .int 1, .int 0, .int 0, .int 0, .int 0, .int 0, .int 0]))] ++ mx_Y q2 cA5)) [0, 1, 2, 3, 4, 5, 6, 51, 7, 8, 9, 10, 11, 12, 13, 14, 15, 16, 17, 18, 19, 20, 21, 22, 23, 24, 25, 26, 27, 28, 29, 30, 31, 32, 33, 34, 35, 36, 37, 38, 39, 40, 41, 42, 43, 44, 45, 46, 47, 48, 49, 50] (by decide) rfl
  refine W.widen (k := 88) (n := 3924) (Nat.le_of_ble_eq_true rfl) (Nat.le_of_ble_eq_true rfl) ?_
  refine va_astq (D := (dC, dI)) hx hb hK hP hD hS 5 3 7 5 rfl rfl rfl rfl (by unfold vp_in; decide) d_TS_init_84 (fun H locs hP hD hS => ?_)
  have hP : va_P (dC, dI) gx_cl ([(h0, .inr (8, [.ref q1, .ref q7, .ref q10, .ref q11, .ref q12, .null, .null, .null, .null, .null, .null, .int 0, .null, .null, .int 0])), (q1, .inr (1, [.ref q2, .ref q3, .int 0, .int (-1), .int 0, .int 0])), (q2, .inl (cA4, 44, .inr (.inr (.inr (.inr (mx_g q2 44)))))), (q3, .inl (cA6, 44, .inl (fun _ => 0))), (q7, .inr (3, [.ref q8, .ref q9, .int 0])), (q12, .inl (cA13, 4, .inr (.inr (.inr (.inr (va_up (va_up (fun _ => none) 0 (some q14)) 1 (some q16))))))), (q14, .inr (5, [.ref q15, .int 0, .int 0, .int 0, .int 0, .int 0, .int 0, .int 0])), (q16, .inr (5, [.ref q17, .int 1, .int 0, .int 0, .int 0, .int 0, .int 0, .int 0]))] ++ mx_Y q2 cA5) H := hP
  have hD : va_D A ([(h0, .inr (8, [.ref q1, .ref q7, .ref q10, .ref q11, .ref q12, .null, .null, .null, .null, .null, .null, .int 0, .null, .null, .int 0])), (q1, .inr (1, [.ref q2, .ref q3, .int 0, .int (-1), .int 0, .int 0])), (q2, .inl (cA4, 44, .inr (.inr (.inr (.inr (mx_g q2 44)))))), (q3, .inl (cA6, 44, .inl (fun _ => 0))), (q7, .inr (3, [.ref q8, .ref q9, .int 0])), (q12, .inl (cA13, 4, .inr (.inr (.inr (.inr (va_up (va_up (fun _ => none) 0 (some q14)) 1 (some q16))))))), (q14, .inr (5, [.ref q15, .int 0, .int 0, .int 0, .int 0, .int 0, .int 0, .int 0])), (q16, .inr (5, [.ref q17, .int 1, .int 0, .int 0, .int 0, .int 0, .int 0, .int 0]))] ++ mx_Y q2 cA5) := hD
  refine lv_iinc (k := 0) (v := 2) hx hb d_TS_init_85 hl rfl (by decide) (by decide) rfl (fun ls hl => ?_)
  have hl : lv_has ls 2 [(1, .int 2), (0, .ref h0)] := hl
  refine lv_goto (tgt := 66) hx hb d_TS_init_88 (by decide) ?_
  refine lv_iload_n hx hb d_TS_init_66 rfl (lv_at hl 0 rfl) ?_
  refine lv_iconst (v := 4) hx hb d_TS_init_67 (by decide) ?_
  refine lv_icmp_ge (tgt := 91) hx hb d_TS_init_68 (by decide) (fun h9 => absurd h9 (by decide)) (fun _ => ?_)
  refine lv_aload_n hx hb d_TS_init_71 rfl (lv_at hl 1 rfl) ?_
  refine va_get (D := (dC, dI)) (ci := 8) (v := .ref q12) (C := RTS) (T := FTS) (N := 15) hx hb hB in_TS hown hK hP 0 rfl rfl 4 (by decide) (hB _ hw_311) (fun _ h9 => h9) rfl d_TS_init_72 ?_
  refine lv_iload_n hx hb d_TS_init_75 rfl (lv_at hl 0 rfl) ?_
  refine va_new (D := (dC, dI)) (ci := 5) (fs := [.null, .int 0, .int 0, .int 0, .int 0, .int 0, .int 0, .int 0]) (C := RLa) (T := FLa) (N := 8) hx hb hB in_La tLa tLa_ok hown (hB _ hw_240) (hB _ hw_242) (hB _ hw_73) hK hP hD hS hA rfl (fun j hj => by rcases (show j = 0 ∨ j = 1 ∨ j = 2 ∨ j = 3 ∨ j = 4 ∨ j = 5 ∨ j = 6 ∨ j = 7 by omega) with rfl | rfl | rfl | rfl | rfl | rfl | rfl | rfl <;> rfl) (Nat.le_of_ble_eq_true rfl) (Nat.le_of_ble_eq_true rfl) d_TS_init_76 (fun q18 H hP hD hS => ?_)
  have hP := hP.sub (ws' := ([(h0, .inr (8, [.ref q1, .ref q7, .ref q10, .ref q11, .ref q12, .null, .null, .null, .null, .null, .null, .int 0, .null, .null, .int 0])), (q1, .inr (1, [.ref q2, .ref q3, .int 0, .int (-1), .int 0, .int 0])), (q2, .inl (cA4, 44, .inr (.inr (.inr (.inr (mx_g q2 44)))))), (q3, .inl (cA6, 44, .inl (fun _ => 0))), (q7, .inr (3, [.ref q8, .ref q9, .int 0])), (q12, .inl (cA13, 4, .inr (.inr (.inr (.inr (va_up (va_up (fun _ => none) 0 (some q14)) 1 (some q16))))))), (q14, .inr (5, [.ref q15, .int 0, .int 0, .int 0, .int 0, .int 0, .int 0, .int 0])), (q16, .inr (5, [.ref q17, .int 1, .int 0, .int 0, .int 0, .int 0, .int 0, .int 0])), (q18, .inr (5, [.null, .int 0, .int 0, .int 0, .int 0, .int 0, .int 0, .int 0]))] ++ mx_Y q2 cA5)) [0, 1, 2, 3, 4, 5, 6, 7, 52, 8, 9, 10, 11, 12, 13, 14, 15, 16, 17, 18, 19, 20, 21, 22, 23, 24, 25, 26, 27, 28, 29, 30, 31, 32, 33, 34, 35, 36, 37, 38, 39, 40, 41, 42, 43, 44, 45, 46, 47, 48, 49, 50, 51] rfl
  have hD := hD.sub (ws' := ([(h0, .inr (8, [.ref q1, .ref q7, .ref q10, .ref q11, .ref q12, .null, .null, .null, .null, .null, .null, .int 0, .null, .null, .int 0])), (q1, .inr (1, [.ref q2, .ref q3, .int 0, .int (-1), .int 0, .int 0])), (q2, .inl (cA4, 44, .inr (.inr (.inr (.inr (mx_g q2 44)))))), (q3, .inl (cA6, 44, .inl (fun _ => 0))), (q7, .inr (3, [.ref q8, .ref q9, .int 0])), (q12, .inl (cA13, 4, .inr (.inr (.inr (.inr (va_up (va_up (fun _ => none) 0 (some q14)) 1 (some q16))))))), (q14, .inr (5, [.ref q15, .int 0, .int 0, .int 0, .int 0, .int 0, .int 0, .int 0])), (q16, .inr (5, [.ref q17, .int 1, .int 0, .int 0, .int 0, .int 0, .int 0, .int 0])), (q18, .inr (5, [.null, .int 0, .int 0, .int 0, .int 0, .int 0, .int 0, .int 0]))] ++ mx_Y q2 cA5)) [0, 1, 2, 3, 4, 5, 6, 7, 52, 8, 9, 10, 11, 12, 13, 14, 15, 16, 17, 18, 19, 20, 21, 22, 23, 24, 25, 26, 27, 28, 29, 30, 31, 32, 33, 34, 35, 36, 37, 38, 39, 40, 41, 42, 43, 44, 45, 46, 47, 48, 49, 50, 51] (by decide) rfl
  refine W.widen (k := 89) (n := 3932) (Nat.le_of_ble_eq_true rfl) (Nat.le_of_ble_eq_true rfl) ?_
  refine lv_dup hx hb d_TS_init_79 rfl ?_
  refine lv_iload_n hx hb d_TS_init_80 rfl (lv_at hl 0 rfl) ?_
  have hPc := hP.sub (ws' := [(q18, .inr (5, [.null, .int 0, .int 0, .int 0, .int 0, .int 0, .int 0, .int 0]))]) [8] rfl
  have hDc := hD.sub (ws' := [(q18, .inr (5, [.null, .int 0, .int 0, .int 0, .int 0, .int 0, .int 0, .int 0]))]) [8] (by decide) rfl
  have hKc := hK.sub (tys' := []) [] rfl
  have hFc := va_free (wc := [(q18, .inr (5, [.null, .int 0, .int 0, .int 0, .int 0, .int 0, .int 0, .int 0]))]) hD hS hA [8] rfl
  refine va_callv (va_runI (As := [.int 2]) (rest := [.ref q18, .int 2, .ref q12]) ⟨hx, hb, hml, hown, hts⟩ (c_La_init l dC dI q18 H.size 2) (cwI 1 hts (gx_good k_La_init) rfl rfl rfl (hB _ hw_73) (hB _ hw_243) (hB _ hw_244) rfl (by decide +kernel) ⟨(Nat.le_of_ble_eq_true rfl), (Nat.le_of_ble_eq_true rfl)⟩) ⟨fun a U g mk q => by obtain ⟨q0, q1, qP, qK, qD⟩ := q; exact ⟨q0, q1, qP, va_K.moved (u := U) (U := U.calling g mk a) (Vm.Alike.refl U.vm) qK, qD⟩, fun U hU hW => ⟨rfl, by rw [hU], by rw [hU]; exact hPc, va_K.moved hW.alike hKc, hDc.weaken (fun _ _ _ _ => trivial)⟩⟩ rfl rfl hl.1 rfl (lv_room (Nat.le_of_ble_eq_true rfl)) d_TS_init_81 ⟨(Nat.le_of_ble_eq_true rfl), (Nat.le_of_ble_eq_true rfl)⟩) hS (fun q _ h => hFc q h) hFc (fun u t H1 locs ht hvm hw hB1 hz1 hk1 hS => ?_)
  obtain ⟨q19, hP1, hD1⟩ := hB1
  rw [ht] at hP1
  obtain ⟨hP, hD⟩ := va_join (wr := ([(h0, .inr (8, [.ref q1, .ref q7, .ref q10, .ref q11, .ref q12, .null, .null, .null, .null, .null, .null, .int 0, .null, .null, .int 0])), (q1, .inr (1, [.ref q2, .ref q3, .int 0, .int (-1), .int 0, .int 0])), (q2, .inl (cA4, 44, .inr (.inr (.inr (.inr (mx_g q2 44)))))), (q3, .inl (cA6, 44, .inl (fun _ => 0))), (q7, .inr (3, [.ref q8, .ref q9, .int 0])), (q12, .inl (cA13, 4, .inr (.inr (.inr (.inr (va_up (va_up (fun _ => none) 0 (some q14)) 1 (some q16))))))), (q14, .inr (5, [.ref q15, .int 0, .int 0, .int 0, .int 0, .int 0, .int 0, .int 0])), (q16, .inr (5, [.ref q17, .int 1, .int 0, .int 0, .int 0, .int 0, .int 0, .int 0]))] ++ mx_Y q2 cA5)) (w1 := [(q18, .inr (5, [.ref q19, .int 2, .int 0, .int 0, .int 0, .int 0, .int 0, .int 0]))]) hP hD [8] [0, 1, 2, 3, 4, 5, 6, 7, 9, 10, 11, 12, 13, 14, 15, 16, 17, 18, 19, 20, 21, 22, 23, 24, 25, 26, 27, 28, 29, 30, 31, 32, 33, 34, 35, 36, 37, 38, 39, 40, 41, 42, 43, 44, 45, 46, 47, 48, 49, 50, 51, 52] rfl rfl (by decide) (by decide) hk1 hFc hP1 hD1
  generalize H1 = H at hP hS ⊢
  have hP := hP.sub (ws' := ([(h0, .inr (8, [.ref q1, .ref q7, .ref q10, .ref q11, .ref q12, .null, .null, .null, .null, .null, .null, .int 0, .null, .null, .int 0])), (q1, .inr (1, [.ref q2, .ref q3, .int 0, .int (-1), .int 0, .int 0])), (q2, .inl (cA4, 44, .inr (.inr (.inr (.inr (mx_g q2 44)))))), (q3, .inl (cA6, 44, .inl (fun _ => 0))), (q7, .inr (3, [.ref q8, .ref q9, .int 0])), (q12, .inl (cA13, 4, .inr (.inr (.inr (.inr (va_up (va_up (fun _ => none) 0 (some q14)) 1 (some q16))))))), (q14, .inr (5, [.ref q15, .int 0, .int 0, .int 0, .int 0, .int 0, .int 0, .int 0])), (q16, .inr (5, [.ref q17, .int 1, .int 0, .int 0, .int 0, .int 0, .int 0, .int 0])), (q18, .inr (5, [.ref q19, .int 2, .int 0, .int 0, .int 0, .int 0, .int 0, .int 0]))] ++ mx_Y q2 cA5)) [0, 1, 2, 3, 4, 5, 6, 7, 52, 8, 9, 10, 11, 12, 13, 14, 15, 16, 17, 18, 19, 20, 21, 22, 23, 24, 25, 26, 27, 28, 29, 30, 31, 32, 33, 34, 35, 36, 37, 38, 39, 40, 41, 42, 43, 44, 45, 46, 47, 48, 49, 50, 51] rfl
  have hD := hD.sub (ws' := ([(h0, .inr (8, [.ref q1, .ref q7, .ref q10, .ref q11, .ref q12, .null, .null, .null, .null, .null, .null, .int 0, .null, .null, .int 0])), (q1, .inr (1, [.ref q2, .ref q3, .int 0, .int (-1), .int 0, .int 0])), (q2, .inl (cA4, 44, .inr (.inr (.inr (.inr (mx_g q2 44)))))), (q3, .inl (cA6, 44, .inl (fun _ => 0))), (q7, .inr (3, [.ref q8, .ref q9, .int 0])), (q12, .inl (cA13, 4, .inr (.inr (.inr (.inr (va_up (va_up (fun _ => none) 0 (some q14)) 1 (some q16))))))), (q14, .inr (5, [.ref q15, .int 0, .int 0, .int 0, .int 0, .int 0, .int 0, .int 0])), (q16, .inr (5, [.ref q17, .int 1, .int 0, .int 0, .int 0, .int 0, .int 0, .int 0])), (q18, .inr (5, [.ref q19, .int 2, .int 0, .int 0, .int 0, .int 0, .int 0, .int 0]))] ++ mx_Y q2 cA5)) [0, 1, 2, 3, 4, 5, 6, 7, 52, 8, 9, 10, 11, 12, 13, 14, 15, 16, 17, 18, 19, 20, 21, 22, 23, 24, 25, 26, 27, 28, 29, 30, 31, 32, 33, 34, 35, 36, 37, 38, 39, 40, 41, 42, 43, 44, 45, 46, 47, 48, 49, 50, 51] (by decide) rfl
  refine W.widen (k := 90) (n := 3964) (Nat.le_of_ble_eq_true rfl) (Nat.le_of_ble_eq_true rfl) ?_
  refine va_astq (D := (dC, dI)) hx hb hK hP hD hS 5 3 8 5 rfl rfl rfl rfl (by unfold vp_in; decide) d_TS_init_84 (fun H locs hP hD hS => ?_)
  have hP : va_P (dC, dI) gx_cl ([(h0, .inr (8, [.ref q1, .ref q7, .ref q10, .ref q11, .ref q12, .null, .null, .null, .null, .null, .null, .int 0, .null, .null, .int 0])), (q1, .inr (1, [.ref q2, .ref q3, .int 0, .int (-1), .int 0, .int 0])), (q2, .inl (cA4, 44, .inr (.inr (.inr (.inr (mx_g q2 44)))))), (q3, .inl (cA6, 44, .inl (fun _ => 0))), (q7, .inr (3, [.ref q8, .ref q9, .int 0])), (q12, .inl (cA13, 4, .inr (.inr (.inr (.inr (va_up (va_up (va_up (fun _ => none) 0 (some q14)) 1 (some q16)) 2 (some q18))))))), (q14, .inr (5, [.ref q15, .int 0, .int 0, .int 0, .int 0, .int 0, .int 0, .int 0])), (q16, .inr (5, [.ref q17, .int 1, .int 0, .int 0, .int 0, .int 0, .int 0, .int 0])), (q18, .inr (5, [.ref q19, .int 2, .int 0, .int 0, .int 0, .int 0, .int 0, .int 0]))] ++ mx_Y q2 cA5) H := hP
  have hD : va_D A ([(h0, .inr (8, [.ref q1, .ref q7, .ref q10, .ref q11, .ref q12, .null, .null, .null, .null, .null, .null, .int 0, .null, .null, .int 0])), (q1, .inr (1, [.ref q2, .ref q3, .int 0, .int (-1), .int 0, .int 0])), (q2, .inl (cA4, 44, .inr (.inr (.inr (.inr (mx_g q2 44)))))), (q3, .inl (cA6, 44, .inl (fun _ => 0))), (q7, .inr (3, [.ref q8, .ref q9, .int 0])), (q12, .inl (cA13, 4, .inr (.inr (.inr (.inr (va_up (va_up (va_up (fun _ => none) 0 (some q14)) 1 (some q16)) 2 (some q18))))))), (q14, .inr (5, [.ref q15, .int 0, .int 0, .int 0, .int 0, .int 0, .int 0, .int 0])), (q16, .inr (5, [.ref q17, .int 1, .int 0, .int 0, .int 0, .int 0, .int 0, .int 0])), (q18, .inr (5, [.ref q19, .int 2, .int 0, .int 0, .int 0, .int 0, .int 0, .int 0]))] ++ mx_Y q2 cA5) := hD
  refine lv_iinc (k := 0) (v := 3) hx hb d_TS_init_85 hl rfl (by decide) (by decide) rfl (fun ls hl => ?_)
  have hl : lv_has ls 2 [(1, .int 3), (0, .ref h0)] := hl
  refine lv_goto (tgt := 66) hx hb d_TS_init_88 (by decide) ?_
  refine lv_iload_n hx hb d_TS_init_66 rfl (lv_at hl 0 rfl) ?_
  refine lv_iconst (v := 4) hx hb d_TS_init_67 (by decide) ?_
  refine lv_icmp_ge (tgt := 91) hx hb d_TS_init_68 (by decide) (fun h9 => absurd h9 (by decide)) (fun _ => ?_)
  refine lv_aload_n hx hb d_TS_init_71 rfl (lv_at hl 1 rfl) ?_
  refine va_get (D := (dC, dI)) (ci := 8) (v := .ref q12) (C := RTS) (T := FTS) (N := 15) hx hb hB in_TS hown hK hP 0 rfl rfl 4 (by decide) (hB _ hw_311) (fun _ h9 => h9) rfl d_TS_init_72 ?_
  refine lv_iload_n hx hb d_TS_init_75 rfl (lv_at hl 0 rfl) ?_
  refine va_new (D := (dC, dI)) (ci := 5) (fs := [.null, .int 0, .int 0, .int 0, .int 0, .int 0, .int 0, .int 0]) (C := RLa) (T := FLa) (N := 8) hx hb hB in_La tLa tLa_ok hown (hB _ hw_240) (hB _ hw_242) (hB _ hw_73) hK hP hD hS hA rfl (fun j hj => by rcases (show j = 0 ∨ j = 1 ∨ j = 2 ∨ j = 3 ∨ j = 4 ∨ j = 5 ∨ j = 6 ∨ j = 7 by omega) with rfl | rfl | rfl | rfl | rfl | rfl | rfl | rfl <;> rfl) (Nat.le_of_ble_eq_true rfl) (Nat.le_of_ble_eq_true rfl) d_TS_init_76 (fun q20 H hP hD hS => ?_)
  have hP := hP.sub (ws' := ([(h0, .inr (8, [.ref q1, .ref q7, .ref q10, .ref q11, .ref q12, .null, .null, .null, .null, .null, .null, .int 0, .null, .null, .int 0])), (q1, .inr (1, [.ref q2, .ref q3, .int 0, .int (-1), .int 0, .int 0])), (q2, .inl (cA4, 44, .inr (.inr (.inr (.inr (mx_g q2 44)))))), (q3, .inl (cA6, 44, .inl (fun _ => 0))), (q7, .inr (3, [.ref q8, .ref q9, .int 0])), (q12, .inl (cA13, 4, .inr (.inr (.inr (.inr (va_up (va_up (va_up (fun _ => none) 0 (some q14)) 1 (some q16)) 2 (some q18))))))), (q14, .inr (5, [.ref q15, .int 0, .int 0, .int 0, .int 0, .int 0, .int 0, .int 0])), (q16, .inr (5, [.ref q17, .int 1, .int 0, .int 0, .int 0, .int 0, .int 0, .int 0])), (q18, .inr (5, [.ref q19, .int 2, .int 0, .int 0, .int 0, .int 0, .int 0, .int 0])), (q20, .inr (5, [.null, .int 0, .int 0, .int 0, .int 0, .int 0, .int 0, .int 0]))] ++ mx_Y q2 cA5)) [0, 1, 2, 3, 4, 5, 6, 7, 8, 53, 9, 10, 11, 12, 13, 14, 15, 16, 17, 18, 19, 20, 21, 22, 23, 24, 25, 26, 27, 28, 29, 30, 31, 32, 33, 34, 35, 36, 37, 38, 39, 40, 41, 42, 43, 44, 45, 46, 47, 48, 49, 50, 51, 52] rfl
  have hD := hD.sub (ws' := ([(h0, .inr (8, [.ref q1, .ref q7, .ref q10, .ref q11, .ref q12, .null, .null, .null, .null, .null, .null, .int 0, .null, .null, .int 0])), (q1, .inr (1, [.ref q2, .ref q3, .int 0, .int (-1), .int 0, .int 0])), (q2, .inl (cA4, 44, .inr (.inr (.inr (.inr (mx_g q2 44)))))), (q3, .inl (cA6, 44, .inl (fun _ => 0))), (q7, .inr (3, [.ref q8, .ref q9, .int 0])), (q12, .inl (cA13, 4, .inr (.inr (.inr (.inr (va_up (va_up (va_up (fun _ => none) 0 (some q14)) 1 (some q16)) 2 (some q18))))))), (q14, .inr (5, [.ref q15, .int 0, .int 0, .int 0, .int 0, .int 0, .int 0, .int 0])), (q16, .inr (5, [.ref q17, .int 1, .int 0, .int 0, .int 0, .int 0, .int 0, .int 0])), (q18, .inr (5, [.ref q19, .int 2, .int 0, .int 0, .int 0, .int 0, .int 0, .int 0])), (q20, .inr (5, [.null, .int 0, .int 0, .int 0, .int 0, .int 0, .int 0, .int 0]))] ++ mx_Y q2 cA5)) [0, 1, 2, 3, 4, 5, 6, 7, 8, 53, 9, 10, 11, 12, 13, 14, 15, 16, 17, 18, 19, 20, 21, 22, 23, 24, 25, 26, 27, 28, 29, 30, 31, 32, 33, 34, 35, 36, 37, 38, 39, 40, 41, 42, 43, 44, 45, 46, 47, 48, 49, 50, 51, 52] (by decide) rfl
  refine W.widen (k := 91) (n := 3972) (Nat.le_of_ble_eq_true rfl) (Nat.le_of_ble_eq_true rfl) ?_
  refine lv_dup hx hb d_TS_init_79 rfl ?_
  refine lv_iload_n hx hb d_TS_init_80 rfl (lv_at hl 0 rfl) ?_
  have hPc := hP.sub (ws' := [(q20, .inr (5, [.null, .int 0, .int 0, .int 0, .int 0, .int 0, .int 0, .int 0]))]) [9] rfl
  have hDc := hD.sub (ws' := [(q20, .inr (5, [.null, .int 0, .int 0, .int 0, .int 0, .int 0, .int 0, .int 0]))]) [9] (by decide) rfl
  have hKc := hK.sub (tys' := []) [] rfl
  have hFc := va_free (wc := [(q20, .inr (5, [.null, .int 0, .int 0, .int 0, .int 0, .int 0, .int 0, .int 0]))]) hD hS hA [9] rfl
  refine va_callv (va_runI (As := [.int 3]) (rest := [.ref q20, .int 3, .ref q12]) ⟨hx, hb, hml, hown, hts⟩ (c_La_init l dC dI q20 H.size 3) (cwI 1 hts (gx_good k_La_init) rfl rfl rfl (hB _ hw_73) (hB _ hw_243) (hB _ hw_244) rfl (by decide +kernel) ⟨(Nat.le_of_ble_eq_true rfl), (Nat.le_of_ble_eq_true rfl)⟩) ⟨fun a U g mk q => by obtain ⟨q0, q1, qP, qK, qD⟩ := q; exact ⟨q0, q1, qP, va_K.moved (u := U) (U := U.calling g mk a) (Vm.Alike.refl U.vm) qK, qD⟩, fun U hU hW => ⟨rfl, by rw [hU], by rw [hU]; exact hPc, va_K.moved hW.alike hKc, hDc.weaken (fun _ _ _ _ => trivial)⟩⟩ rfl rfl hl.1 rfl (lv_room (Nat.le_of_ble_eq_true rfl)) d_TS_init_81 ⟨(Nat.le_of_ble_eq_true rfl), (Nat.le_of_ble_eq_true rfl)⟩) hS (fun q _ h => hFc q h) hFc (fun u t H1 locs ht hvm hw hB1 hz1 hk1 hS => ?_)
  obtain ⟨q21, hP1, hD1⟩ := hB1
  rw [ht] at hP1
  obtain ⟨hP, hD⟩ := va_join (wr := ([(h0, .inr (8, [.ref q1, .ref q7, .ref q10, .ref q11, .ref q12, .null, .null, .null, .null, .null, .null, .int 0, .null, .null, .int 0])), (q1, .inr (1, [.ref q2, .ref q3, .int 0, .int (-1), .int 0, .int 0])), (q2, .inl (cA4, 44, .inr (.inr (.inr (.inr (mx_g q2 44)))))), (q3, .inl (cA6, 44, .inl (fun _ => 0))), (q7, .inr (3, [.ref q8, .ref q9, .int 0])), (q12, .inl (cA13, 4, .inr (.inr (.inr (.inr (va_up (va_up (va_up (fun _ => none) 0 (some q14)) 1 (some q16)) 2 (some q18))))))), (q14, .inr (5, [.ref q15, .int 0, .int 0, .int 0, .int 0, .int 0, .int 0, .int 0])), (q16, .inr (5, [.ref q17, .int 1, .int 0, .int 0, .int 0, .int 0, .int 0, .int 0])), (q18, .inr (5, [.ref q19, .int 2, .int 0, .int 0, .int 0, .int 0, .int 0, .int 0]))] ++ mx_Y q2 cA5)) (w1 := [(q20, .inr (5, [.ref q21, .int 3, .int 0, .int 0, .int 0, .int 0, .int 0, .int 0]))]) hP hD [9] [0, 1, 2, 3, 4, 5, 6, 7, 8, 10, 11, 12, 13, 14, 15, 16, 17, 18, 19, 20, 21, 22, 23, 24, 25, 26, 27, 28, 29, 30, 31, 32, 33, 34, 35, 36, 37, 38, 39, 40, 41, 42, 43, 44, 45, 46, 47, 48, 49, 50, 51, 52, 53] rfl rfl (by decide) (by decide) hk1 hFc hP1 hD1
  generalize H1 = H at hP hS ⊢
  have hP := hP.sub (ws' := ([(h0, .inr (8, [.ref q1, .ref q7, .ref q10, .ref q11, .ref q12, .null, .null, .null, .null, .null, .null, .int 0, .null, .null, .int 0])), (q1, .inr (1, [.ref q2, .ref q3, .int 0, .int (-1), .int 0, .int 0])), (q2, .inl (cA4, 44, .inr (.inr (.inr (.inr (mx_g q2 44)))))), (q3, .inl (cA6, 44, .inl (fun _ => 0))), (q7, .inr (3, [.ref q8, .ref q9, .int 0])), (q12, .inl (cA13, 4, .inr (.inr (.inr (.inr (va_up (va_up (va_up (fun _ => none) 0 (some q14)) 1 (some q16)) 2 (some q18))))))), (q14, .inr (5, [.ref q15, .int 0, .int 0, .int 0, .int 0, .int 0, .int 0, .int 0])), (q16, .inr (5, [.ref q17, .int 1, .int 0, .int 0, .int 0, .int 0, .int 0, .int 0])), (q18, .inr (5, [.ref q19, .int 2, .int 0, .int 0, .int 0, .int 0, .int 0, .int 0])), (q20, .inr (5, [.ref q21, .int 3, .int 0, .int 0, .int 0, .int 0, .int 0, .int 0]))] ++ mx_Y q2 cA5)) [0, 1, 2, 3, 4, 5, 6, 7, 8, 53, 9, 10, 11, 12, 13, 14, 15, 16, 17, 18, 19, 20, 21, 22, 23, 24, 25, 26, 27, 28, 29, 30, 31, 32, 33, 34, 35, 36, 37, 38, 39, 40, 41, 42, 43, 44, 45, 46, 47, 48, 49, 50, 51, 52] rfl
  have hD := hD.sub (ws' := ([(h0, .inr (8, [.ref q1, .ref q7, .ref q10, .ref q11, .ref q12, .null, .null, .null, .null, .null, .null, .int 0, .null, .null, .int 0])), (q1, .inr (1, [.ref q2, .ref q3, .int 0, .int (-1), .int 0, .int 0])), (q2, .inl (cA4, 44, .inr (.inr (.inr (.inr (mx_g q2 44)))))), (q3, .inl (cA6, 44, .inl (fun _ => 0))), (q7, .inr (3, [.ref q8, .ref q9, .int 0])), (q12, .inl (cA13, 4, .inr (.inr (.inr (.inr (va_up (va_up (va_up (fun _ => none) 0 (some q14)) 1 (some q16)) 2 (some q18))))))), (q14, .inr (5, [.ref q15, .int 0, .int 0, .int 0, .int 0, .int 0, .int 0, .int 0])), (q16, .inr (5, [.ref q17, .int 1, .int 0, .int 0, .int 0, .int 0, .int 0, .int 0])), (q18, .inr (5, [.ref q19, .int 2, .int 0, .int 0, .int 0, .int 0, .int 0, .int 0])), (q20, .inr (5, [.ref q21, .int 3, .int 0, .int 0, .int 0, .int 0, .int 0, .int 0]))] ++ mx_Y q2 cA5)) [0, 1, 2, 3, 4, 5, 6, 7, 8, 53, 9, 10, 11, 12, 13, 14, 15, 16, 17, 18, 19, 20, 21, 22, 23, 24, 25, 26, 27, 28, 29, 30, 31, 32, 33, 34, 35, 36, 37, 38, 39, 40, 41, 42, 43, 44, 45, 46, 47, 48, 49, 50, 51, 52] (by decide) rfl
  refine W.widen (k := 92) (n := 4004) (Nat.le_of_ble_eq_true rfl) (Nat.le_of_ble_eq_true rfl) ?_
  refine va_astq (D := (dC, dI)) hx hb hK hP hD hS 5 3 9 5 rfl rfl rfl rfl (by unfold vp_in; decide) d_TS_init_84 (fun H locs hP hD hS => ?_)
  have hP : va_P (dC, dI) gx_cl ([(h0, .inr (8, [.ref q1, .ref q7, .ref q10, .ref q11, .ref q12, .null, .null, .null, .null, .null, .null, .int 0, .null, .null, .int 0])), (q1, .inr (1, [.ref q2, .ref q3, .int 0, .int (-1), .int 0, .int 0])), (q2, .inl (cA4, 44, .inr (.inr (.inr (.inr (mx_g q2 44)))))), (q3, .inl (cA6, 44, .inl (fun _ => 0))), (q7, .inr (3, [.ref q8, .ref q9, .int 0])), (q12, .inl (cA13, 4, .inr (.inr (.inr (.inr (va_up (va_up (va_up (va_up (fun _ => none) 0 (some q14)) 1 (some q16)) 2 (some q18)) 3 (some q20))))))), (q14, .inr (5, [.ref q15, .int 0, .int 0, .int 0, .int 0, .int 0, .int 0, .int 0])), (q16, .inr (5, [.ref q17, .int 1, .int 0, .int 0, .int 0, .int 0, .int 0, .int 0])), (q18, .inr (5, [.ref q19, .int 2, .int 0, .int 0, .int 0, .int 0, .int 0, .int 0])), (q20, .inr (5, [.ref q21, .int 3, .int 0, .int 0, .int 0, .int 0, .int 0, .int 0]))] ++ mx_Y q2 cA5) H := hP
  have hD : va_D A ([(h0, .inr (8, [.ref q1, .ref q7, .ref q10, .ref q11, .ref q12, .null, .null, .null, .null, .null, .null, .int 0, .null, .null, .int 0])), (q1, .inr (1, [.ref q2, .ref q3, .int 0, .int (-1), .int 0, .int 0])), (q2, .inl (cA4, 44, .inr (.inr (.inr (.inr (mx_g q2 44)))))), (q3, .inl (cA6, 44, .inl (fun _ => 0))), (q7, .inr (3, [.ref q8, .ref q9, .int 0])), (q12, .inl (cA13, 4, .inr (.inr (.inr (.inr (va_up (va_up (va_up (va_up (fun _ => none) 0 (some q14)) 1 (some q16)) 2 (some q18)) 3 (some q20))))))), (q14, .inr (5, [.ref q15, .int 0, .int 0, .int 0, .int 0, .int 0, .int 0, .int 0])), (q16, .inr (5, [.ref q17, .int 1, .int 0, .int 0, .int 0, .int 0, .int 0, .int 0])), (q18, .inr (5, [.ref q19, .int 2, .int 0, .int 0, .int 0, .int 0, .int 0, .int 0])), (q20, .inr (5, [.ref q21, .int 3, .int 0, .int 0, .int 0, .int 0, .int 0, .int 0]))] ++ mx_Y q2 cA5) := hD
  refine lv_iinc (k := 0) (v := 4) hx hb d_TS_init_85 hl rfl (by decide) (by decide) rfl (fun ls hl => ?_)
  have hl : lv_has ls 2 [(1, .int 4), (0, .ref h0)] := hl
  refine lv_goto (tgt := 66) hx hb d_TS_init_88 (by decide) ?_
  refine lv_iload_n hx hb d_TS_init_66 rfl (lv_at hl 0 rfl) ?_
  refine lv_iconst (v := 4) hx hb d_TS_init_67 (by decide) ?_
  refine lv_icmp_ge (tgt := 91) hx hb d_TS_init_68 (by decide) (fun _ => ?_) (fun h9 => absurd (by decide) h9)
  refine lv_aload_n hx hb d_TS_init_91 rfl (lv_at hl 1 rfl) ?_
  refine va_new (D := (dC, dI)) (ci := 5) (fs := [.null, .int 0, .int 0, .int 0, .int 0, .int 0, .int 0, .int 0]) (C := RLa) (T := FLa) (N := 8) hx hb hB in_La tLa tLa_ok hown (hB _ hw_240) (hB _ hw_242) (hB _ hw_73) hK hP hD hS hA rfl (fun j hj => by rcases (show j = 0 ∨ j = 1 ∨ j = 2 ∨ j = 3 ∨ j = 4 ∨ j = 5 ∨ j = 6 ∨ j = 7 by omega) with rfl | rfl | rfl | rfl | rfl | rfl | rfl | rfl <;> rfl) (Nat.le_of_ble_eq_true rfl) (Nat.le_of_ble_eq_true rfl) d_TS_init_92 (fun q22 H hP hD hS => ?_)
  have hP := hP.sub (ws' := ([(h0, .inr (8, [.ref q1, .ref q7, .ref q10, .ref q11, .ref q12, .null, .null, .null, .null, .null, .null, .int 0, .null, .null, .int 0])), (q1, .inr (1, [.ref q2, .ref q3, .int 0, .int (-1), .int 0, .int 0])), (q2, .inl (cA4, 44, .inr (.inr (.inr (.inr (mx_g q2 44)))))), (q3, .inl (cA6, 44, .inl (fun _ => 0))), (q7, .inr (3, [.ref q8, .ref q9, .int 0])), (q12, .inl (cA13, 4, .inr (.inr (.inr (.inr (va_up (va_up (va_up (va_up (fun _ => none) 0 (some q14)) 1 (some q16)) 2 (some q18)) 3 (some q20))))))), (q14, .inr (5, [.ref q15, .int 0, .int 0, .int 0, .int 0, .int 0, .int 0, .int 0])), (q16, .inr (5, [.ref q17, .int 1, .int 0, .int 0, .int 0, .int 0, .int 0, .int 0])), (q18, .inr (5, [.ref q19, .int 2, .int 0, .int 0, .int 0, .int 0, .int 0, .int 0])), (q20, .inr (5, [.ref q21, .int 3, .int 0, .int 0, .int 0, .int 0, .int 0, .int 0])), (q22, .inr (5, [.null, .int 0, .int 0, .int 0, .int 0, .int 0, .int 0, .int 0]))] ++ mx_Y q2 cA5)) [0, 1, 2, 3, 4, 5, 6, 7, 8, 9, 54, 10, 11, 12, 13, 14, 15, 16, 17, 18, 19, 20, 21, 22, 23, 24, 25, 26, 27, 28, 29, 30, 31, 32, 33, 34, 35, 36, 37, 38, 39, 40, 41, 42, 43, 44, 45, 46, 47, 48, 49, 50, 51, 52, 53] rfl
  have hD := hD.sub (ws' := ([(h0, .inr (8, [.ref q1, .ref q7, .ref q10, .ref q11, .ref q12, .null, .null, .null, .null, .null, .null, .int 0, .null, .null, .int 0])), (q1, .inr (1, [.ref q2, .ref q3, .int 0, .int (-1), .int 0, .int 0])), (q2, .inl (cA4, 44, .inr (.inr (.inr (.inr (mx_g q2 44)))))), (q3, .inl (cA6, 44, .inl (fun _ => 0))), (q7, .inr (3, [.ref q8, .ref q9, .int 0])), (q12, .inl (cA13, 4, .inr (.inr (.inr (.inr (va_up (va_up (va_up (va_up (fun _ => none) 0 (some q14)) 1 (some q16)) 2 (some q18)) 3 (some q20))))))), (q14, .inr (5, [.ref q15, .int 0, .int 0, .int 0, .int 0, .int 0, .int 0, .int 0])), (q16, .inr (5, [.ref q17, .int 1, .int 0, .int 0, .int 0, .int 0, .int 0, .int 0])), (q18, .inr (5, [.ref q19, .int 2, .int 0, .int 0, .int 0, .int 0, .int 0, .int 0])), (q20, .inr (5, [.ref q21, .int 3, .int 0, .int 0, .int 0, .int 0, .int 0, .int 0])), (q22, .inr (5, [.null, .int 0, .int 0, .int 0, .int 0, .int 0, .int 0, .int 0]))] ++ mx_Y q2 cA5)) [0, 1, 2, 3, 4, 5, 6, 7, 8, 9, 54, 10, 11, 12, 13, 14, 15, 16, 17, 18, 19, 20, 21, 22, 23, 24, 25, 26, 27, 28, 29, 30, 31, 32, 33, 34, 35, 36, 37, 38, 39, 40, 41, 42, 43, 44, 45, 46, 47, 48, 49, 50, 51, 52, 53] (by decide) rfl
  refine W.widen (k := 93) (n := 4012) (Nat.le_of_ble_eq_true rfl) (Nat.le_of_ble_eq_true rfl) ?_
  refine lv_dup hx hb d_TS_init_95 rfl ?_
  refine lv_iconst (v := 0) hx hb d_TS_init_96 (by decide) ?_
  have hPc := hP.sub (ws' := [(q22, .inr (5, [.null, .int 0, .int 0, .int 0, .int 0, .int 0, .int 0, .int 0]))]) [10] rfl
  have hDc := hD.sub (ws' := [(q22, .inr (5, [.null, .int 0, .int 0, .int 0, .int 0, .int 0, .int 0, .int 0]))]) [10] (by decide) rfl
  have hKc := hK.sub (tys' := []) [] rfl
  have hFc := va_free (wc := [(q22, .inr (5, [.null, .int 0, .int 0, .int 0, .int 0, .int 0, .int 0, .int 0]))]) hD hS hA [10] rfl
  refine va_callv (va_runI (As := [.int 0]) (rest := [.ref q22, .ref h0]) ⟨hx, hb, hml, hown, hts⟩ (c_La_init l dC dI q22 H.size 0) (cwI 1 hts (gx_good k_La_init) rfl rfl rfl (hB _ hw_73) (hB _ hw_243) (hB _ hw_244) rfl (by decide +kernel) ⟨(Nat.le_of_ble_eq_true rfl), (Nat.le_of_ble_eq_true rfl)⟩) ⟨fun a U g mk q => by obtain ⟨q0, q1, qP, qK, qD⟩ := q; exact ⟨q0, q1, qP, va_K.moved (u := U) (U := U.calling g mk a) (Vm.Alike.refl U.vm) qK, qD⟩, fun U hU hW => ⟨rfl, by rw [hU], by rw [hU]; exact hPc, va_K.moved hW.alike hKc, hDc.weaken (fun _ _ _ _ => trivial)⟩⟩ rfl rfl hl.1 rfl (lv_room (Nat.le_of_ble_eq_true rfl)) d_TS_init_97 ⟨(Nat.le_of_ble_eq_true rfl), (Nat.le_of_ble_eq_true rfl)⟩) hS (fun q _ h => hFc q h) hFc (fun u t H1 locs ht hvm hw hB1 hz1 hk1 hS => ?_)
  obtain ⟨q23, hP1, hD1⟩ := hB1
  rw [ht] at hP1
  obtain ⟨hP, hD⟩ := va_join (wr := ([(h0, .inr (8, [.ref q1, .ref q7, .ref q10, .ref q11, .ref q12, .null, .null, .null, .null, .null, .null, .int 0, .null, .null, .int 0])), (q1, .inr (1, [.ref q2, .ref q3, .int 0, .int (-1), .int 0, .int 0])), (q2, .inl (cA4, 44, .inr (.inr (.inr (.inr (mx_g q2 44)))))), (q3, .inl (cA6, 44, .inl (fun _ => 0))), (q7, .inr (3, [.ref q8, .ref q9, .int 0])), (q12, .inl (cA13, 4, .inr (.inr (.inr (.inr (va_up (va_up (va_up (va_up (fun _ => none) 0 (some q14)) 1 (some q16)) 2 (some q18)) 3 (some q20))))))), (q14, .inr (5, [.ref q15, .int 0, .int 0, .int 0, .int 0, .int 0, .int 0, .int 0])), (q16, .inr (5, [.ref q17, .int 1, .int 0, .int 0, .int 0, .int 0, .int 0, .int 0])), (q18, .inr (5, [.ref q19, .int 2, .int 0, .int 0, .int 0, .int 0, .int 0, .int 0])), (q20, .inr (5, [.ref q21, .int 3, .int 0, .int 0, .int 0, .int 0, .int 0, .int 0]))] ++ mx_Y q2 cA5)) (w1 := [(q22, .inr (5, [.ref q23, .int 0, .int 0, .int 0, .int 0, .int 0, .int 0, .int 0]))]) hP hD [10] [0, 1, 2, 3, 4, 5, 6, 7, 8, 9, 11, 12, 13, 14, 15, 16, 17, 18, 19, 20, 21, 22, 23, 24, 25, 26, 27, 28, 29, 30, 31, 32, 33, 34, 35, 36, 37, 38, 39, 40, 41, 42, 43, 44, 45, 46, 47, 48, 49, 50, 51, 52, 53, 54] rfl rfl (by decide) (by decide) hk1 hFc hP1 hD1
  generalize H1 = H at hP hS ⊢
  have hP := hP.sub (ws' := ([(h0, .inr (8, [.ref q1, .ref q7, .ref q10, .ref q11, .ref q12, .null, .null, .null, .null, .null, .null, .int 0, .null, .null, .int 0])), (q1, .inr (1, [.ref q2, .ref q3, .int 0, .int (-1), .int 0, .int 0])), (q2, .inl (cA4, 44, .inr (.inr (.inr (.inr (mx_g q2 44)))))), (q3, .inl (cA6, 44, .inl (fun _ => 0))), (q7, .inr (3, [.ref q8, .ref q9, .int 0])), (q12, .inl (cA13, 4, .inr (.inr (.inr (.inr (va_up (va_up (va_up (va_up (fun _ => none) 0 (some q14)) 1 (some q16)) 2 (some q18)) 3 (some q20))))))), (q14, .inr (5, [.ref q15, .int 0, .int 0, .int 0, .int 0, .int 0, .int 0, .int 0])), (q16, .inr (5, [.ref q17, .int 1, .int 0, .int 0, .int 0, .int 0, .int 0, .int 0])), (q18, .inr (5, [.ref q19, .int 2, .int 0, .int 0, .int 0, .int 0, .int 0, .int 0])), (q20, .inr (5, [.ref q21, .int 3, .int 0, .int 0, .int 0, .int 0, .int 0, .int 0])), (q22, .inr (5, [.ref q23, .int 0, .int 0, .int 0, .int 0, .int 0, .int 0, .int 0]))] ++ mx_Y q2 cA5)) [0, 1, 2, 3, 4, 5, 6, 7, 8, 9, 54, 10, 11, 12, 13, 14, 15, 16, 17, 18, 19, 20, 21, 22, 23, 24, 25, 26, 27, 28, 29, 30, 31, 32, 33, 34, 35, 36, 37, 38, 39, 40, 41, 42, 43, 44, 45, 46, 47, 48, 49, 50, 51, 52, 53] rfl
  have hD := hD.sub (ws' := ([(h0, .inr (8, [.ref q1, .ref q7, .ref q10, .ref q11, .ref q12, .null, .null, .null, .null, .null, .null, .int 0, .null, .null, .int 0])), (q1, .inr (1, [.ref q2, .ref q3, .int 0, .int (-1), .int 0, .int 0])), (q2, .inl (cA4, 44, .inr (.inr (.inr (.inr (mx_g q2 44)))))), (q3, .inl (cA6, 44, .inl (fun _ => 0))), (q7, .inr (3, [.ref q8, .ref q9, .int 0])), (q12, .inl (cA13, 4, .inr (.inr (.inr (.inr (va_up (va_up (va_up (va_up (fun _ => none) 0 (some q14)) 1 (some q16)) 2 (some q18)) 3 (some q20))))))), (q14, .inr (5, [.ref q15, .int 0, .int 0, .int 0, .int 0, .int 0, .int 0, .int 0])), (q16, .inr (5, [.ref q17, .int 1, .int 0, .int 0, .int 0, .int 0, .int 0, .int 0])), (q18, .inr (5, [.ref q19, .int 2, .int 0, .int 0, .int 0, .int 0, .int 0, .int 0])), (q20, .inr (5, [.ref q21, .int 3, .int 0, .int 0, .int 0, .int 0, .int 0, .int 0])), (q22, .inr (5, [.ref q23, .int 0, .int 0, .int 0, .int 0, .int 0, .int 0, .int 0]))] ++ mx_Y q2 cA5)) [0, 1, 2, 3, 4, 5, 6, 7, 8, 9, 54, 10, 11, 12, 13, 14, 15, 16, 17, 18, 19, 20, 21, 22, 23, 24, 25, 26, 27, 28, 29, 30, 31, 32, 33, 34, 35, 36, 37, 38, 39, 40, 41, 42, 43, 44, 45, 46, 47, 48, 49, 50, 51, 52, 53] (by decide) rfl
  refine W.widen (k := 94) (n := 4044) (Nat.le_of_ble_eq_true rfl) (Nat.le_of_ble_eq_true rfl) ?_
  refine va_putF (D := (dC, dI)) (ci := 8) (v := .ref q22) (ty := .object "TapeSealer$Label") (C := RTS) (T := FTS) (N := 15) hx hb hB in_TS tTS tTS_ok nTS hown hK hP hD hS 0 rfl rfl 5 (by decide) (hB _ hw_312) (fun _ h9 => h9) rfl hin rfl (by decide +kernel) rfl rfl (Nat.le_of_ble_eq_true rfl) d_TS_init_100 (fun H locs hP hD hS => ?_)
  have hP : va_P (dC, dI) gx_cl ([(h0, .inr (8, [.ref q1, .ref q7, .ref q10, .ref q11, .ref q12, .ref q22, .null, .null, .null, .null, .null, .int 0, .null, .null, .int 0])), (q1, .inr (1, [.ref q2, .ref q3, .int 0, .int (-1), .int 0, .int 0])), (q2, .inl (cA4, 44, .inr (.inr (.inr (.inr (mx_g q2 44)))))), (q3, .inl (cA6, 44, .inl (fun _ => 0))), (q7, .inr (3, [.ref q8, .ref q9, .int 0])), (q12, .inl (cA13, 4, .inr (.inr (.inr (.inr (va_up (va_up (va_up (va_up (fun _ => none) 0 (some q14)) 1 (some q16)) 2 (some q18)) 3 (some q20))))))), (q14, .inr (5, [.ref q15, .int 0, .int 0, .int 0, .int 0, .int 0, .int 0, .int 0])), (q16, .inr (5, [.ref q17, .int 1, .int 0, .int 0, .int 0, .int 0, .int 0, .int 0])), (q18, .inr (5, [.ref q19, .int 2, .int 0, .int 0, .int 0, .int 0, .int 0, .int 0])), (q20, .inr (5, [.ref q21, .int 3, .int 0, .int 0, .int 0, .int 0, .int 0, .int 0])), (q22, .inr (5, [.ref q23, .int 0, .int 0, .int 0, .int 0, .int 0, .int 0, .int 0]))] ++ mx_Y q2 cA5) H := hP
  have hD : va_D A ([(h0, .inr (8, [.ref q1, .ref q7, .ref q10, .ref q11, .ref q12, .ref q22, .null, .null, .null, .null, .null, .int 0, .null, .null, .int 0])), (q1, .inr (1, [.ref q2, .ref q3, .int 0, .int (-1), .int 0, .int 0])), (q2, .inl (cA4, 44, .inr (.inr (.inr (.inr (mx_g q2 44)))))), (q3, .inl (cA6, 44, .inl (fun _ => 0))), (q7, .inr (3, [.ref q8, .ref q9, .int 0])), (q12, .inl (cA13, 4, .inr (.inr (.inr (.inr (va_up (va_up (va_up (va_up (fun _ => none) 0 (some q14)) 1 (some q16)) 2 (some q18)) 3 (some q20))))))), (q14, .inr (5, [.ref q15, .int 0, .int 0, .int 0, .int 0, .int 0, .int 0, .int 0])), (q16, .inr (5, [.ref q17, .int 1, .int 0, .int 0, .int 0, .int 0, .int 0, .int 0])), (q18, .inr (5, [.ref q19, .int 2, .int 0, .int 0, .int 0, .int 0, .int 0, .int 0])), (q20, .inr (5, [.ref q21, .int 3, .int 0, .int 0, .int 0, .int 0, .int 0, .int 0])), (q22, .inr (5, [.ref q23, .int 0, .int 0, .int 0, .int 0, .int 0, .int 0, .int 0]))] ++ mx_Y q2 cA5) := hD
  have hP := hP.sub (ws' := ([(h0, .inr (8, [.ref q1, .ref q7, .ref q10, .ref q11, .ref q12, .ref q22, .null, .null, .null, .null, .null, .int 0, .null, .null, .int 0])), (q1, .inr (1, [.ref q2, .ref q3, .int 0, .int (-1), .int 0, .int 0])), (q2, .inl (cA4, 44, .inr (.inr (.inr (.inr (mx_g q2 44)))))), (q3, .inl (cA6, 44, .inl (fun _ => 0))), (q7, .inr (3, [.ref q8, .ref q9, .int 0])), (q12, .inl (cA13, 4, .inr (.inr (.inr (.inr (va_up (va_up (va_up (va_up (fun _ => none) 0 (some q14)) 1 (some q16)) 2 (some q18)) 3 (some q20))))))), (q14, .inr (5, [.ref q15, .int 0, .int 0, .int 0, .int 0, .int 0, .int 0, .int 0])), (q16, .inr (5, [.ref q17, .int 1, .int 0, .int 0, .int 0, .int 0, .int 0, .int 0])), (q18, .inr (5, [.ref q19, .int 2, .int 0, .int 0, .int 0, .int 0, .int 0, .int 0])), (q20, .inr (5, [.ref q21, .int 3, .int 0, .int 0, .int 0, .int 0, .int 0, .int 0]))] ++ mx_Y q2 cA5)) [0, 1, 2, 3, 4, 5, 6, 7, 8, 9, 11, 12, 13, 14, 15, 16, 17, 18, 19, 20, 21, 22, 23, 24, 25, 26, 27, 28, 29, 30, 31, 32, 33, 34, 35, 36, 37, 38, 39, 40, 41, 42, 43, 44, 45, 46, 47, 48, 49, 50, 51, 52, 53, 54] rfl
  have hD := hD.sub (ws' := ([(h0, .inr (8, [.ref q1, .ref q7, .ref q10, .ref q11, .ref q12, .ref q22, .null, .null, .null, .null, .null, .int 0, .null, .null, .int 0])), (q1, .inr (1, [.ref q2, .ref q3, .int 0, .int (-1), .int 0, .int 0])), (q2, .inl (cA4, 44, .inr (.inr (.inr (.inr (mx_g q2 44)))))), (q3, .inl (cA6, 44, .inl (fun _ => 0))), (q7, .inr (3, [.ref q8, .ref q9, .int 0])), (q12, .inl (cA13, 4, .inr (.inr (.inr (.inr (va_up (va_up (va_up (va_up (fun _ => none) 0 (some q14)) 1 (some q16)) 2 (some q18)) 3 (some q20))))))), (q14, .inr (5, [.ref q15, .int 0, .int 0, .int 0, .int 0, .int 0, .int 0, .int 0])), (q16, .inr (5, [.ref q17, .int 1, .int 0, .int 0, .int 0, .int 0, .int 0, .int 0])), (q18, .inr (5, [.ref q19, .int 2, .int 0, .int 0, .int 0, .int 0, .int 0, .int 0])), (q20, .inr (5, [.ref q21, .int 3, .int 0, .int 0, .int 0, .int 0, .int 0, .int 0]))] ++ mx_Y q2 cA5)) [0, 1, 2, 3, 4, 5, 6, 7, 8, 9, 11, 12, 13, 14, 15, 16, 17, 18, 19, 20, 21, 22, 23, 24, 25, 26, 27, 28, 29, 30, 31, 32, 33, 34, 35, 36, 37, 38, 39, 40, 41, 42, 43, 44, 45, 46, 47, 48, 49, 50, 51, 52, 53, 54] (by decide) rfl
  refine lv_aload_n hx hb d_TS_init_103 rfl (lv_at hl 1 rfl) ?_
  refine lv_bipush (v := 64) hx hb d_TS_init_104 (by decide) ?_
  refine va_newa (D := (dC, dI)) (atype := .int) (a0 := (64, .inl (fun _ => 0))) (ty := .int) hx hb (hB _ hw_131) rfl hK hP hD hS hA (fun _ => rfl) (by decide) (N' := 64) rfl (by decide) (Nat.le_of_ble_eq_true rfl) (Nat.le_of_ble_eq_true rfl) d_TS_init_106 (fun q24 cA25 H hK hP hD hS => ?_)
  have hP := hP.sub (ws' := ([(h0, .inr (8, [.ref q1, .ref q7, .ref q10, .ref q11, .ref q12, .ref q22, .null, .null, .null, .null, .null, .int 0, .null, .null, .int 0])), (q1, .inr (1, [.ref q2, .ref q3, .int 0, .int (-1), .int 0, .int 0])), (q2, .inl (cA4, 44, .inr (.inr (.inr (.inr (mx_g q2 44)))))), (q3, .inl (cA6, 44, .inl (fun _ => 0))), (q7, .inr (3, [.ref q8, .ref q9, .int 0])), (q12, .inl (cA13, 4, .inr (.inr (.inr (.inr (va_up (va_up (va_up (va_up (fun _ => none) 0 (some q14)) 1 (some q16)) 2 (some q18)) 3 (some q20))))))), (q14, .inr (5, [.ref q15, .int 0, .int 0, .int 0, .int 0, .int 0, .int 0, .int 0])), (q16, .inr (5, [.ref q17, .int 1, .int 0, .int 0, .int 0, .int 0, .int 0, .int 0])), (q18, .inr (5, [.ref q19, .int 2, .int 0, .int 0, .int 0, .int 0, .int 0, .int 0])), (q20, .inr (5, [.ref q21, .int 3, .int 0, .int 0, .int 0, .int 0, .int 0, .int 0])), (q24, .inl (cA25, 64, .inl (fun _ => 0)))] ++ mx_Y q2 cA5)) [0, 1, 2, 3, 4, 5, 6, 7, 8, 9, 54, 10, 11, 12, 13, 14, 15, 16, 17, 18, 19, 20, 21, 22, 23, 24, 25, 26, 27, 28, 29, 30, 31, 32, 33, 34, 35, 36, 37, 38, 39, 40, 41, 42, 43, 44, 45, 46, 47, 48, 49, 50, 51, 52, 53] rfl
  have hD := hD.sub (ws' := ([(h0, .inr (8, [.ref q1, .ref q7, .ref q10, .ref q11, .ref q12, .ref q22, .null, .null, .null, .null, .null, .int 0, .null, .null, .int 0])), (q1, .inr (1, [.ref q2, .ref q3, .int 0, .int (-1), .int 0, .int 0])), (q2, .inl (cA4, 44, .inr (.inr (.inr (.inr (mx_g q2 44)))))), (q3, .inl (cA6, 44, .inl (fun _ => 0))), (q7, .inr (3, [.ref q8, .ref q9, .int 0])), (q12, .inl (cA13, 4, .inr (.inr (.inr (.inr (va_up (va_up (va_up (va_up (fun _ => none) 0 (some q14)) 1 (some q16)) 2 (some q18)) 3 (some q20))))))), (q14, .inr (5, [.ref q15, .int 0, .int 0, .int 0, .int 0, .int 0, .int 0, .int 0])), (q16, .inr (5, [.ref q17, .int 1, .int 0, .int 0, .int 0, .int 0, .int 0, .int 0])), (q18, .inr (5, [.ref q19, .int 2, .int 0, .int 0, .int 0, .int 0, .int 0, .int 0])), (q20, .inr (5, [.ref q21, .int 3, .int 0, .int 0, .int 0, .int 0, .int 0, .int 0])), (q24, .inl (cA25, 64, .inl (fun _ => 0)))] ++ mx_Y q2 cA5)) [0, 1, 2, 3, 4, 5, 6, 7, 8, 9, 54, 10, 11, 12, 13, 14, 15, 16, 17, 18, 19, 20, 21, 22, 23, 24, 25, 26, 27, 28, 29, 30, 31, 32, 33, 34, 35, 36, 37, 38, 39, 40, 41, 42, 43, 44, 45, 46, 47, 48, 49, 50, 51, 52, 53] (by decide) rfl
  have hK : va_K (dC, dI) gx_cl [(cA4, .array .int), (cA5, .int), (cA6, .boolean), (cA13, .object "TapeSealer$Label"), (cA25, .int)] s := hK
  refine W.widen (k := 95) (n := 4108) (Nat.le_of_ble_eq_true rfl) (Nat.le_of_ble_eq_true rfl) ?_
  refine va_putF (D := (dC, dI)) (ci := 8) (v := .ref q24) (ty := .array .int) (C := RTS) (T := FTS) (N := 15) hx hb hB in_TS tTS tTS_ok nTS hown hK hP hD hS 0 rfl rfl 6 (by decide) (hB _ hw_313) (fun _ h9 => h9) rfl hin rfl (by decide +kernel) rfl rfl (Nat.le_of_ble_eq_true rfl) d_TS_init_108 (fun H locs hP hD hS => ?_)
  have hP : va_P (dC, dI) gx_cl ([(h0, .inr (8, [.ref q1, .ref q7, .ref q10, .ref q11, .ref q12, .ref q22, .ref q24, .null, .null, .null, .null, .int 0, .null, .null, .int 0])), (q1, .inr (1, [.ref q2, .ref q3, .int 0, .int (-1), .int 0, .int 0])), (q2, .inl (cA4, 44, .inr (.inr (.inr (.inr (mx_g q2 44)))))), (q3, .inl (cA6, 44, .inl (fun _ => 0))), (q7, .inr (3, [.ref q8, .ref q9, .int 0])), (q12, .inl (cA13, 4, .inr (.inr (.inr (.inr (va_up (va_up (va_up (va_up (fun _ => none) 0 (some q14)) 1 (some q16)) 2 (some q18)) 3 (some q20))))))), (q14, .inr (5, [.ref q15, .int 0, .int 0, .int 0, .int 0, .int 0, .int 0, .int 0])), (q16, .inr (5, [.ref q17, .int 1, .int 0, .int 0, .int 0, .int 0, .int 0, .int 0])), (q18, .inr (5, [.ref q19, .int 2, .int 0, .int 0, .int 0, .int 0, .int 0, .int 0])), (q20, .inr (5, [.ref q21, .int 3, .int 0, .int 0, .int 0, .int 0, .int 0, .int 0])), (q24, .inl (cA25, 64, .inl (fun _ => 0)))] ++ mx_Y q2 cA5) H := hP
  have hD : va_D A ([(h0, .inr (8, [.ref q1, .ref q7, .ref q10, .ref q11, .ref q12, .ref q22, .ref q24, .null, .null, .null, .null, .int 0, .null, .null, .int 0])), (q1, .inr (1, [.ref q2, .ref q3, .int 0, .int (-1), .int 0, .int 0])), (q2, .inl (cA4, 44, .inr (.inr (.inr (.inr (mx_g q2 44)))))), (q3, .inl (cA6, 44, .inl (fun _ => 0))), (q7, .inr (3, [.ref q8, .ref q9, .int 0])), (q12, .inl (cA13, 4, .inr (.inr (.inr (.inr (va_up (va_up (va_up (va_up (fun _ => none) 0 (some q14)) 1 (some q16)) 2 (some q18)) 3 (some q20))))))), (q14, .inr (5, [.ref q15, .int 0, .int 0, .int 0, .int 0, .int 0, .int 0, .int 0])), (q16, .inr (5, [.ref q17, .int 1, .int 0, .int 0, .int 0, .int 0, .int 0, .int 0])), (q18, .inr (5, [.ref q19, .int 2, .int 0, .int 0, .int 0, .int 0, .int 0, .int 0])), (q20, .inr (5, [.ref q21, .int 3, .int 0, .int 0, .int 0, .int 0, .int 0, .int 0])), (q24, .inl (cA25, 64, .inl (fun _ => 0)))] ++ mx_Y q2 cA5) := hD
  have hP := hP.sub (ws' := ([(h0, .inr (8, [.ref q1, .ref q7, .ref q10, .ref q11, .ref q12, .ref q22, .ref q24, .null, .null, .null, .null, .int 0, .null, .null, .int 0])), (q1, .inr (1, [.ref q2, .ref q3, .int 0, .int (-1), .int 0, .int 0])), (q2, .inl (cA4, 44, .inr (.inr (.inr (.inr (mx_g q2 44)))))), (q3, .inl (cA6, 44, .inl (fun _ => 0))), (q7, .inr (3, [.ref q8, .ref q9, .int 0])), (q12, .inl (cA13, 4, .inr (.inr (.inr (.inr (va_up (va_up (va_up (va_up (fun _ => none) 0 (some q14)) 1 (some q16)) 2 (some q18)) 3 (some q20))))))), (q14, .inr (5, [.ref q15, .int 0, .int 0, .int 0, .int 0, .int 0, .int 0, .int 0])), (q16, .inr (5, [.ref q17, .int 1, .int 0, .int 0, .int 0, .int 0, .int 0, .int 0])), (q18, .inr (5, [.ref q19, .int 2, .int 0, .int 0, .int 0, .int 0, .int 0, .int 0])), (q20, .inr (5, [.ref q21, .int 3, .int 0, .int 0, .int 0, .int 0, .int 0, .int 0]))] ++ mx_Y q2 cA5)) [0, 1, 2, 3, 4, 5, 6, 7, 8, 9, 11, 12, 13, 14, 15, 16, 17, 18, 19, 20, 21, 22, 23, 24, 25, 26, 27, 28, 29, 30, 31, 32, 33, 34, 35, 36, 37, 38, 39, 40, 41, 42, 43, 44, 45, 46, 47, 48, 49, 50, 51, 52, 53, 54] rfl
  have hD := hD.sub (ws' := ([(h0, .inr (8, [.ref q1, .ref q7, .ref q10, .ref q11, .ref q12, .ref q22, .ref q24, .null, .null, .null, .null, .int 0, .null, .null, .int 0])), (q1, .inr (1, [.ref q2, .ref q3, .int 0, .int (-1), .int 0, .int 0])), (q2, .inl (cA4, 44, .inr (.inr (.inr (.inr (mx_g q2 44)))))), (q3, .inl (cA6, 44, .inl (fun _ => 0))), (q7, .inr (3, [.ref q8, .ref q9, .int 0])), (q12, .inl (cA13, 4, .inr (.inr (.inr (.inr (va_up (va_up (va_up (va_up (fun _ => none) 0 (some q14)) 1 (some q16)) 2 (some q18)) 3 (some q20))))))), (q14, .inr (5, [.ref q15, .int 0, .int 0, .int 0, .int 0, .int 0, .int 0, .int 0])), (q16, .inr (5, [.ref q17, .int 1, .int 0, .int 0, .int 0, .int 0, .int 0, .int 0])), (q18, .inr (5, [.ref q19, .int 2, .int 0, .int 0, .int 0, .int 0, .int 0, .int 0])), (q20, .inr (5, [.ref q21, .int 3, .int 0, .int 0, .int 0, .int 0, .int 0, .int 0]))] ++ mx_Y q2 cA5)) [0, 1, 2, 3, 4, 5, 6, 7, 8, 9, 11, 12, 13, 14, 15, 16, 17, 18, 19, 20, 21, 22, 23, 24, 25, 26, 27, 28, 29, 30, 31, 32, 33, 34, 35, 36, 37, 38, 39, 40, 41, 42, 43, 44, 45, 46, 47, 48, 49, 50, 51, 52, 53, 54] (by decide) rfl
  have hK := hK.sub (tys' := [(cA4, .array .int), (cA5, .int), (cA6, .boolean), (cA13, .object "TapeSealer$Label")]) [0, 1, 2, 3] rfl
  refine lv_aload_n hx hb d_TS_init_111 rfl (lv_at hl 1 rfl) ?_
  refine lv_bipush (v := 64) hx hb d_TS_init_112 (by decide) ?_
  refine va_newa (D := (dC, dI)) (atype := .int) (a0 := (64, .inl (fun _ => 0))) (ty := .int) hx hb (hB _ hw_131) rfl hK hP hD hS hA (fun _ => rfl) (by decide) (N' := 64) rfl (by decide) (Nat.le_of_ble_eq_true rfl) (Nat.le_of_ble_eq_true rfl) d_TS_init_114 (fun q26 cA27 H hK hP hD hS => ?_)
  have hP := hP.sub (ws' := ([(h0, .inr (8, [.ref q1, .ref q7, .ref q10, .ref q11, .ref q12, .ref q22, .ref q24, .null, .null, .null, .null, .int 0, .null, .null, .int 0])), (q1, .inr (1, [.ref q2, .ref q3, .int 0, .int (-1), .int 0, .int 0])), (q2, .inl (cA4, 44, .inr (.inr (.inr (.inr (mx_g q2 44)))))), (q3, .inl (cA6, 44, .inl (fun _ => 0))), (q7, .inr (3, [.ref q8, .ref q9, .int 0])), (q12, .inl (cA13, 4, .inr (.inr (.inr (.inr (va_up (va_up (va_up (va_up (fun _ => none) 0 (some q14)) 1 (some q16)) 2 (some q18)) 3 (some q20))))))), (q14, .inr (5, [.ref q15, .int 0, .int 0, .int 0, .int 0, .int 0, .int 0, .int 0])), (q16, .inr (5, [.ref q17, .int 1, .int 0, .int 0, .int 0, .int 0, .int 0, .int 0])), (q18, .inr (5, [.ref q19, .int 2, .int 0, .int 0, .int 0, .int 0, .int 0, .int 0])), (q20, .inr (5, [.ref q21, .int 3, .int 0, .int 0, .int 0, .int 0, .int 0, .int 0])), (q26, .inl (cA27, 64, .inl (fun _ => 0)))] ++ mx_Y q2 cA5)) [0, 1, 2, 3, 4, 5, 6, 7, 8, 9, 54, 10, 11, 12, 13, 14, 15, 16, 17, 18, 19, 20, 21, 22, 23, 24, 25, 26, 27, 28, 29, 30, 31, 32, 33, 34, 35, 36, 37, 38, 39, 40, 41, 42, 43, 44, 45, 46, 47, 48, 49, 50, 51, 52, 53] rfl
  have hD := hD.sub (ws' := ([(h0, .inr (8, [.ref q1, .ref q7, .ref q10, .ref q11, .ref q12, .ref q22, .ref q24, .null, .null, .null, .null, .int 0, .null, .null, .int 0])), (q1, .inr (1, [.ref q2, .ref q3, .int 0, .int (-1), .int 0, .int 0])), (q2, .inl (cA4, 44, .inr (.inr (.inr (.inr (mx_g q2 44)))))), (q3, .inl (cA6, 44, .inl (fun _ => 0))), (q7, .inr (3, [.ref q8, .ref q9, .int 0])), (q12, .inl (cA13, 4, .inr (.inr (.inr (.inr (va_up (va_up (va_up (va_up (fun _ => none) 0 (some q14)) 1 (some q16)) 2 (some q18)) 3 (some q20))))))), (q14, .inr (5, [.ref q15, .int 0, .int 0, .int 0, .int 0, .int 0, .int 0, .int 0])), (q16, .inr (5, [.ref q17, .int 1, .int 0, .int 0, .int 0, .int 0, .int 0, .int 0])), (q18, .inr (5, [.ref q19, .int 2, .int 0, .int 0, .int 0, .int 0, .int 0, .int 0])), (q20, .inr (5, [.ref q21, .int 3, .int 0, .int 0, .int 0, .int 0, .int 0, .int 0])), (q26, .inl (cA27, 64, .inl (fun _ => 0)))] ++ mx_Y q2 cA5)) [0, 1, 2, 3, 4, 5, 6, 7, 8, 9, 54, 10, 11, 12, 13, 14, 15, 16, 17, 18, 19, 20, 21, 22, 23, 24, 25, 26, 27, 28, 29, 30, 31, 32, 33, 34, 35, 36, 37, 38, 39, 40, 41, 42, 43, 44, 45, 46, 47, 48, 49, 50, 51, 52, 53] (by decide) rfl
  have hK : va_K (dC, dI) gx_cl [(cA4, .array .int), (cA5, .int), (cA6, .boolean), (cA13, .object "TapeSealer$Label"), (cA27, .int)] s := hK
  refine W.widen (k := 96) (n := 4172) (Nat.le_of_ble_eq_true rfl) (Nat.le_of_ble_eq_true rfl) ?_
  refine va_putF (D := (dC, dI)) (ci := 8) (v := .ref q26) (ty := .array .int) (C := RTS) (T := FTS) (N := 15) hx hb hB in_TS tTS tTS_ok nTS hown hK hP hD hS 0 rfl rfl 7 (by decide) (hB _ hw_314) (fun _ h9 => h9) rfl hin rfl (by decide +kernel) rfl rfl (Nat.le_of_ble_eq_true rfl) d_TS_init_116 (fun H locs hP hD hS => ?_)
  have hP : va_P (dC, dI) gx_cl ([(h0, .inr (8, [.ref q1, .ref q7, .ref q10, .ref q11, .ref q12, .ref q22, .ref q24, .ref q26, .null, .null, .null, .int 0, .null, .null, .int 0])), (q1, .inr (1, [.ref q2, .ref q3, .int 0, .int (-1), .int 0, .int 0])), (q2, .inl (cA4, 44, .inr (.inr (.inr (.inr (mx_g q2 44)))))), (q3, .inl (cA6, 44, .inl (fun _ => 0))), (q7, .inr (3, [.ref q8, .ref q9, .int 0])), (q12, .inl (cA13, 4, .inr (.inr (.inr (.inr (va_up (va_up (va_up (va_up (fun _ => none) 0 (some q14)) 1 (some q16)) 2 (some q18)) 3 (some q20))))))), (q14, .inr (5, [.ref q15, .int 0, .int 0, .int 0, .int 0, .int 0, .int 0, .int 0])), (q16, .inr (5, [.ref q17, .int 1, .int 0, .int 0, .int 0, .int 0, .int 0, .int 0])), (q18, .inr (5, [.ref q19, .int 2, .int 0, .int 0, .int 0, .int 0, .int 0, .int 0])), (q20, .inr (5, [.ref q21, .int 3, .int 0, .int 0, .int 0, .int 0, .int 0, .int 0])), (q26, .inl (cA27, 64, .inl (fun _ => 0)))] ++ mx_Y q2 cA5) H := hP
  have hD : va_D A ([(h0, .inr (8, [.ref q1, .ref q7, .ref q10, .ref q11, .ref q12, .ref q22, .ref q24, .ref q26, .null, .null, .null, .int 0, .null, .null, .int 0])), (q1, .inr (1, [.ref q2, .ref q3, .int 0, .int (-1), .int 0, .int 0])), (q2, .inl (cA4, 44, .inr (.inr (.inr (.inr (mx_g q2 44)))))), (q3, .inl (cA6, 44, .inl (fun _ => 0))), (q7, .inr (3, [.ref q8, .ref q9, .int 0])), (q12, .inl (cA13, 4, .inr (.inr (.inr (.inr (va_up (va_up (va_up (va_up (fun _ => none) 0 (some q14)) 1 (some q16)) 2 (some q18)) 3 (some q20))))))), (q14, .inr (5, [.ref q15, .int 0, .int 0, .int 0, .int 0, .int 0, .int 0, .int 0])), (q16, .inr (5, [.ref q17, .int 1, .int 0, .int 0, .int 0, .int 0, .int 0, .int 0])), (q18, .inr (5, [.ref q19, .int 2, .int 0, .int 0, .int 0, .int 0, .int 0, .int 0])), (q20, .inr (5, [.ref q21, .int 3, .int 0, .int 0, .int 0, .int 0, .int 0, .int 0])), (q26, .inl (cA27, 64, .inl (fun _ => 0)))] ++ mx_Y q2 cA5) := hD
  have hP := hP.sub (ws' := ([(h0, .inr (8, [.ref q1, .ref q7, .ref q10, .ref q11, .ref q12, .ref q22, .ref q24, .ref q26, .null, .null, .null, .int 0, .null, .null, .int 0])), (q1, .inr (1, [.ref q2, .ref q3, .int 0, .int (-1), .int 0, .int 0])), (q2, .inl (cA4, 44, .inr (.inr (.inr (.inr (mx_g q2 44)))))), (q3, .inl (cA6, 44, .inl (fun _ => 0))), (q7, .inr (3, [.ref q8, .ref q9, .int 0])), (q12, .inl (cA13, 4, .inr (.inr (.inr (.inr (va_up (va_up (va_up (va_up (fun _ => none) 0 (some q14)) 1 (some q16)) 2 (some q18)) 3 (some q20))))))), (q14, .inr (5, [.ref q15, .int 0, .int 0, .int 0, .int 0, .int 0, .int 0, .int 0])), (q16, .inr (5, [.ref q17, .int 1, .int 0, .int 0, .int 0, .int 0, .int 0, .int 0])), (q18, .inr (5, [.ref q19, .int 2, .int 0, .int 0, .int 0, .int 0, .int 0, .int 0])), (q20, .inr (5, [.ref q21, .int 3, .int 0, .int 0, .int 0, .int 0, .int 0, .int 0]))] ++ mx_Y q2 cA5)) [0, 1, 2, 3, 4, 5, 6, 7, 8, 9, 11, 12, 13, 14, 15, 16, 17, 18, 19, 20, 21, 22, 23, 24, 25, 26, 27, 28, 29, 30, 31, 32, 33, 34, 35, 36, 37, 38, 39, 40, 41, 42, 43, 44, 45, 46, 47, 48, 49, 50, 51, 52, 53, 54] rfl
  have hD := hD.sub (ws' := ([(h0, .inr (8, [.ref q1, .ref q7, .ref q10, .ref q11, .ref q12, .ref q22, .ref q24, .ref q26, .null, .null, .null, .int 0, .null, .null, .int 0])), (q1, .inr (1, [.ref q2, .ref q3, .int 0, .int (-1), .int 0, .int 0])), (q2, .inl (cA4, 44, .inr (.inr (.inr (.inr (mx_g q2 44)))))), (q3, .inl (cA6, 44, .inl (fun _ => 0))), (q7, .inr (3, [.ref q8, .ref q9, .int 0])), (q12, .inl (cA13, 4, .inr (.inr (.inr (.inr (va_up (va_up (va_up (va_up (fun _ => none) 0 (some q14)) 1 (some q16)) 2 (some q18)) 3 (some q20))))))), (q14, .inr (5, [.ref q15, .int 0, .int 0, .int 0, .int 0, .int 0, .int 0, .int 0])), (q16, .inr (5, [.ref q17, .int 1, .int 0, .int 0, .int 0, .int 0, .int 0, .int 0])), (q18, .inr (5, [.ref q19, .int 2, .int 0, .int 0, .int 0, .int 0, .int 0, .int 0])), (q20, .inr (5, [.ref q21, .int 3, .int 0, .int 0, .int 0, .int 0, .int 0, .int 0]))] ++ mx_Y q2 cA5)) [0, 1, 2, 3, 4, 5, 6, 7, 8, 9, 11, 12, 13, 14, 15, 16, 17, 18, 19, 20, 21, 22, 23, 24, 25, 26, 27, 28, 29, 30, 31, 32, 33, 34, 35, 36, 37, 38, 39, 40, 41, 42, 43, 44, 45, 46, 47, 48, 49, 50, 51, 52, 53, 54] (by decide) rfl
  have hK := hK.sub (tys' := [(cA4, .array .int), (cA5, .int), (cA6, .boolean), (cA13, .object "TapeSealer$Label")]) [0, 1, 2, 3] rfl
  refine lv_aload_n hx hb d_TS_init_119 rfl (lv_at hl 1 rfl) ?_
  refine lv_bipush (v := 48) hx hb d_TS_init_120 (by decide) ?_
  refine va_newa (D := (dC, dI)) (atype := .int) (a0 := (48, .inl (fun _ => 0))) (ty := .int) hx hb (hB _ hw_131) rfl hK hP hD hS hA (fun _ => rfl) (by decide) (N' := 48) rfl (by decide) (Nat.le_of_ble_eq_true rfl) (Nat.le_of_ble_eq_true rfl) d_TS_init_122 (fun q28 cA29 H hK hP hD hS => ?_)
  have hP := hP.sub (ws' := ([(h0, .inr (8, [.ref q1, .ref q7, .ref q10, .ref q11, .ref q12, .ref q22, .ref q24, .ref q26, .null, .null, .null, .int 0, .null, .null, .int 0])), (q1, .inr (1, [.ref q2, .ref q3, .int 0, .int (-1), .int 0, .int 0])), (q2, .inl (cA4, 44, .inr (.inr (.inr (.inr (mx_g q2 44)))))), (q3, .inl (cA6, 44, .inl (fun _ => 0))), (q7, .inr (3, [.ref q8, .ref q9, .int 0])), (q12, .inl (cA13, 4, .inr (.inr (.inr (.inr (va_up (va_up (va_up (va_up (fun _ => none) 0 (some q14)) 1 (some q16)) 2 (some q18)) 3 (some q20))))))), (q14, .inr (5, [.ref q15, .int 0, .int 0, .int 0, .int 0, .int 0, .int 0, .int 0])), (q16, .inr (5, [.ref q17, .int 1, .int 0, .int 0, .int 0, .int 0, .int 0, .int 0])), (q18, .inr (5, [.ref q19, .int 2, .int 0, .int 0, .int 0, .int 0, .int 0, .int 0])), (q20, .inr (5, [.ref q21, .int 3, .int 0, .int 0, .int 0, .int 0, .int 0, .int 0])), (q28, .inl (cA29, 48, .inl (fun _ => 0)))] ++ mx_Y q2 cA5)) [0, 1, 2, 3, 4, 5, 6, 7, 8, 9, 54, 10, 11, 12, 13, 14, 15, 16, 17, 18, 19, 20, 21, 22, 23, 24, 25, 26, 27, 28, 29, 30, 31, 32, 33, 34, 35, 36, 37, 38, 39, 40, 41, 42, 43, 44, 45, 46, 47, 48, 49, 50, 51, 52, 53] rfl
  have hD := hD.sub (ws' := ([(h0, .inr (8, [.ref q1, .ref q7, .ref q10, .ref q11, .ref q12, .ref q22, .ref q24, .ref q26, .null, .null, .null, .int 0, .null, .null, .int 0])), (q1, .inr (1, [.ref q2, .ref q3, .int 0, .int (-1), .int 0, .int 0])), (q2, .inl (cA4, 44, .inr (.inr (.inr (.inr (mx_g q2 44)))))), (q3, .inl (cA6, 44, .inl (fun _ => 0))), (q7, .inr (3, [.ref q8, .ref q9, .int 0])), (q12, .inl (cA13, 4, .inr (.inr (.inr (.inr (va_up (va_up (va_up (va_up (fun _ => none) 0 (some q14)) 1 (some q16)) 2 (some q18)) 3 (some q20))))))), (q14, .inr (5, [.ref q15, .int 0, .int 0, .int 0, .int 0, .int 0, .int 0, .int 0])), (q16, .inr (5, [.ref q17, .int 1, .int 0, .int 0, .int 0, .int 0, .int 0, .int 0])), (q18, .inr (5, [.ref q19, .int 2, .int 0, .int 0, .int 0, .int 0, .int 0, .int 0])), (q20, .inr (5, [.ref q21, .int 3, .int 0, .int 0, .int 0, .int 0, .int 0, .int 0])), (q28, .inl (cA29, 48, .inl (fun _ => 0)))] ++ mx_Y q2 cA5)) [0, 1, 2, 3, 4, 5, 6, 7, 8, 9, 54, 10, 11, 12, 13, 14, 15, 16, 17, 18, 19, 20, 21, 22, 23, 24, 25, 26, 27, 28, 29, 30, 31, 32, 33, 34, 35, 36, 37, 38, 39, 40, 41, 42, 43, 44, 45, 46, 47, 48, 49, 50, 51, 52, 53] (by decide) rfl
  have hK : va_K (dC, dI) gx_cl [(cA4, .array .int), (cA5, .int), (cA6, .boolean), (cA13, .object "TapeSealer$Label"), (cA29, .int)] s := hK
  refine W.widen (k := 97) (n := 4220) (Nat.le_of_ble_eq_true rfl) (Nat.le_of_ble_eq_true rfl) ?_
  refine va_putF (D := (dC, dI)) (ci := 8) (v := .ref q28) (ty := .array .int) (C := RTS) (T := FTS) (N := 15) hx hb hB in_TS tTS tTS_ok nTS hown hK hP hD hS 0 rfl rfl 8 (by decide) (hB _ hw_315) (fun _ h9 => h9) rfl hin rfl (by decide +kernel) rfl rfl (Nat.le_of_ble_eq_true rfl) d_TS_init_124 (fun H locs hP hD hS => ?_)
  have hP : va_P (dC, dI) gx_cl ([(h0, .inr (8, [.ref q1, .ref q7, .ref q10, .ref q11, .ref q12, .ref q22, .ref q24, .ref q26, .ref q28, .null, .null, .int 0, .null, .null, .int 0])), (q1, .inr (1, [.ref q2, .ref q3, .int 0, .int (-1), .int 0, .int 0])), (q2, .inl (cA4, 44, .inr (.inr (.inr (.inr (mx_g q2 44)))))), (q3, .inl (cA6, 44, .inl (fun _ => 0))), (q7, .inr (3, [.ref q8, .ref q9, .int 0])), (q12, .inl (cA13, 4, .inr (.inr (.inr (.inr (va_up (va_up (va_up (va_up (fun _ => none) 0 (some q14)) 1 (some q16)) 2 (some q18)) 3 (some q20))))))), (q14, .inr (5, [.ref q15, .int 0, .int 0, .int 0, .int 0, .int 0, .int 0, .int 0])), (q16, .inr (5, [.ref q17, .int 1, .int 0, .int 0, .int 0, .int 0, .int 0, .int 0])), (q18, .inr (5, [.ref q19, .int 2, .int 0, .int 0, .int 0, .int 0, .int 0, .int 0])), (q20, .inr (5, [.ref q21, .int 3, .int 0, .int 0, .int 0, .int 0, .int 0, .int 0])), (q28, .inl (cA29, 48, .inl (fun _ => 0)))] ++ mx_Y q2 cA5) H := hP
  have hD : va_D A ([(h0, .inr (8, [.ref q1, .ref q7, .ref q10, .ref q11, .ref q12, .ref q22, .ref q24, .ref q26, .ref q28, .null, .null, .int 0, .null, .null, .int 0])), (q1, .inr (1, [.ref q2, .ref q3, .int 0, .int (-1), .int 0, .int 0])), (q2, .inl (cA4, 44, .inr (.inr (.inr (.inr (mx_g q2 44)))))), (q3, .inl (cA6, 44, .inl (fun _ => 0))), (q7, .inr (3, [.ref q8, .ref q9, .int 0])), (q12, .inl (cA13, 4, .inr (.inr (.inr (.inr (va_up (va_up (va_up (va_up (fun _ => none) 0 (some q14)) 1 (some q16)) 2 (some q18)) 3 (some q20))))))), (q14, .inr (5, [.ref q15, .int 0, .int 0, .int 0, .int 0, .int 0, .int 0, .int 0])), (q16, .inr (5, [.ref q17, .int 1, .int 0, .int 0, .int 0, .int 0, .int 0, .int 0])), (q18, .inr (5, [.ref q19, .int 2, .int 0, .int 0, .int 0, .int 0, .int 0, .int 0])), (q20, .inr (5, [.ref q21, .int 3, .int 0, .int 0, .int 0, .int 0, .int 0, .int 0])), (q28, .inl (cA29, 48, .inl (fun _ => 0)))] ++ mx_Y q2 cA5) := hD
  have hP := hP.sub (ws' := ([(h0, .inr (8, [.ref q1, .ref q7, .ref q10, .ref q11, .ref q12, .ref q22, .ref q24, .ref q26, .ref q28, .null, .null, .int 0, .null, .null, .int 0])), (q1, .inr (1, [.ref q2, .ref q3, .int 0, .int (-1), .int 0, .int 0])), (q2, .inl (cA4, 44, .inr (.inr (.inr (.inr (mx_g q2 44)))))), (q3, .inl (cA6, 44, .inl (fun _ => 0))), (q7, .inr (3, [.ref q8, .ref q9, .int 0])), (q12, .inl (cA13, 4, .inr (.inr (.inr (.inr (va_up (va_up (va_up (va_up (fun _ => none) 0 (some q14)) 1 (some q16)) 2 (some q18)) 3 (some q20))))))), (q14, .inr (5, [.ref q15, .int 0, .int 0, .int 0, .int 0, .int 0, .int 0, .int 0])), (q16, .inr (5, [.ref q17, .int 1, .int 0, .int 0, .int 0, .int 0, .int 0, .int 0])), (q18, .inr (5, [.ref q19, .int 2, .int 0, .int 0, .int 0, .int 0, .int 0, .int 0])), (q20, .inr (5, [.ref q21, .int 3, .int 0, .int 0, .int 0, .int 0, .int 0, .int 0]))] ++ mx_Y q2 cA5)) [0, 1, 2, 3, 4, 5, 6, 7, 8, 9, 11, 12, 13, 14, 15, 16, 17, 18, 19, 20, 21, 22, 23, 24, 25, 26, 27, 28, 29, 30, 31, 32, 33, 34, 35, 36, 37, 38, 39, 40, 41, 42, 43, 44, 45, 46, 47, 48, 49, 50, 51, 52, 53, 54] rfl
  have hD := hD.sub (ws' := ([(h0, .inr (8, [.ref q1, .ref q7, .ref q10, .ref q11, .ref q12, .ref q22, .ref q24, .ref q26, .ref q28, .null, .null, .int 0, .null, .null, .int 0])), (q1, .inr (1, [.ref q2, .ref q3, .int 0, .int (-1), .int 0, .int 0])), (q2, .inl (cA4, 44, .inr (.inr (.inr (.inr (mx_g q2 44)))))), (q3, .inl (cA6, 44, .inl (fun _ => 0))), (q7, .inr (3, [.ref q8, .ref q9, .int 0])), (q12, .inl (cA13, 4, .inr (.inr (.inr (.inr (va_up (va_up (va_up (va_up (fun _ => none) 0 (some q14)) 1 (some q16)) 2 (some q18)) 3 (some q20))))))), (q14, .inr (5, [.ref q15, .int 0, .int 0, .int 0, .int 0, .int 0, .int 0, .int 0])), (q16, .inr (5, [.ref q17, .int 1, .int 0, .int 0, .int 0, .int 0, .int 0, .int 0])), (q18, .inr (5, [.ref q19, .int 2, .int 0, .int 0, .int 0, .int 0, .int 0, .int 0])), (q20, .inr (5, [.ref q21, .int 3, .int 0, .int 0, .int 0, .int 0, .int 0, .int 0]))] ++ mx_Y q2 cA5)) [0, 1, 2, 3, 4, 5, 6, 7, 8, 9, 11, 12, 13, 14, 15, 16, 17, 18, 19, 20, 21, 22, 23, 24, 25, 26, 27, 28, 29, 30, 31, 32, 33, 34, 35, 36, 37, 38, 39, 40, 41, 42, 43, 44, 45, 46, 47, 48, 49, 50, 51, 52, 53, 54] (by decide) rfl
  have hK := hK.sub (tys' := [(cA4, .array .int), (cA5, .int), (cA6, .boolean), (cA13, .object "TapeSealer$Label")]) [0, 1, 2, 3] rfl
  refine lv_aload_n hx hb d_TS_init_127 rfl (lv_at hl 1 rfl) ?_
  refine va_new (D := (dC, dI)) (ci := 2) (fs := [.null, .int 0, .int 0, .int 0]) (C := RDr) (T := FDr) (N := 4) hx hb hB in_Dr tDr tDr_ok hown (hB _ hw_286) (hB _ hw_287) (hB _ hw_74) hK hP hD hS hA rfl (fun j hj => by rcases (show j = 0 ∨ j = 1 ∨ j = 2 ∨ j = 3 by omega) with rfl | rfl | rfl | rfl <;> rfl) (Nat.le_of_ble_eq_true rfl) (Nat.le_of_ble_eq_true rfl) d_TS_init_128 (fun q30 H hP hD hS => ?_)
  have hP := hP.sub (ws' := ([(h0, .inr (8, [.ref q1, .ref q7, .ref q10, .ref q11, .ref q12, .ref q22, .ref q24, .ref q26, .ref q28, .null, .null, .int 0, .null, .null, .int 0])), (q1, .inr (1, [.ref q2, .ref q3, .int 0, .int (-1), .int 0, .int 0])), (q2, .inl (cA4, 44, .inr (.inr (.inr (.inr (mx_g q2 44)))))), (q3, .inl (cA6, 44, .inl (fun _ => 0))), (q7, .inr (3, [.ref q8, .ref q9, .int 0])), (q12, .inl (cA13, 4, .inr (.inr (.inr (.inr (va_up (va_up (va_up (va_up (fun _ => none) 0 (some q14)) 1 (some q16)) 2 (some q18)) 3 (some q20))))))), (q14, .inr (5, [.ref q15, .int 0, .int 0, .int 0, .int 0, .int 0, .int 0, .int 0])), (q16, .inr (5, [.ref q17, .int 1, .int 0, .int 0, .int 0, .int 0, .int 0, .int 0])), (q18, .inr (5, [.ref q19, .int 2, .int 0, .int 0, .int 0, .int 0, .int 0, .int 0])), (q20, .inr (5, [.ref q21, .int 3, .int 0, .int 0, .int 0, .int 0, .int 0, .int 0])), (q30, .inr (2, [.null, .int 0, .int 0, .int 0]))] ++ mx_Y q2 cA5)) [0, 1, 2, 3, 4, 5, 6, 7, 8, 9, 54, 10, 11, 12, 13, 14, 15, 16, 17, 18, 19, 20, 21, 22, 23, 24, 25, 26, 27, 28, 29, 30, 31, 32, 33, 34, 35, 36, 37, 38, 39, 40, 41, 42, 43, 44, 45, 46, 47, 48, 49, 50, 51, 52, 53] rfl
  have hD := hD.sub (ws' := ([(h0, .inr (8, [.ref q1, .ref q7, .ref q10, .ref q11, .ref q12, .ref q22, .ref q24, .ref q26, .ref q28, .null, .null, .int 0, .null, .null, .int 0])), (q1, .inr (1, [.ref q2, .ref q3, .int 0, .int (-1), .int 0, .int 0])), (q2, .inl (cA4, 44, .inr (.inr (.inr (.inr (mx_g q2 44)))))), (q3, .inl (cA6, 44, .inl (fun _ => 0))), (q7, .inr (3, [.ref q8, .ref q9, .int 0])), (q12, .inl (cA13, 4, .inr (.inr (.inr (.inr (va_up (va_up (va_up (va_up (fun _ => none) 0 (some q14)) 1 (some q16)) 2 (some q18)) 3 (some q20))))))), (q14, .inr (5, [.ref q15, .int 0, .int 0, .int 0, .int 0, .int 0, .int 0, .int 0])), (q16, .inr (5, [.ref q17, .int 1, .int 0, .int 0, .int 0, .int 0, .int 0, .int 0])), (q18, .inr (5, [.ref q19, .int 2, .int 0, .int 0, .int 0, .int 0, .int 0, .int 0])), (q20, .inr (5, [.ref q21, .int 3, .int 0, .int 0, .int 0, .int 0, .int 0, .int 0])), (q30, .inr (2, [.null, .int 0, .int 0, .int 0]))] ++ mx_Y q2 cA5)) [0, 1, 2, 3, 4, 5, 6, 7, 8, 9, 54, 10, 11, 12, 13, 14, 15, 16, 17, 18, 19, 20, 21, 22, 23, 24, 25, 26, 27, 28, 29, 30, 31, 32, 33, 34, 35, 36, 37, 38, 39, 40, 41, 42, 43, 44, 45, 46, 47, 48, 49, 50, 51, 52, 53] (by decide) rfl
  refine W.widen (k := 98) (n := 4224) (Nat.le_of_ble_eq_true rfl) (Nat.le_of_ble_eq_true rfl) ?_
  refine lv_dup hx hb d_TS_init_131 rfl ?_
  have hPc := hP.sub (ws' := [(q30, .inr (2, [.null, .int 0, .int 0, .int 0]))]) [10] rfl
  have hDc := hD.sub (ws' := [(q30, .inr (2, [.null, .int 0, .int 0, .int 0]))]) [10] (by decide) rfl
  have hKc := hK.sub (tys' := []) [] rfl
  have hFc := va_free (wc := [(q30, .inr (2, [.null, .int 0, .int 0, .int 0]))]) hD hS hA [10] rfl
  refine va_callv (va_runIN (own := "TapeSealer") (index := 64) (host := "TapeSealer") (As := []) (rest := [.ref q30, .ref h0]) ⟨hx, hb, hml, hown, hts⟩ (c_Dr_init l dC dI q30 H.size) ⟨va_cnB 0 hts (gx_good k_Dr_init) rfl rfl rfl (hJ.1 _ (List.mem_of_getElem? (i := 288) (by decide +kernel)) rfl) (hB _ hw_74) (by decide +kernel) ⟨(Nat.le_of_ble_eq_true rfl), (Nat.le_of_ble_eq_true rfl)⟩, rfl, hB _ hw_289⟩ ⟨fun a U g mk q => by obtain ⟨q0, q1, qP, qK, qD⟩ := q; exact ⟨q0, q1, qP, va_K.moved (u := U) (U := U.calling g mk a) (Vm.Alike.refl U.vm) qK, qD⟩, fun U hU hW => ⟨rfl, by rw [hU], by rw [hU]; exact hPc, va_K.moved hW.alike hKc, hDc.weaken (fun _ _ _ _ => trivial)⟩⟩ rfl rfl hl.1 rfl (lv_room (Nat.le_of_ble_eq_true rfl)) d_TS_init_132 ⟨(Nat.le_of_ble_eq_true rfl), (Nat.le_of_ble_eq_true rfl)⟩) hS (fun q _ h => hFc q h) hFc (fun u t H1 locs ht hvm hw hB1 hz1 hk1 hS => ?_)
  obtain ⟨q31, hP1, hD1⟩ := hB1
  rw [ht] at hP1
  obtain ⟨hP, hD⟩ := va_join (wr := ([(h0, .inr (8, [.ref q1, .ref q7, .ref q10, .ref q11, .ref q12, .ref q22, .ref q24, .ref q26, .ref q28, .null, .null, .int 0, .null, .null, .int 0])), (q1, .inr (1, [.ref q2, .ref q3, .int 0, .int (-1), .int 0, .int 0])), (q2, .inl (cA4, 44, .inr (.inr (.inr (.inr (mx_g q2 44)))))), (q3, .inl (cA6, 44, .inl (fun _ => 0))), (q7, .inr (3, [.ref q8, .ref q9, .int 0])), (q12, .inl (cA13, 4, .inr (.inr (.inr (.inr (va_up (va_up (va_up (va_up (fun _ => none) 0 (some q14)) 1 (some q16)) 2 (some q18)) 3 (some q20))))))), (q14, .inr (5, [.ref q15, .int 0, .int 0, .int 0, .int 0, .int 0, .int 0, .int 0])), (q16, .inr (5, [.ref q17, .int 1, .int 0, .int 0, .int 0, .int 0, .int 0, .int 0])), (q18, .inr (5, [.ref q19, .int 2, .int 0, .int 0, .int 0, .int 0, .int 0, .int 0])), (q20, .inr (5, [.ref q21, .int 3, .int 0, .int 0, .int 0, .int 0, .int 0, .int 0]))] ++ mx_Y q2 cA5)) (w1 := [(q30, .inr (2, [.ref q31, .int (-1), .int 0, .int 0]))]) hP hD [10] [0, 1, 2, 3, 4, 5, 6, 7, 8, 9, 11, 12, 13, 14, 15, 16, 17, 18, 19, 20, 21, 22, 23, 24, 25, 26, 27, 28, 29, 30, 31, 32, 33, 34, 35, 36, 37, 38, 39, 40, 41, 42, 43, 44, 45, 46, 47, 48, 49, 50, 51, 52, 53, 54] rfl rfl (by decide) (by decide) hk1 hFc hP1 hD1
  generalize H1 = H at hP hS ⊢
  have hP := hP.sub (ws' := ([(h0, .inr (8, [.ref q1, .ref q7, .ref q10, .ref q11, .ref q12, .ref q22, .ref q24, .ref q26, .ref q28, .null, .null, .int 0, .null, .null, .int 0])), (q1, .inr (1, [.ref q2, .ref q3, .int 0, .int (-1), .int 0, .int 0])), (q2, .inl (cA4, 44, .inr (.inr (.inr (.inr (mx_g q2 44)))))), (q3, .inl (cA6, 44, .inl (fun _ => 0))), (q7, .inr (3, [.ref q8, .ref q9, .int 0])), (q12, .inl (cA13, 4, .inr (.inr (.inr (.inr (va_up (va_up (va_up (va_up (fun _ => none) 0 (some q14)) 1 (some q16)) 2 (some q18)) 3 (some q20))))))), (q14, .inr (5, [.ref q15, .int 0, .int 0, .int 0, .int 0, .int 0, .int 0, .int 0])), (q16, .inr (5, [.ref q17, .int 1, .int 0, .int 0, .int 0, .int 0, .int 0, .int 0])), (q18, .inr (5, [.ref q19, .int 2, .int 0, .int 0, .int 0, .int 0, .int 0, .int 0])), (q20, .inr (5, [.ref q21, .int 3, .int 0, .int 0, .int 0, .int 0, .int 0, .int 0])), (q30, .inr (2, [.ref q31, .int (-1), .int 0, .int 0]))] ++ mx_Y q2 cA5)) [0, 1, 2, 3, 4, 5, 6, 7, 8, 9, 54, 10, 11, 12, 13, 14, 15, 16, 17, 18, 19, 20, 21, 22, 23, 24, 25, 26, 27, 28, 29, 30, 31, 32, 33, 34, 35, 36, 37, 38, 39, 40, 41, 42, 43, 44, 45, 46, 47, 48, 49, 50, 51, 52, 53] rfl
  have hD := hD.sub (ws' := ([(h0, .inr (8, [.ref q1, .ref q7, .ref q10, .ref q11, .ref q12, .ref q22, .ref q24, .ref q26, .ref q28, .null, .null, .int 0, .null, .null, .int 0])), (q1, .inr (1, [.ref q2, .ref q3, .int 0, .int (-1), .int 0, .int 0])), (q2, .inl (cA4, 44, .inr (.inr (.inr (.inr (mx_g q2 44)))))), (q3, .inl (cA6, 44, .inl (fun _ => 0))), (q7, .inr (3, [.ref q8, .ref q9, .int 0])), (q12, .inl (cA13, 4, .inr (.inr (.inr (.inr (va_up (va_up (va_up (va_up (fun _ => none) 0 (some q14)) 1 (some q16)) 2 (some q18)) 3 (some q20))))))), (q14, .inr (5, [.ref q15, .int 0, .int 0, .int 0, .int 0, .int 0, .int 0, .int 0])), (q16, .inr (5, [.ref q17, .int 1, .int 0, .int 0, .int 0, .int 0, .int 0, .int 0])), (q18, .inr (5, [.ref q19, .int 2, .int 0, .int 0, .int 0, .int 0, .int 0, .int 0])), (q20, .inr (5, [.ref q21, .int 3, .int 0, .int 0, .int 0, .int 0, .int 0, .int 0])), (q30, .inr (2, [.ref q31, .int (-1), .int 0, .int 0]))] ++ mx_Y q2 cA5)) [0, 1, 2, 3, 4, 5, 6, 7, 8, 9, 54, 10, 11, 12, 13, 14, 15, 16, 17, 18, 19, 20, 21, 22, 23, 24, 25, 26, 27, 28, 29, 30, 31, 32, 33, 34, 35, 36, 37, 38, 39, 40, 41, 42, 43, 44, 45, 46, 47, 48, 49, 50, 51, 52, 53] (by decide) rfl
  refine W.widen (k := 99) (n := 4992) (Nat.le_of_ble_eq_true rfl) (Nat.le_of_ble_eq_true rfl) ?_
  refine va_putF (D := (dC, dI)) (ci := 8) (v := .ref q30) (ty := .object "TapeSealer$Draft") (C := RTS) (T := FTS) (N := 15) hx hb hB in_TS tTS tTS_ok nTS hown hK hP hD hS 0 rfl rfl 9 (by decide) (hB _ hw_316) (fun _ h9 => h9) rfl hin rfl (by decide +kernel) rfl rfl (Nat.le_of_ble_eq_true rfl) d_TS_init_135 (fun H locs hP hD hS => ?_)
  have hP : va_P (dC, dI) gx_cl ([(h0, .inr (8, [.ref q1, .ref q7, .ref q10, .ref q11, .ref q12, .ref q22, .ref q24, .ref q26, .ref q28, .ref q30, .null, .int 0, .null, .null, .int 0])), (q1, .inr (1, [.ref q2, .ref q3, .int 0, .int (-1), .int 0, .int 0])), (q2, .inl (cA4, 44, .inr (.inr (.inr (.inr (mx_g q2 44)))))), (q3, .inl (cA6, 44, .inl (fun _ => 0))), (q7, .inr (3, [.ref q8, .ref q9, .int 0])), (q12, .inl (cA13, 4, .inr (.inr (.inr (.inr (va_up (va_up (va_up (va_up (fun _ => none) 0 (some q14)) 1 (some q16)) 2 (some q18)) 3 (some q20))))))), (q14, .inr (5, [.ref q15, .int 0, .int 0, .int 0, .int 0, .int 0, .int 0, .int 0])), (q16, .inr (5, [.ref q17, .int 1, .int 0, .int 0, .int 0, .int 0, .int 0, .int 0])), (q18, .inr (5, [.ref q19, .int 2, .int 0, .int 0, .int 0, .int 0, .int 0, .int 0])), (q20, .inr (5, [.ref q21, .int 3, .int 0, .int 0, .int 0, .int 0, .int 0, .int 0])), (q30, .inr (2, [.ref q31, .int (-1), .int 0, .int 0]))] ++ mx_Y q2 cA5) H := hP
  have hD : va_D A ([(h0, .inr (8, [.ref q1, .ref q7, .ref q10, .ref q11, .ref q12, .ref q22, .ref q24, .ref q26, .ref q28, .ref q30, .null, .int 0, .null, .null, .int 0])), (q1, .inr (1, [.ref q2, .ref q3, .int 0, .int (-1), .int 0, .int 0])), (q2, .inl (cA4, 44, .inr (.inr (.inr (.inr (mx_g q2 44)))))), (q3, .inl (cA6, 44, .inl (fun _ => 0))), (q7, .inr (3, [.ref q8, .ref q9, .int 0])), (q12, .inl (cA13, 4, .inr (.inr (.inr (.inr (va_up (va_up (va_up (va_up (fun _ => none) 0 (some q14)) 1 (some q16)) 2 (some q18)) 3 (some q20))))))), (q14, .inr (5, [.ref q15, .int 0, .int 0, .int 0, .int 0, .int 0, .int 0, .int 0])), (q16, .inr (5, [.ref q17, .int 1, .int 0, .int 0, .int 0, .int 0, .int 0, .int 0])), (q18, .inr (5, [.ref q19, .int 2, .int 0, .int 0, .int 0, .int 0, .int 0, .int 0])), (q20, .inr (5, [.ref q21, .int 3, .int 0, .int 0, .int 0, .int 0, .int 0, .int 0])), (q30, .inr (2, [.ref q31, .int (-1), .int 0, .int 0]))] ++ mx_Y q2 cA5) := hD
  refine lv_aload_n hx hb d_TS_init_138 rfl (lv_at hl 1 rfl) ?_
  refine lv_sipush (v := 192) hx hb d_TS_init_139 (by decide) ?_
  refine va_newa (D := (dC, dI)) (atype := .int) (a0 := (192, .inl (fun _ => 0))) (ty := .int) hx hb (hB _ hw_131) rfl hK hP hD hS hA (fun _ => rfl) (by decide) (N' := 192) rfl (by decide) (Nat.le_of_ble_eq_true rfl) (Nat.le_of_ble_eq_true rfl) d_TS_init_142 (fun q32 cA33 H hK hP hD hS => ?_)
  have hP := hP.sub (ws' := ([(h0, .inr (8, [.ref q1, .ref q7, .ref q10, .ref q11, .ref q12, .ref q22, .ref q24, .ref q26, .ref q28, .ref q30, .null, .int 0, .null, .null, .int 0])), (q1, .inr (1, [.ref q2, .ref q3, .int 0, .int (-1), .int 0, .int 0])), (q2, .inl (cA4, 44, .inr (.inr (.inr (.inr (mx_g q2 44)))))), (q3, .inl (cA6, 44, .inl (fun _ => 0))), (q7, .inr (3, [.ref q8, .ref q9, .int 0])), (q12, .inl (cA13, 4, .inr (.inr (.inr (.inr (va_up (va_up (va_up (va_up (fun _ => none) 0 (some q14)) 1 (some q16)) 2 (some q18)) 3 (some q20))))))), (q14, .inr (5, [.ref q15, .int 0, .int 0, .int 0, .int 0, .int 0, .int 0, .int 0])), (q16, .inr (5, [.ref q17, .int 1, .int 0, .int 0, .int 0, .int 0, .int 0, .int 0])), (q18, .inr (5, [.ref q19, .int 2, .int 0, .int 0, .int 0, .int 0, .int 0, .int 0])), (q20, .inr (5, [.ref q21, .int 3, .int 0, .int 0, .int 0, .int 0, .int 0, .int 0])), (q30, .inr (2, [.ref q31, .int (-1), .int 0, .int 0])), (q32, .inl (cA33, 192, .inl (fun _ => 0)))] ++ mx_Y q2 cA5)) [0, 1, 2, 3, 4, 5, 6, 7, 8, 9, 10, 55, 11, 12, 13, 14, 15, 16, 17, 18, 19, 20, 21, 22, 23, 24, 25, 26, 27, 28, 29, 30, 31, 32, 33, 34, 35, 36, 37, 38, 39, 40, 41, 42, 43, 44, 45, 46, 47, 48, 49, 50, 51, 52, 53, 54] rfl
  have hD := hD.sub (ws' := ([(h0, .inr (8, [.ref q1, .ref q7, .ref q10, .ref q11, .ref q12, .ref q22, .ref q24, .ref q26, .ref q28, .ref q30, .null, .int 0, .null, .null, .int 0])), (q1, .inr (1, [.ref q2, .ref q3, .int 0, .int (-1), .int 0, .int 0])), (q2, .inl (cA4, 44, .inr (.inr (.inr (.inr (mx_g q2 44)))))), (q3, .inl (cA6, 44, .inl (fun _ => 0))), (q7, .inr (3, [.ref q8, .ref q9, .int 0])), (q12, .inl (cA13, 4, .inr (.inr (.inr (.inr (va_up (va_up (va_up (va_up (fun _ => none) 0 (some q14)) 1 (some q16)) 2 (some q18)) 3 (some q20))))))), (q14, .inr (5, [.ref q15, .int 0, .int 0, .int 0, .int 0, .int 0, .int 0, .int 0])), (q16, .inr (5, [.ref q17, .int 1, .int 0, .int 0, .int 0, .int 0, .int 0, .int 0])), (q18, .inr (5, [.ref q19, .int 2, .int 0, .int 0, .int 0, .int 0, .int 0, .int 0])), (q20, .inr (5, [.ref q21, .int 3, .int 0, .int 0, .int 0, .int 0, .int 0, .int 0])), (q30, .inr (2, [.ref q31, .int (-1), .int 0, .int 0])), (q32, .inl (cA33, 192, .inl (fun _ => 0)))] ++ mx_Y q2 cA5)) [0, 1, 2, 3, 4, 5, 6, 7, 8, 9, 10, 55, 11, 12, 13, 14, 15, 16, 17, 18, 19, 20, 21, 22, 23, 24, 25, 26, 27, 28, 29, 30, 31, 32, 33, 34, 35, 36, 37, 38, 39, 40, 41, 42, 43, 44, 45, 46, 47, 48, 49, 50, 51, 52, 53, 54] (by decide) rfl
  have hK : va_K (dC, dI) gx_cl [(cA4, .array .int), (cA5, .int), (cA6, .boolean), (cA13, .object "TapeSealer$Label"), (cA33, .int)] s := hK
  refine W.widen (k := 100) (n := 5184) (Nat.le_of_ble_eq_true rfl) (Nat.le_of_ble_eq_true rfl) ?_
  refine va_putF (D := (dC, dI)) (ci := 8) (v := .ref q32) (ty := .array .int) (C := RTS) (T := FTS) (N := 15) hx hb hB in_TS tTS tTS_ok nTS hown hK hP hD hS 0 rfl rfl 10 (by decide) (hB _ hw_317) (fun _ h9 => h9) rfl hin rfl (by decide +kernel) rfl rfl (Nat.le_of_ble_eq_true rfl) d_TS_init_144 (fun H locs hP hD hS => ?_)
  have hP : va_P (dC, dI) gx_cl ([(h0, .inr (8, [.ref q1, .ref q7, .ref q10, .ref q11, .ref q12, .ref q22, .ref q24, .ref q26, .ref q28, .ref q30, .ref q32, .int 0, .null, .null, .int 0])), (q1, .inr (1, [.ref q2, .ref q3, .int 0, .int (-1), .int 0, .int 0])), (q2, .inl (cA4, 44, .inr (.inr (.inr (.inr (mx_g q2 44)))))), (q3, .inl (cA6, 44, .inl (fun _ => 0))), (q7, .inr (3, [.ref q8, .ref q9, .int 0])), (q12, .inl (cA13, 4, .inr (.inr (.inr (.inr (va_up (va_up (va_up (va_up (fun _ => none) 0 (some q14)) 1 (some q16)) 2 (some q18)) 3 (some q20))))))), (q14, .inr (5, [.ref q15, .int 0, .int 0, .int 0, .int 0, .int 0, .int 0, .int 0])), (q16, .inr (5, [.ref q17, .int 1, .int 0, .int 0, .int 0, .int 0, .int 0, .int 0])), (q18, .inr (5, [.ref q19, .int 2, .int 0, .int 0, .int 0, .int 0, .int 0, .int 0])), (q20, .inr (5, [.ref q21, .int 3, .int 0, .int 0, .int 0, .int 0, .int 0, .int 0])), (q30, .inr (2, [.ref q31, .int (-1), .int 0, .int 0])), (q32, .inl (cA33, 192, .inl (fun _ => 0)))] ++ mx_Y q2 cA5) H := hP
  have hD : va_D A ([(h0, .inr (8, [.ref q1, .ref q7, .ref q10, .ref q11, .ref q12, .ref q22, .ref q24, .ref q26, .ref q28, .ref q30, .ref q32, .int 0, .null, .null, .int 0])), (q1, .inr (1, [.ref q2, .ref q3, .int 0, .int (-1), .int 0, .int 0])), (q2, .inl (cA4, 44, .inr (.inr (.inr (.inr (mx_g q2 44)))))), (q3, .inl (cA6, 44, .inl (fun _ => 0))), (q7, .inr (3, [.ref q8, .ref q9, .int 0])), (q12, .inl (cA13, 4, .inr (.inr (.inr (.inr (va_up (va_up (va_up (va_up (fun _ => none) 0 (some q14)) 1 (some q16)) 2 (some q18)) 3 (some q20))))))), (q14, .inr (5, [.ref q15, .int 0, .int 0, .int 0, .int 0, .int 0, .int 0, .int 0])), (q16, .inr (5, [.ref q17, .int 1, .int 0, .int 0, .int 0, .int 0, .int 0, .int 0])), (q18, .inr (5, [.ref q19, .int 2, .int 0, .int 0, .int 0, .int 0, .int 0, .int 0])), (q20, .inr (5, [.ref q21, .int 3, .int 0, .int 0, .int 0, .int 0, .int 0, .int 0])), (q30, .inr (2, [.ref q31, .int (-1), .int 0, .int 0])), (q32, .inl (cA33, 192, .inl (fun _ => 0)))] ++ mx_Y q2 cA5) := hD
  refine lv_aload_n hx hb d_TS_init_147 rfl (lv_at hl 1 rfl) ?_
  refine lv_sipush (v := 1152) hx hb d_TS_init_148 (by decide) ?_
  refine va_newa (D := (dC, dI)) (atype := .int) (a0 := (1152, .inl (fun _ => 0))) (ty := .int) hx hb (hB _ hw_131) rfl hK hP hD hS hA (fun _ => rfl) (by decide) (N' := 1152) rfl (by decide) (Nat.le_of_ble_eq_true rfl) (Nat.le_of_ble_eq_true rfl) d_TS_init_151 (fun q34 cA35 H hK hP hD hS => ?_)
  have hP := hP.sub (ws' := ([(h0, .inr (8, [.ref q1, .ref q7, .ref q10, .ref q11, .ref q12, .ref q22, .ref q24, .ref q26, .ref q28, .ref q30, .ref q32, .int 0, .null, .null, .int 0])), (q1, .inr (1, [.ref q2, .ref q3, .int 0, .int (-1), .int 0, .int 0])), (q2, .inl (cA4, 44, .inr (.inr (.inr (.inr (mx_g q2 44)))))), (q3, .inl (cA6, 44, .inl (fun _ => 0))), (q7, .inr (3, [.ref q8, .ref q9, .int 0])), (q12, .inl (cA13, 4, .inr (.inr (.inr (.inr (va_up (va_up (va_up (va_up (fun _ => none) 0 (some q14)) 1 (some q16)) 2 (some q18)) 3 (some q20))))))), (q14, .inr (5, [.ref q15, .int 0, .int 0, .int 0, .int 0, .int 0, .int 0, .int 0])), (q16, .inr (5, [.ref q17, .int 1, .int 0, .int 0, .int 0, .int 0, .int 0, .int 0])), (q18, .inr (5, [.ref q19, .int 2, .int 0, .int 0, .int 0, .int 0, .int 0, .int 0])), (q20, .inr (5, [.ref q21, .int 3, .int 0, .int 0, .int 0, .int 0, .int 0, .int 0])), (q30, .inr (2, [.ref q31, .int (-1), .int 0, .int 0])), (q32, .inl (cA33, 192, .inl (fun _ => 0))), (q34, .inl (cA35, 1152, .inl (fun _ => 0)))] ++ mx_Y q2 cA5)) [0, 1, 2, 3, 4, 5, 6, 7, 8, 9, 10, 11, 56, 12, 13, 14, 15, 16, 17, 18, 19, 20, 21, 22, 23, 24, 25, 26, 27, 28, 29, 30, 31, 32, 33, 34, 35, 36, 37, 38, 39, 40, 41, 42, 43, 44, 45, 46, 47, 48, 49, 50, 51, 52, 53, 54, 55] rfl
  have hD := hD.sub (ws' := ([(h0, .inr (8, [.ref q1, .ref q7, .ref q10, .ref q11, .ref q12, .ref q22, .ref q24, .ref q26, .ref q28, .ref q30, .ref q32, .int 0, .null, .null, .int 0])), (q1, .inr (1, [.ref q2, .ref q3, .int 0, .int (-1), .int 0, .int 0])), (q2, .inl (cA4, 44, .inr (.inr (.inr (.inr (mx_g q2 44)))))), (q3, .inl (cA6, 44, .inl (fun _ => 0))), (q7, .inr (3, [.ref q8, .ref q9, .int 0])), (q12, .inl (cA13, 4, .inr (.inr (.inr (.inr (va_up (va_up (va_up (va_up (fun _ => none) 0 (some q14)) 1 (some q16)) 2 (some q18)) 3 (some q20))))))), (q14, .inr (5, [.ref q15, .int 0, .int 0, .int 0, .int 0, .int 0, .int 0, .int 0])), (q16, .inr (5, [.ref q17, .int 1, .int 0, .int 0, .int 0, .int 0, .int 0, .int 0])), (q18, .inr (5, [.ref q19, .int 2, .int 0, .int 0, .int 0, .int 0, .int 0, .int 0])), (q20, .inr (5, [.ref q21, .int 3, .int 0, .int 0, .int 0, .int 0, .int 0, .int 0])), (q30, .inr (2, [.ref q31, .int (-1), .int 0, .int 0])), (q32, .inl (cA33, 192, .inl (fun _ => 0))), (q34, .inl (cA35, 1152, .inl (fun _ => 0)))] ++ mx_Y q2 cA5)) [0, 1, 2, 3, 4, 5, 6, 7, 8, 9, 10, 11, 56, 12, 13, 14, 15, 16, 17, 18, 19, 20, 21, 22, 23, 24, 25, 26, 27, 28, 29, 30, 31, 32, 33, 34, 35, 36, 37, 38, 39, 40, 41, 42, 43, 44, 45, 46, 47, 48, 49, 50, 51, 52, 53, 54, 55] (by decide) rfl
  have hK : va_K (dC, dI) gx_cl [(cA4, .array .int), (cA5, .int), (cA6, .boolean), (cA13, .object "TapeSealer$Label"), (cA33, .int), (cA35, .int)] s := hK
  refine W.widen (k := 101) (n := 6336) (Nat.le_of_ble_eq_true rfl) (Nat.le_of_ble_eq_true rfl) ?_
  refine va_putF (D := (dC, dI)) (ci := 8) (v := .ref q34) (ty := .array .int) (C := RTS) (T := FTS) (N := 15) hx hb hB in_TS tTS tTS_ok nTS hown hK hP hD hS 0 rfl rfl 12 (by decide) (hB _ hw_319) (fun _ h9 => h9) rfl hin rfl (by decide +kernel) rfl rfl (Nat.le_of_ble_eq_true rfl) d_TS_init_153 (fun H locs hP hD hS => ?_)
  have hP : va_P (dC, dI) gx_cl ([(h0, .inr (8, [.ref q1, .ref q7, .ref q10, .ref q11, .ref q12, .ref q22, .ref q24, .ref q26, .ref q28, .ref q30, .ref q32, .int 0, .ref q34, .null, .int 0])), (q1, .inr (1, [.ref q2, .ref q3, .int 0, .int (-1), .int 0, .int 0])), (q2, .inl (cA4, 44, .inr (.inr (.inr (.inr (mx_g q2 44)))))), (q3, .inl (cA6, 44, .inl (fun _ => 0))), (q7, .inr (3, [.ref q8, .ref q9, .int 0])), (q12, .inl (cA13, 4, .inr (.inr (.inr (.inr (va_up (va_up (va_up (va_up (fun _ => none) 0 (some q14)) 1 (some q16)) 2 (some q18)) 3 (some q20))))))), (q14, .inr (5, [.ref q15, .int 0, .int 0, .int 0, .int 0, .int 0, .int 0, .int 0])), (q16, .inr (5, [.ref q17, .int 1, .int 0, .int 0, .int 0, .int 0, .int 0, .int 0])), (q18, .inr (5, [.ref q19, .int 2, .int 0, .int 0, .int 0, .int 0, .int 0, .int 0])), (q20, .inr (5, [.ref q21, .int 3, .int 0, .int 0, .int 0, .int 0, .int 0, .int 0])), (q30, .inr (2, [.ref q31, .int (-1), .int 0, .int 0])), (q32, .inl (cA33, 192, .inl (fun _ => 0))), (q34, .inl (cA35, 1152, .inl (fun _ => 0)))] ++ mx_Y q2 cA5) H := hP
  have hD : va_D A ([(h0, .inr (8, [.ref q1, .ref q7, .ref q10, .ref q11, .ref q12, .ref q22, .ref q24, .ref q26, .ref q28, .ref q30, .ref q32, .int 0, .ref q34, .null, .int 0])), (q1, .inr (1, [.ref q2, .ref q3, .int 0, .int (-1), .int 0, .int 0])), (q2, .inl (cA4, 44, .inr (.inr (.inr (.inr (mx_g q2 44)))))), (q3, .inl (cA6, 44, .inl (fun _ => 0))), (q7, .inr (3, [.ref q8, .ref q9, .int 0])), (q12, .inl (cA13, 4, .inr (.inr (.inr (.inr (va_up (va_up (va_up (va_up (fun _ => none) 0 (some q14)) 1 (some q16)) 2 (some q18)) 3 (some q20))))))), (q14, .inr (5, [.ref q15, .int 0, .int 0, .int 0, .int 0, .int 0, .int 0, .int 0])), (q16, .inr (5, [.ref q17, .int 1, .int 0, .int 0, .int 0, .int 0, .int 0, .int 0])), (q18, .inr (5, [.ref q19, .int 2, .int 0, .int 0, .int 0, .int 0, .int 0, .int 0])), (q20, .inr (5, [.ref q21, .int 3, .int 0, .int 0, .int 0, .int 0, .int 0, .int 0])), (q30, .inr (2, [.ref q31, .int (-1), .int 0, .int 0])), (q32, .inl (cA33, 192, .inl (fun _ => 0))), (q34, .inl (cA35, 1152, .inl (fun _ => 0)))] ++ mx_Y q2 cA5) := hD
  have hP := hP.sub (ws' := ([(h0, .inr (8, [.ref q1, .ref q7, .ref q10, .ref q11, .ref q12, .ref q22, .ref q24, .ref q26, .ref q28, .ref q30, .ref q32, .int 0, .ref q34, .null, .int 0])), (q1, .inr (1, [.ref q2, .ref q3, .int 0, .int (-1), .int 0, .int 0])), (q2, .inl (cA4, 44, .inr (.inr (.inr (.inr (mx_g q2 44)))))), (q3, .inl (cA6, 44, .inl (fun _ => 0))), (q7, .inr (3, [.ref q8, .ref q9, .int 0])), (q12, .inl (cA13, 4, .inr (.inr (.inr (.inr (va_up (va_up (va_up (va_up (fun _ => none) 0 (some q14)) 1 (some q16)) 2 (some q18)) 3 (some q20))))))), (q14, .inr (5, [.ref q15, .int 0, .int 0, .int 0, .int 0, .int 0, .int 0, .int 0])), (q16, .inr (5, [.ref q17, .int 1, .int 0, .int 0, .int 0, .int 0, .int 0, .int 0])), (q18, .inr (5, [.ref q19, .int 2, .int 0, .int 0, .int 0, .int 0, .int 0, .int 0])), (q20, .inr (5, [.ref q21, .int 3, .int 0, .int 0, .int 0, .int 0, .int 0, .int 0])), (q30, .inr (2, [.ref q31, .int (-1), .int 0, .int 0])), (q32, .inl (cA33, 192, .inl (fun _ => 0)))] ++ mx_Y q2 cA5)) [0, 1, 2, 3, 4, 5, 6, 7, 8, 9, 10, 11, 13, 14, 15, 16, 17, 18, 19, 20, 21, 22, 23, 24, 25, 26, 27, 28, 29, 30, 31, 32, 33, 34, 35, 36, 37, 38, 39, 40, 41, 42, 43, 44, 45, 46, 47, 48, 49, 50, 51, 52, 53, 54, 55, 56] rfl
  have hD := hD.sub (ws' := ([(h0, .inr (8, [.ref q1, .ref q7, .ref q10, .ref q11, .ref q12, .ref q22, .ref q24, .ref q26, .ref q28, .ref q30, .ref q32, .int 0, .ref q34, .null, .int 0])), (q1, .inr (1, [.ref q2, .ref q3, .int 0, .int (-1), .int 0, .int 0])), (q2, .inl (cA4, 44, .inr (.inr (.inr (.inr (mx_g q2 44)))))), (q3, .inl (cA6, 44, .inl (fun _ => 0))), (q7, .inr (3, [.ref q8, .ref q9, .int 0])), (q12, .inl (cA13, 4, .inr (.inr (.inr (.inr (va_up (va_up (va_up (va_up (fun _ => none) 0 (some q14)) 1 (some q16)) 2 (some q18)) 3 (some q20))))))), (q14, .inr (5, [.ref q15, .int 0, .int 0, .int 0, .int 0, .int 0, .int 0, .int 0])), (q16, .inr (5, [.ref q17, .int 1, .int 0, .int 0, .int 0, .int 0, .int 0, .int 0])), (q18, .inr (5, [.ref q19, .int 2, .int 0, .int 0, .int 0, .int 0, .int 0, .int 0])), (q20, .inr (5, [.ref q21, .int 3, .int 0, .int 0, .int 0, .int 0, .int 0, .int 0])), (q30, .inr (2, [.ref q31, .int (-1), .int 0, .int 0])), (q32, .inl (cA33, 192, .inl (fun _ => 0)))] ++ mx_Y q2 cA5)) [0, 1, 2, 3, 4, 5, 6, 7, 8, 9, 10, 11, 13, 14, 15, 16, 17, 18, 19, 20, 21, 22, 23, 24, 25, 26, 27, 28, 29, 30, 31, 32, 33, 34, 35, 36, 37, 38, 39, 40, 41, 42, 43, 44, 45, 46, 47, 48, 49, 50, 51, 52, 53, 54, 55, 56] (by decide) rfl
  have hK := hK.sub (tys' := [(cA4, .array .int), (cA5, .int), (cA6, .boolean), (cA13, .object "TapeSealer$Label"), (cA33, .int)]) [0, 1, 2, 3, 4] rfl
  refine lv_aload_n hx hb d_TS_init_156 rfl (lv_at hl 1 rfl) ?_
  refine lv_sipush (v := 1152) hx hb d_TS_init_157 (by decide) ?_
  refine va_newa (D := (dC, dI)) (atype := .int) (a0 := (1152, .inl (fun _ => 0))) (ty := .int) hx hb (hB _ hw_131) rfl hK hP hD hS hA (fun _ => rfl) (by decide) (N' := 1152) rfl (by decide) (Nat.le_of_ble_eq_true rfl) (Nat.le_of_ble_eq_true rfl) d_TS_init_160 (fun q36 cA37 H hK hP hD hS => ?_)
  have hP := hP.sub (ws' := ([(h0, .inr (8, [.ref q1, .ref q7, .ref q10, .ref q11, .ref q12, .ref q22, .ref q24, .ref q26, .ref q28, .ref q30, .ref q32, .int 0, .ref q34, .null, .int 0])), (q1, .inr (1, [.ref q2, .ref q3, .int 0, .int (-1), .int 0, .int 0])), (q2, .inl (cA4, 44, .inr (.inr (.inr (.inr (mx_g q2 44)))))), (q3, .inl (cA6, 44, .inl (fun _ => 0))), (q7, .inr (3, [.ref q8, .ref q9, .int 0])), (q12, .inl (cA13, 4, .inr (.inr (.inr (.inr (va_up (va_up (va_up (va_up (fun _ => none) 0 (some q14)) 1 (some q16)) 2 (some q18)) 3 (some q20))))))), (q14, .inr (5, [.ref q15, .int 0, .int 0, .int 0, .int 0, .int 0, .int 0, .int 0])), (q16, .inr (5, [.ref q17, .int 1, .int 0, .int 0, .int 0, .int 0, .int 0, .int 0])), (q18, .inr (5, [.ref q19, .int 2, .int 0, .int 0, .int 0, .int 0, .int 0, .int 0])), (q20, .inr (5, [.ref q21, .int 3, .int 0, .int 0, .int 0, .int 0, .int 0, .int 0])), (q30, .inr (2, [.ref q31, .int (-1), .int 0, .int 0])), (q32, .inl (cA33, 192, .inl (fun _ => 0))), (q36, .inl (cA37, 1152, .inl (fun _ => 0)))] ++ mx_Y q2 cA5)) [0, 1, 2, 3, 4, 5, 6, 7, 8, 9, 10, 11, 56, 12, 13, 14, 15, 16, 17, 18, 19, 20, 21, 22, 23, 24, 25, 26, 27, 28, 29, 30, 31, 32, 33, 34, 35, 36, 37, 38, 39, 40, 41, 42, 43, 44, 45, 46, 47, 48, 49, 50, 51, 52, 53, 54, 55] rfl
  have hD := hD.sub (ws' := ([(h0, .inr (8, [.ref q1, .ref q7, .ref q10, .ref q11, .ref q12, .ref q22, .ref q24, .ref q26, .ref q28, .ref q30, .ref q32, .int 0, .ref q34, .null, .int 0])), (q1, .inr (1, [.ref q2, .ref q3, .int 0, .int (-1), .int 0, .int 0])), (q2, .inl (cA4, 44, .inr (.inr (.inr (.inr (mx_g q2 44)))))), (q3, .inl (cA6, 44, .inl (fun _ => 0))), (q7, .inr (3, [.ref q8, .ref q9, .int 0])), (q12, .inl (cA13, 4, .inr (.inr (.inr (.inr (va_up (va_up (va_up (va_up (fun _ => none) 0 (some q14)) 1 (some q16)) 2 (some q18)) 3 (some q20))))))), (q14, .inr (5, [.ref q15, .int 0, .int 0, .int 0, .int 0, .int 0, .int 0, .int 0])), (q16, .inr (5, [.ref q17, .int 1, .int 0, .int 0, .int 0, .int 0, .int 0, .int 0])), (q18, .inr (5, [.ref q19, .int 2, .int 0, .int 0, .int 0, .int 0, .int 0, .int 0])), (q20, .inr (5, [.ref q21, .int 3, .int 0, .int 0, .int 0, .int 0, .int 0, .int 0])), (q30, .inr (2, [.ref q31, .int (-1), .int 0, .int 0])), (q32, .inl (cA33, 192, .inl (fun _ => 0))), (q36, .inl (cA37, 1152, .inl (fun _ => 0)))] ++ mx_Y q2 cA5)) [0, 1, 2, 3, 4, 5, 6, 7, 8, 9, 10, 11, 56, 12, 13, 14, 15, 16, 17, 18, 19, 20, 21, 22, 23, 24, 25, 26, 27, 28, 29, 30, 31, 32, 33, 34, 35, 36, 37, 38, 39, 40, 41, 42, 43, 44, 45, 46, 47, 48, 49, 50, 51, 52, 53, 54, 55] (by decide) rfl
  have hK : va_K (dC, dI) gx_cl [(cA4, .array .int), (cA5, .int), (cA6, .boolean), (cA13, .object "TapeSealer$Label"), (cA33, .int), (cA37, .int)] s := hK
  refine W.widen (k := 102) (n := 7488) (Nat.le_of_ble_eq_true rfl) (Nat.le_of_ble_eq_true rfl) ?_
  refine va_putF (D := (dC, dI)) (ci := 8) (v := .ref q36) (ty := .array .int) (C := RTS) (T := FTS) (N := 15) hx hb hB in_TS tTS tTS_ok nTS hown hK hP hD hS 0 rfl rfl 13 (by decide) (hB _ hw_320) (fun _ h9 => h9) rfl hin rfl (by decide +kernel) rfl rfl (Nat.le_of_ble_eq_true rfl) d_TS_init_162 (fun H locs hP hD hS => ?_)
  have hP : va_P (dC, dI) gx_cl ([(h0, .inr (8, [.ref q1, .ref q7, .ref q10, .ref q11, .ref q12, .ref q22, .ref q24, .ref q26, .ref q28, .ref q30, .ref q32, .int 0, .ref q34, .ref q36, .int 0])), (q1, .inr (1, [.ref q2, .ref q3, .int 0, .int (-1), .int 0, .int 0])), (q2, .inl (cA4, 44, .inr (.inr (.inr (.inr (mx_g q2 44)))))), (q3, .inl (cA6, 44, .inl (fun _ => 0))), (q7, .inr (3, [.ref q8, .ref q9, .int 0])), (q12, .inl (cA13, 4, .inr (.inr (.inr (.inr (va_up (va_up (va_up (va_up (fun _ => none) 0 (some q14)) 1 (some q16)) 2 (some q18)) 3 (some q20))))))), (q14, .inr (5, [.ref q15, .int 0, .int 0, .int 0, .int 0, .int 0, .int 0, .int 0])), (q16, .inr (5, [.ref q17, .int 1, .int 0, .int 0, .int 0, .int 0, .int 0, .int 0])), (q18, .inr (5, [.ref q19, .int 2, .int 0, .int 0, .int 0, .int 0, .int 0, .int 0])), (q20, .inr (5, [.ref q21, .int 3, .int 0, .int 0, .int 0, .int 0, .int 0, .int 0])), (q30, .inr (2, [.ref q31, .int (-1), .int 0, .int 0])), (q32, .inl (cA33, 192, .inl (fun _ => 0))), (q36, .inl (cA37, 1152, .inl (fun _ => 0)))] ++ mx_Y q2 cA5) H := hP
  have hD : va_D A ([(h0, .inr (8, [.ref q1, .ref q7, .ref q10, .ref q11, .ref q12, .ref q22, .ref q24, .ref q26, .ref q28, .ref q30, .ref q32, .int 0, .ref q34, .ref q36, .int 0])), (q1, .inr (1, [.ref q2, .ref q3, .int 0, .int (-1), .int 0, .int 0])), (q2, .inl (cA4, 44, .inr (.inr (.inr (.inr (mx_g q2 44)))))), (q3, .inl (cA6, 44, .inl (fun _ => 0))), (q7, .inr (3, [.ref q8, .ref q9, .int 0])), (q12, .inl (cA13, 4, .inr (.inr (.inr (.inr (va_up (va_up (va_up (va_up (fun _ => none) 0 (some q14)) 1 (some q16)) 2 (some q18)) 3 (some q20))))))), (q14, .inr (5, [.ref q15, .int 0, .int 0, .int 0, .int 0, .int 0, .int 0, .int 0])), (q16, .inr (5, [.ref q17, .int 1, .int 0, .int 0, .int 0, .int 0, .int 0, .int 0])), (q18, .inr (5, [.ref q19, .int 2, .int 0, .int 0, .int 0, .int 0, .int 0, .int 0])), (q20, .inr (5, [.ref q21, .int 3, .int 0, .int 0, .int 0, .int 0, .int 0, .int 0])), (q30, .inr (2, [.ref q31, .int (-1), .int 0, .int 0])), (q32, .inl (cA33, 192, .inl (fun _ => 0))), (q36, .inl (cA37, 1152, .inl (fun _ => 0)))] ++ mx_Y q2 cA5) := hD
  have hP := hP.sub (ws' := ([(h0, .inr (8, [.ref q1, .ref q7, .ref q10, .ref q11, .ref q12, .ref q22, .ref q24, .ref q26, .ref q28, .ref q30, .ref q32, .int 0, .ref q34, .ref q36, .int 0])), (q1, .inr (1, [.ref q2, .ref q3, .int 0, .int (-1), .int 0, .int 0])), (q2, .inl (cA4, 44, .inr (.inr (.inr (.inr (mx_g q2 44)))))), (q3, .inl (cA6, 44, .inl (fun _ => 0))), (q7, .inr (3, [.ref q8, .ref q9, .int 0])), (q12, .inl (cA13, 4, .inr (.inr (.inr (.inr (va_up (va_up (va_up (va_up (fun _ => none) 0 (some q14)) 1 (some q16)) 2 (some q18)) 3 (some q20))))))), (q14, .inr (5, [.ref q15, .int 0, .int 0, .int 0, .int 0, .int 0, .int 0, .int 0])), (q16, .inr (5, [.ref q17, .int 1, .int 0, .int 0, .int 0, .int 0, .int 0, .int 0])), (q18, .inr (5, [.ref q19, .int 2, .int 0, .int 0, .int 0, .int 0, .int 0, .int 0])), (q20, .inr (5, [.ref q21, .int 3, .int 0, .int 0, .int 0, .int 0, .int 0, .int 0])), (q30, .inr (2, [.ref q31, .int (-1), .int 0, .int 0])), (q32, .inl (cA33, 192, .inl (fun _ => 0)))] ++ mx_Y q2 cA5)) [0, 1, 2, 3, 4, 5, 6, 7, 8, 9, 10, 11, 13, 14, 15, 16, 17, 18, 19, 20, 21, 22, 23, 24, 25, 26, 27, 28, 29, 30, 31, 32, 33, 34, 35, 36, 37, 38, 39, 40, 41, 42, 43, 44, 45, 46, 47, 48, 49, 50, 51, 52, 53, 54, 55, 56] rfl
  have hD := hD.sub (ws' := ([(h0, .inr (8, [.ref q1, .ref q7, .ref q10, .ref q11, .ref q12, .ref q22, .ref q24, .ref q26, .ref q28, .ref q30, .ref q32, .int 0, .ref q34, .ref q36, .int 0])), (q1, .inr (1, [.ref q2, .ref q3, .int 0, .int (-1), .int 0, .int 0])), (q2, .inl (cA4, 44, .inr (.inr (.inr (.inr (mx_g q2 44)))))), (q3, .inl (cA6, 44, .inl (fun _ => 0))), (q7, .inr (3, [.ref q8, .ref q9, .int 0])), (q12, .inl (cA13, 4, .inr (.inr (.inr (.inr (va_up (va_up (va_up (va_up (fun _ => none) 0 (some q14)) 1 (some q16)) 2 (some q18)) 3 (some q20))))))), (q14, .inr (5, [.ref q15, .int 0, .int 0, .int 0, .int 0, .int 0, .int 0, .int 0])), (q16, .inr (5, [.ref q17, .int 1, .int 0, .int 0, .int 0, .int 0, .int 0, .int 0])), (q18, .inr (5, [.ref q19, .int 2, .int 0, .int 0, .int 0, .int 0, .int 0, .int 0])), (q20, .inr (5, [.ref q21, .int 3, .int 0, .int 0, .int 0, .int 0, .int 0, .int 0])), (q30, .inr (2, [.ref q31, .int (-1), .int 0, .int 0])), (q32, .inl (cA33, 192, .inl (fun _ => 0)))] ++ mx_Y q2 cA5)) [0, 1, 2, 3, 4, 5, 6, 7, 8, 9, 10, 11, 13, 14, 15, 16, 17, 18, 19, 20, 21, 22, 23, 24, 25, 26, 27, 28, 29, 30, 31, 32, 33, 34, 35, 36, 37, 38, 39, 40, 41, 42, 43, 44, 45, 46, 47, 48, 49, 50, 51, 52, 53, 54, 55, 56] (by decide) rfl
  have hK := hK.sub (tys' := [(cA4, .array .int), (cA5, .int), (cA6, .boolean), (cA13, .object "TapeSealer$Label"), (cA33, .int)]) [0, 1, 2, 3, 4] rfl
  refine W.widen (k := 102) (n := 7488) (Nat.le_of_ble_eq_true rfl) (Nat.le_of_ble_eq_true rfl) ?_
  have hP := hP.sub (ws' := ([(h0, .inr (8, [.ref q1, .ref q7, .ref q10, .ref q11, .ref q12, .ref q22, .ref q24, .ref q26, .ref q28, .ref q30, .ref q32, .int 0, .ref q34, .ref q36, .int 0])), (q1, .inr (1, [.ref q2, .ref q3, .int 0, .int (-1), .int 0, .int 0])), (q2, .inl (cA4, 44, .inr (.inr (.inr (.inr (mx_g q2 44)))))), (q3, .inl (cA6, 44, .inl (fun _ => 0))), (q7, .inr (3, [.ref q8, .ref q9, .int 0])), (q12, .inl (cA13, 4, .inr (.inr (.inr (.inr (va_up (va_up (va_up (va_up (fun _ => none) 0 (some q14)) 1 (some q16)) 2 (some q18)) 3 (some q20))))))), (q14, .inr (5, [.ref q15, .int 0, .int 0, .int 0, .int 0, .int 0, .int 0, .int 0])), (q16, .inr (5, [.ref q17, .int 1, .int 0, .int 0, .int 0, .int 0, .int 0, .int 0])), (q18, .inr (5, [.ref q19, .int 2, .int 0, .int 0, .int 0, .int 0, .int 0, .int 0])), (q20, .inr (5, [.ref q21, .int 3, .int 0, .int 0, .int 0, .int 0, .int 0, .int 0])), (q30, .inr (2, [.ref q31, .int (-1), .int 0, .int 0])), (q32, .inl (cA33, 192, .inl (fun _ => 0)))] ++ mx_Y q2 cA5)) [0, 1, 2, 3, 4, 5, 6, 7, 8, 9, 10, 11, 12, 13, 14, 15, 16, 17, 18, 19, 20, 21, 22, 23, 24, 25, 26, 27, 28, 29, 30, 31, 32, 33, 34, 35, 36, 37, 38, 39, 40, 41, 42, 43, 44, 45, 46, 47, 48, 49, 50, 51, 52, 53, 54, 55] rfl
  have hD := hD.sub (ws' := ([(h0, .inr (8, [.ref q1, .ref q7, .ref q10, .ref q11, .ref q12, .ref q22, .ref q24, .ref q26, .ref q28, .ref q30, .ref q32, .int 0, .ref q34, .ref q36, .int 0])), (q1, .inr (1, [.ref q2, .ref q3, .int 0, .int (-1), .int 0, .int 0])), (q2, .inl (cA4, 44, .inr (.inr (.inr (.inr (mx_g q2 44)))))), (q3, .inl (cA6, 44, .inl (fun _ => 0))), (q7, .inr (3, [.ref q8, .ref q9, .int 0])), (q12, .inl (cA13, 4, .inr (.inr (.inr (.inr (va_up (va_up (va_up (va_up (fun _ => none) 0 (some q14)) 1 (some q16)) 2 (some q18)) 3 (some q20))))))), (q14, .inr (5, [.ref q15, .int 0, .int 0, .int 0, .int 0, .int 0, .int 0, .int 0])), (q16, .inr (5, [.ref q17, .int 1, .int 0, .int 0, .int 0, .int 0, .int 0, .int 0])), (q18, .inr (5, [.ref q19, .int 2, .int 0, .int 0, .int 0, .int 0, .int 0, .int 0])), (q20, .inr (5, [.ref q21, .int 3, .int 0, .int 0, .int 0, .int 0, .int 0, .int 0])), (q30, .inr (2, [.ref q31, .int (-1), .int 0, .int 0])), (q32, .inl (cA33, 192, .inl (fun _ => 0)))] ++ mx_Y q2 cA5)) [0, 1, 2, 3, 4, 5, 6, 7, 8, 9, 10, 11, 12, 13, 14, 15, 16, 17, 18, 19, 20, 21, 22, 23, 24, 25, 26, 27, 28, 29, 30, 31, 32, 33, 34, 35, 36, 37, 38, 39, 40, 41, 42, 43, 44, 45, 46, 47, 48, 49, 50, 51, 52, 53, 54, 55] (by decide) rfl
  have hK := hK.sub (tys' := [(cA4, .array .int), (cA5, .int), (cA6, .boolean), (cA13, .object "TapeSealer$Label"), (cA33, .int)]) [0, 1, 2, 3, 4] rfl
  exact W.vret hx hb hr (fun t ht hW => ⟨⟨(), rfl, trivial, (fun i => match i with | 0 => q1 | 1 => q2 | 2 => q3 | 3 => q7 | 4 => q8 | 5 => q9 | 6 => q12 | 7 => q14 | 8 => q16 | 9 => q18 | 10 => q20 | 11 => q15 | 12 => q17 | 13 => q19 | 14 => q21 | 15 => q30 | 16 => q31 | 17 => q32 | 18 => q10 | 19 => q11 | 20 => q22 | 21 => q24 | 22 => q26 | 23 => q28 | 24 => q34 | 25 => q36 | _ => 0), (fun i => match i with | 0 => cA4 | 1 => cA5 | 2 => cA6 | 3 => cA13 | 4 => cA33 | _ => 0), by rw [ht]; exact hP, hD, va_K.moved hW.alike hK⟩, hS.F ht⟩) hS.2.2 d_TS_init_165
end
section
abbrev b_Mo_init : ByteArray := prog_12_method_1_code
def y_Mo_init : MethodName := ⟨"TapeSealerModel", "<init>", "()V"⟩
abbrev w_Mo_init : List Cond := .code y_Mo_init b_Mo_init 1 none :: gx_B
theorem k_Mo_init : (.code y_Mo_init b_Mo_init 1 none : Cond) ∈ gx_B := gx_mem 888 (by decide +kernel) rfl
theorem hw_889 : (.methodLink "TapeSealerModel" 1 ⟨"java/lang/Object", "<init>", "()V"⟩ : Cond) ∈ gx_B := gx_mem 889 (by decide +kernel) rfl
theorem hw_891 : (.fieldLink "TapeSealerModel" 7 "TapeSealerModel" "bytes" "[I" : Cond) ∈ gx_B := gx_mem 891 (by decide +kernel) rfl
theorem hw_892 : (.fieldLink "TapeSealerModel" 13 "TapeSealerModel" "unread" "[Z" : Cond) ∈ gx_B := gx_mem 892 (by decide +kernel) rfl
theorem hw_893 : (.fieldLink "TapeSealerModel" 17 "TapeSealerModel" "buffer" "[I" : Cond) ∈ gx_B := gx_mem 893 (by decide +kernel) rfl
theorem hw_896 : (.fieldLink "TapeSealerModel" 20 "TapeSealerModel" "epochKey" "[I" : Cond) ∈ gx_B := gx_mem 896 (by decide +kernel) rfl
theorem hw_897 : (.fieldLink "TapeSealerModel" 23 "TapeSealerModel" "dropped" "[Z" : Cond) ∈ gx_B := gx_mem 897 (by decide +kernel) rfl
theorem hw_901 : (.fieldLink "TapeSealerModel" 26 "TapeSealerModel" "data" "[I" : Cond) ∈ gx_B := gx_mem 901 (by decide +kernel) rfl
theorem hw_904 : (.fieldLink "TapeSealerModel" 29 "TapeSealerModel" "left" "I" : Cond) ∈ gx_B := gx_mem 904 (by decide +kernel) rfl
theorem hw_906 : (.fieldLink "TapeSealerModel" 33 "TapeSealerModel" "output" "[I" : Cond) ∈ gx_B := gx_mem 906 (by decide +kernel) rfl
theorem hw_908 : (.fieldLink "TapeSealerModel" 36 "TapeSealerModel" "key" "[I" : Cond) ∈ gx_B := gx_mem 908 (by decide +kernel) rfl
theorem hw_909 : (.fieldLink "TapeSealerModel" 39 "TapeSealerModel" "nonce" "[I" : Cond) ∈ gx_B := gx_mem 909 (by decide +kernel) rfl
theorem hw_910 : (.fieldLink "TapeSealerModel" 42 "TapeSealerModel" "more" "[I" : Cond) ∈ gx_B := gx_mem 910 (by decide +kernel) rfl
theorem hw_912 : (.fieldLink "TapeSealerModel" 45 "TapeSealerModel" "text" "[I" : Cond) ∈ gx_B := gx_mem 912 (by decide +kernel) rfl
theorem hw_914 : (.fieldLink "TapeSealerModel" 48 "TapeSealerModel" "tag" "[I" : Cond) ∈ gx_B := gx_mem 914 (by decide +kernel) rfl
theorem hw_915 : (.fieldLink "TapeSealerModel" 51 "TapeSealerModel" "word" "[I" : Cond) ∈ gx_B := gx_mem 915 (by decide +kernel) rfl
theorem hw_916 : (.fieldLink "TapeSealerModel" 54 "TapeSealerModel" "start" "[I" : Cond) ∈ gx_B := gx_mem 916 (by decide +kernel) rfl
theorem hw_917 : (.fieldLink "TapeSealerModel" 57 "TapeSealerModel" "stream" "[I" : Cond) ∈ gx_B := gx_mem 917 (by decide +kernel) rfl
theorem hw_918 : (.fieldLink "TapeSealerModel" 60 "TapeSealerModel" "mac" "[I" : Cond) ∈ gx_B := gx_mem 918 (by decide +kernel) rfl
theorem hw_920 : (.fieldLink "TapeSealerModel" 63 "TapeSealerModel" "\x72" "[I" : Cond) ∈ gx_B := gx_mem 920 (by decide +kernel) rfl
theorem hw_921 : (.fieldLink "TapeSealerModel" 66 "TapeSealerModel" "h" "[I" : Cond) ∈ gx_B := gx_mem 921 (by decide +kernel) rfl
theorem hw_922 : (.fieldLink "TapeSealerModel" 69 "TapeSealerModel" "x" "[I" : Cond) ∈ gx_B := gx_mem 922 (by decide +kernel) rfl
theorem hw_923 : (.fieldLink "TapeSealerModel" 72 "TapeSealerModel" "fileKey" "[I" : Cond) ∈ gx_B := gx_mem 923 (by decide +kernel) rfl
theorem hw_930 : (.fieldLink "TapeSealerModel" 75 "TapeSealerModel" "fixed" "[I" : Cond) ∈ gx_B := gx_mem 930 (by decide +kernel) rfl
theorem hw_932 : (.fieldLink "TapeSealerModel" 78 "TapeSealerModel" "parity" "[I" : Cond) ∈ gx_B := gx_mem 932 (by decide +kernel) rfl
theorem hw_933 : (.fieldLink "TapeSealerModel" 81 "TapeSealerModel" "made" "[I" : Cond) ∈ gx_B := gx_mem 933 (by decide +kernel) rfl
theorem hw_934 : (.fieldLink "TapeSealerModel" 84 "TapeSealerModel" "nextOutput" "[I" : Cond) ∈ gx_B := gx_mem 934 (by decide +kernel) rfl
end
section
theorem d_Mo_init_0 : decode b_Mo_init 0 = .ok (.aload_n 0, 1) := by decide +kernel
theorem d_Mo_init_1 : decode b_Mo_init 1 = .ok (.invokespecial 1, 3) := by decide +kernel
theorem d_Mo_init_10 : decode b_Mo_init 10 = .ok (.putfield 7, 3) := by decide +kernel
theorem d_Mo_init_102 : decode b_Mo_init 102 = .ok (.aload_n 0, 1) := by decide +kernel
theorem d_Mo_init_103 : decode b_Mo_init 103 = .ok (.bipush 16, 2) := by decide +kernel
theorem d_Mo_init_105 : decode b_Mo_init 105 = .ok (.newarray .int, 2) := by decide +kernel
theorem d_Mo_init_107 : decode b_Mo_init 107 = .ok (.putfield 48, 3) := by decide +kernel
theorem d_Mo_init_110 : decode b_Mo_init 110 = .ok (.aload_n 0, 1) := by decide +kernel
theorem d_Mo_init_111 : decode b_Mo_init 111 = .ok (.bipush 16, 2) := by decide +kernel
theorem d_Mo_init_113 : decode b_Mo_init 113 = .ok (.newarray .int, 2) := by decide +kernel
theorem d_Mo_init_115 : decode b_Mo_init 115 = .ok (.putfield 51, 3) := by decide +kernel
theorem d_Mo_init_118 : decode b_Mo_init 118 = .ok (.aload_n 0, 1) := by decide +kernel
theorem d_Mo_init_119 : decode b_Mo_init 119 = .ok (.bipush 16, 2) := by decide +kernel
theorem d_Mo_init_121 : decode b_Mo_init 121 = .ok (.newarray .int, 2) := by decide +kernel
theorem d_Mo_init_123 : decode b_Mo_init 123 = .ok (.putfield 54, 3) := by decide +kernel
theorem d_Mo_init_126 : decode b_Mo_init 126 = .ok (.aload_n 0, 1) := by decide +kernel
theorem d_Mo_init_127 : decode b_Mo_init 127 = .ok (.bipush 64, 2) := by decide +kernel
theorem d_Mo_init_129 : decode b_Mo_init 129 = .ok (.newarray .int, 2) := by decide +kernel
theorem d_Mo_init_13 : decode b_Mo_init 13 = .ok (.aload_n 0, 1) := by decide +kernel
theorem d_Mo_init_131 : decode b_Mo_init 131 = .ok (.putfield 57, 3) := by decide +kernel
theorem d_Mo_init_134 : decode b_Mo_init 134 = .ok (.aload_n 0, 1) := by decide +kernel
theorem d_Mo_init_135 : decode b_Mo_init 135 = .ok (.bipush 80, 2) := by decide +kernel
theorem d_Mo_init_137 : decode b_Mo_init 137 = .ok (.newarray .int, 2) := by decide +kernel
theorem d_Mo_init_139 : decode b_Mo_init 139 = .ok (.putfield 60, 3) := by decide +kernel
theorem d_Mo_init_14 : decode b_Mo_init 14 = .ok (.bipush 44, 2) := by decide +kernel
theorem d_Mo_init_142 : decode b_Mo_init 142 = .ok (.aload_n 0, 1) := by decide +kernel
theorem d_Mo_init_143 : decode b_Mo_init 143 = .ok (.bipush 17, 2) := by decide +kernel
theorem d_Mo_init_145 : decode b_Mo_init 145 = .ok (.newarray .int, 2) := by decide +kernel
theorem d_Mo_init_147 : decode b_Mo_init 147 = .ok (.putfield 63, 3) := by decide +kernel
theorem d_Mo_init_150 : decode b_Mo_init 150 = .ok (.aload_n 0, 1) := by decide +kernel
theorem d_Mo_init_151 : decode b_Mo_init 151 = .ok (.bipush 17, 2) := by decide +kernel
theorem d_Mo_init_153 : decode b_Mo_init 153 = .ok (.newarray .int, 2) := by decide +kernel
theorem d_Mo_init_155 : decode b_Mo_init 155 = .ok (.putfield 66, 3) := by decide +kernel
theorem d_Mo_init_158 : decode b_Mo_init 158 = .ok (.aload_n 0, 1) := by decide +kernel
theorem d_Mo_init_159 : decode b_Mo_init 159 = .ok (.bipush 17, 2) := by decide +kernel
theorem d_Mo_init_16 : decode b_Mo_init 16 = .ok (.newarray .boolean, 2) := by decide +kernel
theorem d_Mo_init_161 : decode b_Mo_init 161 = .ok (.newarray .int, 2) := by decide +kernel
theorem d_Mo_init_163 : decode b_Mo_init 163 = .ok (.putfield 69, 3) := by decide +kernel
theorem d_Mo_init_166 : decode b_Mo_init 166 = .ok (.aload_n 0, 1) := by decide +kernel
theorem d_Mo_init_167 : decode b_Mo_init 167 = .ok (.bipush 32, 2) := by decide +kernel
theorem d_Mo_init_169 : decode b_Mo_init 169 = .ok (.newarray .int, 2) := by decide +kernel
theorem d_Mo_init_171 : decode b_Mo_init 171 = .ok (.putfield 72, 3) := by decide +kernel
theorem d_Mo_init_174 : decode b_Mo_init 174 = .ok (.aload_n 0, 1) := by decide +kernel
theorem d_Mo_init_175 : decode b_Mo_init 175 = .ok (.sipush 256, 3) := by decide +kernel
theorem d_Mo_init_178 : decode b_Mo_init 178 = .ok (.newarray .int, 2) := by decide +kernel
theorem d_Mo_init_18 : decode b_Mo_init 18 = .ok (.putfield 13, 3) := by decide +kernel
theorem d_Mo_init_180 : decode b_Mo_init 180 = .ok (.putfield 75, 3) := by decide +kernel
theorem d_Mo_init_183 : decode b_Mo_init 183 = .ok (.aload_n 0, 1) := by decide +kernel
theorem d_Mo_init_184 : decode b_Mo_init 184 = .ok (.sipush 128, 3) := by decide +kernel
theorem d_Mo_init_187 : decode b_Mo_init 187 = .ok (.newarray .int, 2) := by decide +kernel
theorem d_Mo_init_189 : decode b_Mo_init 189 = .ok (.putfield 78, 3) := by decide +kernel
theorem d_Mo_init_192 : decode b_Mo_init 192 = .ok (.aload_n 0, 1) := by decide +kernel
theorem d_Mo_init_193 : decode b_Mo_init 193 = .ok (.bipush 64, 2) := by decide +kernel
theorem d_Mo_init_195 : decode b_Mo_init 195 = .ok (.newarray .int, 2) := by decide +kernel
theorem d_Mo_init_197 : decode b_Mo_init 197 = .ok (.putfield 81, 3) := by decide +kernel
theorem d_Mo_init_200 : decode b_Mo_init 200 = .ok (.aload_n 0, 1) := by decide +kernel
theorem d_Mo_init_201 : decode b_Mo_init 201 = .ok (.sipush 768, 3) := by decide +kernel
theorem d_Mo_init_204 : decode b_Mo_init 204 = .ok (.newarray .int, 2) := by decide +kernel
theorem d_Mo_init_206 : decode b_Mo_init 206 = .ok (.putfield 84, 3) := by decide +kernel
theorem d_Mo_init_209 : decode b_Mo_init 209 = .ok (.return_, 1) := by decide +kernel
end
section
theorem d_Mo_init_21 : decode b_Mo_init 21 = .ok (.aload_n 0, 1) := by decide +kernel
theorem d_Mo_init_22 : decode b_Mo_init 22 = .ok (.sipush 192, 3) := by decide +kernel
theorem d_Mo_init_25 : decode b_Mo_init 25 = .ok (.newarray .int, 2) := by decide +kernel
theorem d_Mo_init_27 : decode b_Mo_init 27 = .ok (.putfield 17, 3) := by decide +kernel
theorem d_Mo_init_30 : decode b_Mo_init 30 = .ok (.aload_n 0, 1) := by decide +kernel
theorem d_Mo_init_31 : decode b_Mo_init 31 = .ok (.sipush 288, 3) := by decide +kernel
theorem d_Mo_init_34 : decode b_Mo_init 34 = .ok (.newarray .int, 2) := by decide +kernel
theorem d_Mo_init_36 : decode b_Mo_init 36 = .ok (.putfield 20, 3) := by decide +kernel
theorem d_Mo_init_39 : decode b_Mo_init 39 = .ok (.aload_n 0, 1) := by decide +kernel
theorem d_Mo_init_4 : decode b_Mo_init 4 = .ok (.aload_n 0, 1) := by decide +kernel
theorem d_Mo_init_40 : decode b_Mo_init 40 = .ok (.bipush 10, 2) := by decide +kernel
theorem d_Mo_init_42 : decode b_Mo_init 42 = .ok (.newarray .boolean, 2) := by decide +kernel
theorem d_Mo_init_44 : decode b_Mo_init 44 = .ok (.putfield 23, 3) := by decide +kernel
theorem d_Mo_init_47 : decode b_Mo_init 47 = .ok (.aload_n 0, 1) := by decide +kernel
theorem d_Mo_init_48 : decode b_Mo_init 48 = .ok (.sipush 768, 3) := by decide +kernel
theorem d_Mo_init_5 : decode b_Mo_init 5 = .ok (.sipush 2816, 3) := by decide +kernel
theorem d_Mo_init_51 : decode b_Mo_init 51 = .ok (.newarray .int, 2) := by decide +kernel
theorem d_Mo_init_53 : decode b_Mo_init 53 = .ok (.putfield 26, 3) := by decide +kernel
theorem d_Mo_init_56 : decode b_Mo_init 56 = .ok (.aload_n 0, 1) := by decide +kernel
theorem d_Mo_init_57 : decode b_Mo_init 57 = .ok (.iconst (-1), 1) := by decide +kernel
theorem d_Mo_init_58 : decode b_Mo_init 58 = .ok (.putfield 29, 3) := by decide +kernel
theorem d_Mo_init_61 : decode b_Mo_init 61 = .ok (.aload_n 0, 1) := by decide +kernel
theorem d_Mo_init_62 : decode b_Mo_init 62 = .ok (.sipush 768, 3) := by decide +kernel
theorem d_Mo_init_65 : decode b_Mo_init 65 = .ok (.newarray .int, 2) := by decide +kernel
theorem d_Mo_init_67 : decode b_Mo_init 67 = .ok (.putfield 33, 3) := by decide +kernel
theorem d_Mo_init_70 : decode b_Mo_init 70 = .ok (.aload_n 0, 1) := by decide +kernel
theorem d_Mo_init_71 : decode b_Mo_init 71 = .ok (.bipush 32, 2) := by decide +kernel
theorem d_Mo_init_73 : decode b_Mo_init 73 = .ok (.newarray .int, 2) := by decide +kernel
theorem d_Mo_init_75 : decode b_Mo_init 75 = .ok (.putfield 36, 3) := by decide +kernel
theorem d_Mo_init_78 : decode b_Mo_init 78 = .ok (.aload_n 0, 1) := by decide +kernel
theorem d_Mo_init_79 : decode b_Mo_init 79 = .ok (.bipush 12, 2) := by decide +kernel
theorem d_Mo_init_8 : decode b_Mo_init 8 = .ok (.newarray .int, 2) := by decide +kernel
theorem d_Mo_init_81 : decode b_Mo_init 81 = .ok (.newarray .int, 2) := by decide +kernel
theorem d_Mo_init_83 : decode b_Mo_init 83 = .ok (.putfield 39, 3) := by decide +kernel
theorem d_Mo_init_86 : decode b_Mo_init 86 = .ok (.aload_n 0, 1) := by decide +kernel
theorem d_Mo_init_87 : decode b_Mo_init 87 = .ok (.bipush 16, 2) := by decide +kernel
theorem d_Mo_init_89 : decode b_Mo_init 89 = .ok (.newarray .int, 2) := by decide +kernel
theorem d_Mo_init_91 : decode b_Mo_init 91 = .ok (.putfield 42, 3) := by decide +kernel
theorem d_Mo_init_94 : decode b_Mo_init 94 = .ok (.aload_n 0, 1) := by decide +kernel
theorem d_Mo_init_95 : decode b_Mo_init 95 = .ok (.bipush 48, 2) := by decide +kernel
theorem d_Mo_init_97 : decode b_Mo_init 97 = .ok (.newarray .int, 2) := by decide +kernel
theorem d_Mo_init_99 : decode b_Mo_init 99 = .ok (.putfield 45, 3) := by decide +kernel
end
section
abbrev wMo (h0 : Nat) (q : Nat → Nat) (c : Nat → ClassId) : va_W := [(h0, .inr (9, [.int 0, .ref (q 1), .ref (q 2), .ref (q 3), .int 0, .int 0, .ref (q 6), .ref (q 7), .int 0, .int 0, .int 0, .ref (q 11), .int 0, .int 0, .int (-1), .int 0, .ref (q 16), .int 0, .ref (q 18), .ref (q 19), .ref (q 20), .int 0, .ref (q 22), .int 0, .ref (q 24), .ref (q 25), .ref (q 26), .ref (q 27), .ref (q 28), .int 0, .ref (q 30), .ref (q 31), .ref (q 32), .ref (q 33), .int 0, .int 0, .int 0, .int 0, .int 0, .int 0, .ref (q 40), .int 0, .ref (q 42), .ref (q 43), .ref (q 44)])), (q 1, .inl (c 0, 2816, .inl (fun _ => 0))), (q 2, .inl (c 1, 44, .inl (fun _ => 0))), (q 3, .inl (c 2, 192, .inl (fun _ => 0))), (q 7, .inl (c 3, 10, .inl (fun _ => 0)))]
abbrev kMo (c : Nat → ClassId) : List (ClassId × FieldType) := [(c 0, .int), (c 1, .boolean), (c 2, .int), (c 3, .boolean)]
set_option maxHeartbeats 4000000 in
set_option maxRecDepth 100000 in
theorem c_Mo_init (l : Launch) (dC : Nat → ClassId) (dI : Nat → Nat → Nat) (h0 sz : Nat) : Met l y_Mo_init w_Mo_init ({ frames := 1, cells := 24, slots := 6485, locals := 20 }) (va_Pc [.ref h0] (fun U => U.heap.size = sz ∧ va_P (dC, dI) gx_cl [(h0, .inr (9, [.int 0, .null, .null, .null, .int 0, .int 0, .null, .null, .int 0, .int 0, .int 0, .null, .int 0, .int 0, .int 0, .int 0, .null, .int 0, .null, .null, .null, .int 0, .null, .int 0, .null, .null, .null, .null, .null, .int 0, .null, .null, .null, .null, .int 0, .int 0, .int 0, .int 0, .int 0, .int 0, .null, .int 0, .null, .null, .null]))] U.heap ∧ va_K (dC, dI) gx_cl [] U ∧ va_D (fun _ => True) [(h0, .inr (9, [.int 0, .null, .null, .null, .int 0, .int 0, .null, .null, .int 0, .int 0, .int 0, .null, .int 0, .int 0, .int 0, .int 0, .null, .int 0, .null, .null, .null, .int 0, .null, .int 0, .null, .null, .null, .null, .null, .int 0, .null, .null, .null, .null, .int 0, .int 0, .int 0, .int 0, .int 0, .int 0, .null, .int 0, .null, .null, .null]))])) (va_Qv (fun _ : Unit => True) (fun _ t => ∃ (q : Nat → Nat) (c : Nat → ClassId), va_P (dC, dI) gx_cl (wMo h0 q c) t.heap ∧ va_D (va_A [(h0, .inr (9, [.int 0, .null, .null, .null, .int 0, .int 0, .null, .null, .int 0, .int 0, .int 0, .null, .int 0, .int 0, .int 0, .int 0, .null, .int 0, .null, .null, .null, .int 0, .null, .int 0, .null, .null, .null, .null, .null, .int 0, .null, .null, .null, .null, .int 0, .int 0, .int 0, .int 0, .int 0, .int 0, .null, .int 0, .null, .null, .null]))] sz) (wMo h0 q c) ∧ va_K (dC, dI) gx_cl (kMo c) t) (va_A [(h0, .inr (9, [.int 0, .null, .null, .null, .int 0, .int 0, .null, .null, .int 0, .int 0, .int 0, .null, .int 0, .int 0, .int 0, .int 0, .null, .int 0, .null, .null, .null, .int 0, .null, .int 0, .null, .null, .null, .null, .null, .int 0, .null, .null, .null, .null, .int 0, .int 0, .int 0, .int 0, .int 0, .int 0, .null, .int 0, .null, .null, .null]))] sz)) 24 6485 (va_A [(h0, .inr (9, [.int 0, .null, .null, .null, .int 0, .int 0, .null, .null, .int 0, .int 0, .int 0, .null, .int 0, .int 0, .int 0, .int 0, .null, .int 0, .null, .null, .null, .int 0, .null, .int 0, .null, .null, .null, .null, .null, .int 0, .null, .null, .null, .null, .int 0, .int 0, .int 0, .int 0, .int 0, .int 0, .null, .int 0, .null, .null, .null]))] sz) := by
  refine Met.ofW (cc := b_Mo_init) (maxL := 1) (ret := none) (by decide) rfl ?_
  intro p e s m args below meth c s₁ B hml hv
  obtain ⟨rfl, hsz, hP, hK, hD0⟩ := hv
  have hx := B.exec
  have hb := B.bytes
  have hr := B.returns
  have hts := atoms_spec (ws := w_Mo_init) B.pre
  have hB : ∀ w ∈ gx_B, w.before _ s = true := fun w h => hts w (List.mem_cons_of_mem _ h)
  have hown : s.vm.findClass RMo = some m.cls := findClass_of_methodNamed B.named
  have hlocks := B.notSynchronized
  have hin : meth.name = "<init>" := (name_of_methodNamed B.named B.method).1
  subst hsz
  have hD := hD0.self (sz := s.heap.size)
  generalize hAe : va_A [(h0, .inr (9, [.int 0, .null, .null, .null, .int 0, .int 0, .null, .null, .int 0, .int 0, .int 0, .null, .int 0, .int 0, .int 0, .int 0, .null, .int 0, .null, .null, .null, .int 0, .null, .int 0, .null, .null, .null, .null, .null, .int 0, .null, .null, .null, .null, .int 0, .int 0, .int 0, .int 0, .int 0, .int 0, .null, .int 0, .null, .null, .null]))] s.heap.size = A at hD ⊢
  have hA : ∀ q : Nat, s.heap.size ≤ q → A q := fun q h => by rw [← hAe]; exact Or.inr h
  have hS : va_S A s.heap s.heap [] := va_S.rf
  have hP : va_P (dC, dI) gx_cl [(h0, .inr (9, [.int 0, .null, .null, .null, .int 0, .int 0, .null, .null, .int 0, .int 0, .int 0, .null, .int 0, .int 0, .int 0, .int 0, .null, .int 0, .null, .null, .null, .int 0, .null, .int 0, .null, .null, .null, .null, .null, .int 0, .null, .null, .null, .null, .int 0, .int 0, .int 0, .int 0, .int 0, .int 0, .null, .int 0, .null, .null, .null]))] s.heap := hP
  have hl := lv_entry ([.ref h0]) (n := 1) (Nat.le_of_ble_eq_true rfl)
  rw [lg_entry_eq]
  generalize (lg_sl ([.ref h0]) ++ List.replicate (1 - (lg_sl ([.ref h0])).length) Slot.unset).toArray = ls at hl ⊢
  have hl : lv_has ls 1 [(0, .ref h0)] := hl
  refine lv_aload_n hx hb d_Mo_init_0 rfl (lv_at hl 0 rfl) ?_
  refine W.objInit hx hb hown (hB _ hw_889) (hB _ hw_94) (hB _ hw_oc) rfl (by rw [hml]; exact hl.1) rfl d_Mo_init_1 (Nat.le_of_ble_eq_true rfl) (Nat.le_of_ble_eq_true rfl) ?_
  refine W.eq (g2 := F0 m 4 ls []) rfl ?_
  refine lv_aload_n hx hb d_Mo_init_4 rfl (lv_at hl 0 rfl) ?_
  refine lv_sipush (v := 2816) hx hb d_Mo_init_5 (by decide) ?_
  refine va_newa (D := (dC, dI)) (atype := .int) (a0 := (2816, .inl (fun _ => 0))) (ty := .int) hx hb (hB _ hw_131) rfl hK hP hD hS hA (fun _ => rfl) (by decide) (N' := 2816) rfl (by decide) (Nat.le_of_ble_eq_true rfl) (Nat.le_of_ble_eq_true rfl) d_Mo_init_8 (fun q1 cA2 H hK hP hD hS => ?_)
  have hP : va_P (dC, dI) gx_cl [(h0, .inr (9, [.int 0, .null, .null, .null, .int 0, .int 0, .null, .null, .int 0, .int 0, .int 0, .null, .int 0, .int 0, .int 0, .int 0, .null, .int 0, .null, .null, .null, .int 0, .null, .int 0, .null, .null, .null, .null, .null, .int 0, .null, .null, .null, .null, .int 0, .int 0, .int 0, .int 0, .int 0, .int 0, .null, .int 0, .null, .null, .null])), (q1, .inl (cA2, 2816, .inl (fun _ => 0)))] H := hP
  have hD : va_D A [(h0, .inr (9, [.int 0, .null, .null, .null, .int 0, .int 0, .null, .null, .int 0, .int 0, .int 0, .null, .int 0, .int 0, .int 0, .int 0, .null, .int 0, .null, .null, .null, .int 0, .null, .int 0, .null, .null, .null, .null, .null, .int 0, .null, .null, .null, .null, .int 0, .int 0, .int 0, .int 0, .int 0, .int 0, .null, .int 0, .null, .null, .null])), (q1, .inl (cA2, 2816, .inl (fun _ => 0)))] := hD
  have hK : va_K (dC, dI) gx_cl [(cA2, .int)] s := hK
  refine W.widen (k := 1) (n := 2816) (Nat.le_of_ble_eq_true rfl) (Nat.le_of_ble_eq_true rfl) ?_
  refine va_putF (D := (dC, dI)) (ci := 9) (v := .ref q1) (ty := .array .int) (C := RMo) (T := FMo) (N := 45) hx hb hB in_Mo tMo tMo_ok nMo hown hK hP hD hS 0 rfl rfl 1 (by decide) (hB _ hw_891) (fun _ h9 => h9) rfl hin rfl (by decide +kernel) rfl rfl (Nat.le_of_ble_eq_true rfl) d_Mo_init_10 (fun H locs hP hD hS => ?_)
  have hP : va_P (dC, dI) gx_cl [(h0, .inr (9, [.int 0, .ref q1, .null, .null, .int 0, .int 0, .null, .null, .int 0, .int 0, .int 0, .null, .int 0, .int 0, .int 0, .int 0, .null, .int 0, .null, .null, .null, .int 0, .null, .int 0, .null, .null, .null, .null, .null, .int 0, .null, .null, .null, .null, .int 0, .int 0, .int 0, .int 0, .int 0, .int 0, .null, .int 0, .null, .null, .null])), (q1, .inl (cA2, 2816, .inl (fun _ => 0)))] H := hP
  have hD : va_D A [(h0, .inr (9, [.int 0, .ref q1, .null, .null, .int 0, .int 0, .null, .null, .int 0, .int 0, .int 0, .null, .int 0, .int 0, .int 0, .int 0, .null, .int 0, .null, .null, .null, .int 0, .null, .int 0, .null, .null, .null, .null, .null, .int 0, .null, .null, .null, .null, .int 0, .int 0, .int 0, .int 0, .int 0, .int 0, .null, .int 0, .null, .null, .null])), (q1, .inl (cA2, 2816, .inl (fun _ => 0)))] := hD
  refine lv_aload_n hx hb d_Mo_init_13 rfl (lv_at hl 0 rfl) ?_
  refine lv_bipush (v := 44) hx hb d_Mo_init_14 (by decide) ?_
  refine va_newa (D := (dC, dI)) (atype := .boolean) (a0 := (44, .inl (fun _ => 0))) (ty := .boolean) hx hb (hB _ hw_132) rfl hK hP hD hS hA (fun _ => rfl) (by decide) (N' := 44) rfl (by decide) (Nat.le_of_ble_eq_true rfl) (Nat.le_of_ble_eq_true rfl) d_Mo_init_16 (fun q3 cA4 H hK hP hD hS => ?_)
  have hP : va_P (dC, dI) gx_cl [(h0, .inr (9, [.int 0, .ref q1, .null, .null, .int 0, .int 0, .null, .null, .int 0, .int 0, .int 0, .null, .int 0, .int 0, .int 0, .int 0, .null, .int 0, .null, .null, .null, .int 0, .null, .int 0, .null, .null, .null, .null, .null, .int 0, .null, .null, .null, .null, .int 0, .int 0, .int 0, .int 0, .int 0, .int 0, .null, .int 0, .null, .null, .null])), (q1, .inl (cA2, 2816, .inl (fun _ => 0))), (q3, .inl (cA4, 44, .inl (fun _ => 0)))] H := hP
  have hD : va_D A [(h0, .inr (9, [.int 0, .ref q1, .null, .null, .int 0, .int 0, .null, .null, .int 0, .int 0, .int 0, .null, .int 0, .int 0, .int 0, .int 0, .null, .int 0, .null, .null, .null, .int 0, .null, .int 0, .null, .null, .null, .null, .null, .int 0, .null, .null, .null, .null, .int 0, .int 0, .int 0, .int 0, .int 0, .int 0, .null, .int 0, .null, .null, .null])), (q1, .inl (cA2, 2816, .inl (fun _ => 0))), (q3, .inl (cA4, 44, .inl (fun _ => 0)))] := hD
  have hK : va_K (dC, dI) gx_cl [(cA2, .int), (cA4, .boolean)] s := hK
  refine W.widen (k := 2) (n := 2860) (Nat.le_of_ble_eq_true rfl) (Nat.le_of_ble_eq_true rfl) ?_
  refine va_putF (D := (dC, dI)) (ci := 9) (v := .ref q3) (ty := .array .boolean) (C := RMo) (T := FMo) (N := 45) hx hb hB in_Mo tMo tMo_ok nMo hown hK hP hD hS 0 rfl rfl 2 (by decide) (hB _ hw_892) (fun _ h9 => h9) rfl hin rfl (by decide +kernel) rfl rfl (Nat.le_of_ble_eq_true rfl) d_Mo_init_18 (fun H locs hP hD hS => ?_)
  have hP : va_P (dC, dI) gx_cl [(h0, .inr (9, [.int 0, .ref q1, .ref q3, .null, .int 0, .int 0, .null, .null, .int 0, .int 0, .int 0, .null, .int 0, .int 0, .int 0, .int 0, .null, .int 0, .null, .null, .null, .int 0, .null, .int 0, .null, .null, .null, .null, .null, .int 0, .null, .null, .null, .null, .int 0, .int 0, .int 0, .int 0, .int 0, .int 0, .null, .int 0, .null, .null, .null])), (q1, .inl (cA2, 2816, .inl (fun _ => 0))), (q3, .inl (cA4, 44, .inl (fun _ => 0)))] H := hP
  have hD : va_D A [(h0, .inr (9, [.int 0, .ref q1, .ref q3, .null, .int 0, .int 0, .null, .null, .int 0, .int 0, .int 0, .null, .int 0, .int 0, .int 0, .int 0, .null, .int 0, .null, .null, .null, .int 0, .null, .int 0, .null, .null, .null, .null, .null, .int 0, .null, .null, .null, .null, .int 0, .int 0, .int 0, .int 0, .int 0, .int 0, .null, .int 0, .null, .null, .null])), (q1, .inl (cA2, 2816, .inl (fun _ => 0))), (q3, .inl (cA4, 44, .inl (fun _ => 0)))] := hD
  refine lv_aload_n hx hb d_Mo_init_21 rfl (lv_at hl 0 rfl) ?_
  refine lv_sipush (v := 192) hx hb d_Mo_init_22 (by decide) ?_
  refine va_newa (D := (dC, dI)) (atype := .int) (a0 := (192, .inl (fun _ => 0))) (ty := .int) hx hb (hB _ hw_131) rfl hK hP hD hS hA (fun _ => rfl) (by decide) (N' := 192) rfl (by decide) (Nat.le_of_ble_eq_true rfl) (Nat.le_of_ble_eq_true rfl) d_Mo_init_25 (fun q5 cA6 H hK hP hD hS => ?_)
  have hP : va_P (dC, dI) gx_cl [(h0, .inr (9, [.int 0, .ref q1, .ref q3, .null, .int 0, .int 0, .null, .null, .int 0, .int 0, .int 0, .null, .int 0, .int 0, .int 0, .int 0, .null, .int 0, .null, .null, .null, .int 0, .null, .int 0, .null, .null, .null, .null, .null, .int 0, .null, .null, .null, .null, .int 0, .int 0, .int 0, .int 0, .int 0, .int 0, .null, .int 0, .null, .null, .null])), (q1, .inl (cA2, 2816, .inl (fun _ => 0))), (q3, .inl (cA4, 44, .inl (fun _ => 0))), (q5, .inl (cA6, 192, .inl (fun _ => 0)))] H := hP
  have hD : va_D A [(h0, .inr (9, [.int 0, .ref q1, .ref q3, .null, .int 0, .int 0, .null, .null, .int 0, .int 0, .int 0, .null, .int 0, .int 0, .int 0, .int 0, .null, .int 0, .null, .null, .null, .int 0, .null, .int 0, .null, .null, .null, .null, .null, .int 0, .null, .null, .null, .null, .int 0, .int 0, .int 0, .int 0, .int 0, .int 0, .null, .int 0, .null, .null, .null])), (q1, .inl (cA2, 2816, .inl (fun _ => 0))), (q3, .inl (cA4, 44, .inl (fun _ => 0))), (q5, .inl (cA6, 192, .inl (fun _ => 0)))] := hD
  have hK : va_K (dC, dI) gx_cl [(cA2, .int), (cA4, .boolean), (cA6, .int)] s := hK
  refine W.widen (k := 3) (n := 3052) (Nat.le_of_ble_eq_true rfl) (Nat.le_of_ble_eq_true rfl) ?_
  refine va_putF (D := (dC, dI)) (ci := 9) (v := .ref q5) (ty := .array .int) (C := RMo) (T := FMo) (N := 45) hx hb hB in_Mo tMo tMo_ok nMo hown hK hP hD hS 0 rfl rfl 3 (by decide) (hB _ hw_893) (fun _ h9 => h9) rfl hin rfl (by decide +kernel) rfl rfl (Nat.le_of_ble_eq_true rfl) d_Mo_init_27 (fun H locs hP hD hS => ?_)
  have hP : va_P (dC, dI) gx_cl [(h0, .inr (9, [.int 0, .ref q1, .ref q3, .ref q5, .int 0, .int 0, .null, .null, .int 0, .int 0, .int 0, .null, .int 0, .int 0, .int 0, .int 0, .null, .int 0, .null, .null, .null, .int 0, .null, .int 0, .null, .null, .null, .null, .null, .int 0, .null, .null, .null, .null, .int 0, .int 0, .int 0, .int 0, .int 0, .int 0, .null, .int 0, .null, .null, .null])), (q1, .inl (cA2, 2816, .inl (fun _ => 0))), (q3, .inl (cA4, 44, .inl (fun _ => 0))), (q5, .inl (cA6, 192, .inl (fun _ => 0)))] H := hP
  have hD : va_D A [(h0, .inr (9, [.int 0, .ref q1, .ref q3, .ref q5, .int 0, .int 0, .null, .null, .int 0, .int 0, .int 0, .null, .int 0, .int 0, .int 0, .int 0, .null, .int 0, .null, .null, .null, .int 0, .null, .int 0, .null, .null, .null, .null, .null, .int 0, .null, .null, .null, .null, .int 0, .int 0, .int 0, .int 0, .int 0, .int 0, .null, .int 0, .null, .null, .null])), (q1, .inl (cA2, 2816, .inl (fun _ => 0))), (q3, .inl (cA4, 44, .inl (fun _ => 0))), (q5, .inl (cA6, 192, .inl (fun _ => 0)))] := hD
  refine lv_aload_n hx hb d_Mo_init_30 rfl (lv_at hl 0 rfl) ?_
  refine lv_sipush (v := 288) hx hb d_Mo_init_31 (by decide) ?_
  refine va_newa (D := (dC, dI)) (atype := .int) (a0 := (288, .inl (fun _ => 0))) (ty := .int) hx hb (hB _ hw_131) rfl hK hP hD hS hA (fun _ => rfl) (by decide) (N' := 288) rfl (by decide) (Nat.le_of_ble_eq_true rfl) (Nat.le_of_ble_eq_true rfl) d_Mo_init_34 (fun q7 cA8 H hK hP hD hS => ?_)
  have hP : va_P (dC, dI) gx_cl [(h0, .inr (9, [.int 0, .ref q1, .ref q3, .ref q5, .int 0, .int 0, .null, .null, .int 0, .int 0, .int 0, .null, .int 0, .int 0, .int 0, .int 0, .null, .int 0, .null, .null, .null, .int 0, .null, .int 0, .null, .null, .null, .null, .null, .int 0, .null, .null, .null, .null, .int 0, .int 0, .int 0, .int 0, .int 0, .int 0, .null, .int 0, .null, .null, .null])), (q1, .inl (cA2, 2816, .inl (fun _ => 0))), (q3, .inl (cA4, 44, .inl (fun _ => 0))), (q5, .inl (cA6, 192, .inl (fun _ => 0))), (q7, .inl (cA8, 288, .inl (fun _ => 0)))] H := hP
  have hD : va_D A [(h0, .inr (9, [.int 0, .ref q1, .ref q3, .ref q5, .int 0, .int 0, .null, .null, .int 0, .int 0, .int 0, .null, .int 0, .int 0, .int 0, .int 0, .null, .int 0, .null, .null, .null, .int 0, .null, .int 0, .null, .null, .null, .null, .null, .int 0, .null, .null, .null, .null, .int 0, .int 0, .int 0, .int 0, .int 0, .int 0, .null, .int 0, .null, .null, .null])), (q1, .inl (cA2, 2816, .inl (fun _ => 0))), (q3, .inl (cA4, 44, .inl (fun _ => 0))), (q5, .inl (cA6, 192, .inl (fun _ => 0))), (q7, .inl (cA8, 288, .inl (fun _ => 0)))] := hD
  have hK : va_K (dC, dI) gx_cl [(cA2, .int), (cA4, .boolean), (cA6, .int), (cA8, .int)] s := hK
  refine W.widen (k := 4) (n := 3340) (Nat.le_of_ble_eq_true rfl) (Nat.le_of_ble_eq_true rfl) ?_
  refine va_putF (D := (dC, dI)) (ci := 9) (v := .ref q7) (ty := .array .int) (C := RMo) (T := FMo) (N := 45) hx hb hB in_Mo tMo tMo_ok nMo hown hK hP hD hS 0 rfl rfl 6 (by decide) (hB _ hw_896) (fun _ h9 => h9) rfl hin rfl (by decide +kernel) rfl rfl (Nat.le_of_ble_eq_true rfl) d_Mo_init_36 (fun H locs hP hD hS => ?_)
  have hP : va_P (dC, dI) gx_cl [(h0, .inr (9, [.int 0, .ref q1, .ref q3, .ref q5, .int 0, .int 0, .ref q7, .null, .int 0, .int 0, .int 0, .null, .int 0, .int 0, .int 0, .int 0, .null, .int 0, .null, .null, .null, .int 0, .null, .int 0, .null, .null, .null, .null, .null, .int 0, .null, .null, .null, .null, .int 0, .int 0, .int 0, .int 0, .int 0, .int 0, .null, .int 0, .null, .null, .null])), (q1, .inl (cA2, 2816, .inl (fun _ => 0))), (q3, .inl (cA4, 44, .inl (fun _ => 0))), (q5, .inl (cA6, 192, .inl (fun _ => 0))), (q7, .inl (cA8, 288, .inl (fun _ => 0)))] H := hP
  have hD : va_D A [(h0, .inr (9, [.int 0, .ref q1, .ref q3, .ref q5, .int 0, .int 0, .ref q7, .null, .int 0, .int 0, .int 0, .null, .int 0, .int 0, .int 0, .int 0, .null, .int 0, .null, .null, .null, .int 0, .null, .int 0, .null, .null, .null, .null, .null, .int 0, .null, .null, .null, .null, .int 0, .int 0, .int 0, .int 0, .int 0, .int 0, .null, .int 0, .null, .null, .null])), (q1, .inl (cA2, 2816, .inl (fun _ => 0))), (q3, .inl (cA4, 44, .inl (fun _ => 0))), (q5, .inl (cA6, 192, .inl (fun _ => 0))), (q7, .inl (cA8, 288, .inl (fun _ => 0)))] := hD
  have hP := hP.sub (ws' := [(h0, .inr (9, [.int 0, .ref q1, .ref q3, .ref q5, .int 0, .int 0, .ref q7, .null, .int 0, .int 0, .int 0, .null, .int 0, .int 0, .int 0, .int 0, .null, .int 0, .null, .null, .null, .int 0, .null, .int 0, .null, .null, .null, .null, .null, .int 0, .null, .null, .null, .null, .int 0, .int 0, .int 0, .int 0, .int 0, .int 0, .null, .int 0, .null, .null, .null])), (q1, .inl (cA2, 2816, .inl (fun _ => 0))), (q3, .inl (cA4, 44, .inl (fun _ => 0))), (q5, .inl (cA6, 192, .inl (fun _ => 0)))]) [0, 1, 2, 3] rfl
  have hD := hD.sub (ws' := [(h0, .inr (9, [.int 0, .ref q1, .ref q3, .ref q5, .int 0, .int 0, .ref q7, .null, .int 0, .int 0, .int 0, .null, .int 0, .int 0, .int 0, .int 0, .null, .int 0, .null, .null, .null, .int 0, .null, .int 0, .null, .null, .null, .null, .null, .int 0, .null, .null, .null, .null, .int 0, .int 0, .int 0, .int 0, .int 0, .int 0, .null, .int 0, .null, .null, .null])), (q1, .inl (cA2, 2816, .inl (fun _ => 0))), (q3, .inl (cA4, 44, .inl (fun _ => 0))), (q5, .inl (cA6, 192, .inl (fun _ => 0)))]) [0, 1, 2, 3] (by decide) rfl
  have hK := hK.sub (tys' := [(cA2, .int), (cA4, .boolean), (cA6, .int)]) [0, 1, 2] rfl
  refine lv_aload_n hx hb d_Mo_init_39 rfl (lv_at hl 0 rfl) ?_
  refine lv_bipush (v := 10) hx hb d_Mo_init_40 (by decide) ?_
  refine va_newa (D := (dC, dI)) (atype := .boolean) (a0 := (10, .inl (fun _ => 0))) (ty := .boolean) hx hb (hB _ hw_132) rfl hK hP hD hS hA (fun _ => rfl) (by decide) (N' := 10) rfl (by decide) (Nat.le_of_ble_eq_true rfl) (Nat.le_of_ble_eq_true rfl) d_Mo_init_42 (fun q9 cA10 H hK hP hD hS => ?_)
  have hP : va_P (dC, dI) gx_cl [(h0, .inr (9, [.int 0, .ref q1, .ref q3, .ref q5, .int 0, .int 0, .ref q7, .null, .int 0, .int 0, .int 0, .null, .int 0, .int 0, .int 0, .int 0, .null, .int 0, .null, .null, .null, .int 0, .null, .int 0, .null, .null, .null, .null, .null, .int 0, .null, .null, .null, .null, .int 0, .int 0, .int 0, .int 0, .int 0, .int 0, .null, .int 0, .null, .null, .null])), (q1, .inl (cA2, 2816, .inl (fun _ => 0))), (q3, .inl (cA4, 44, .inl (fun _ => 0))), (q5, .inl (cA6, 192, .inl (fun _ => 0))), (q9, .inl (cA10, 10, .inl (fun _ => 0)))] H := hP
  have hD : va_D A [(h0, .inr (9, [.int 0, .ref q1, .ref q3, .ref q5, .int 0, .int 0, .ref q7, .null, .int 0, .int 0, .int 0, .null, .int 0, .int 0, .int 0, .int 0, .null, .int 0, .null, .null, .null, .int 0, .null, .int 0, .null, .null, .null, .null, .null, .int 0, .null, .null, .null, .null, .int 0, .int 0, .int 0, .int 0, .int 0, .int 0, .null, .int 0, .null, .null, .null])), (q1, .inl (cA2, 2816, .inl (fun _ => 0))), (q3, .inl (cA4, 44, .inl (fun _ => 0))), (q5, .inl (cA6, 192, .inl (fun _ => 0))), (q9, .inl (cA10, 10, .inl (fun _ => 0)))] := hD
  have hK : va_K (dC, dI) gx_cl [(cA2, .int), (cA4, .boolean), (cA6, .int), (cA10, .boolean)] s := hK
  refine W.widen (k := 5) (n := 3350) (Nat.le_of_ble_eq_true rfl) (Nat.le_of_ble_eq_true rfl) ?_
  refine va_putF (D := (dC, dI)) (ci := 9) (v := .ref q9) (ty := .array .boolean) (C := RMo) (T := FMo) (N := 45) hx hb hB in_Mo tMo tMo_ok nMo hown hK hP hD hS 0 rfl rfl 7 (by decide) (hB _ hw_897) (fun _ h9 => h9) rfl hin rfl (by decide +kernel) rfl rfl (Nat.le_of_ble_eq_true rfl) d_Mo_init_44 (fun H locs hP hD hS => ?_)
  have hP : va_P (dC, dI) gx_cl [(h0, .inr (9, [.int 0, .ref q1, .ref q3, .ref q5, .int 0, .int 0, .ref q7, .ref q9, .int 0, .int 0, .int 0, .null, .int 0, .int 0, .int 0, .int 0, .null, .int 0, .null, .null, .null, .int 0, .null, .int 0, .null, .null, .null, .null, .null, .int 0, .null, .null, .null, .null, .int 0, .int 0, .int 0, .int 0, .int 0, .int 0, .null, .int 0, .null, .null, .null])), (q1, .inl (cA2, 2816, .inl (fun _ => 0))), (q3, .inl (cA4, 44, .inl (fun _ => 0))), (q5, .inl (cA6, 192, .inl (fun _ => 0))), (q9, .inl (cA10, 10, .inl (fun _ => 0)))] H := hP
  have hD : va_D A [(h0, .inr (9, [.int 0, .ref q1, .ref q3, .ref q5, .int 0, .int 0, .ref q7, .ref q9, .int 0, .int 0, .int 0, .null, .int 0, .int 0, .int 0, .int 0, .null, .int 0, .null, .null, .null, .int 0, .null, .int 0, .null, .null, .null, .null, .null, .int 0, .null, .null, .null, .null, .int 0, .int 0, .int 0, .int 0, .int 0, .int 0, .null, .int 0, .null, .null, .null])), (q1, .inl (cA2, 2816, .inl (fun _ => 0))), (q3, .inl (cA4, 44, .inl (fun _ => 0))), (q5, .inl (cA6, 192, .inl (fun _ => 0))), (q9, .inl (cA10, 10, .inl (fun _ => 0)))] := hD
  refine lv_aload_n hx hb d_Mo_init_47 rfl (lv_at hl 0 rfl) ?_
  refine lv_sipush (v := 768) hx hb d_Mo_init_48 (by decide) ?_
  refine va_newa (D := (dC, dI)) (atype := .int) (a0 := (768, .inl (fun _ => 0))) (ty := .int) hx hb (hB _ hw_131) rfl hK hP hD hS hA (fun _ => rfl) (by decide) (N' := 768) rfl (by decide) (Nat.le_of_ble_eq_true rfl) (Nat.le_of_ble_eq_true rfl) d_Mo_init_51 (fun q11 cA12 H hK hP hD hS => ?_)
  have hP : va_P (dC, dI) gx_cl [(h0, .inr (9, [.int 0, .ref q1, .ref q3, .ref q5, .int 0, .int 0, .ref q7, .ref q9, .int 0, .int 0, .int 0, .null, .int 0, .int 0, .int 0, .int 0, .null, .int 0, .null, .null, .null, .int 0, .null, .int 0, .null, .null, .null, .null, .null, .int 0, .null, .null, .null, .null, .int 0, .int 0, .int 0, .int 0, .int 0, .int 0, .null, .int 0, .null, .null, .null])), (q1, .inl (cA2, 2816, .inl (fun _ => 0))), (q3, .inl (cA4, 44, .inl (fun _ => 0))), (q5, .inl (cA6, 192, .inl (fun _ => 0))), (q9, .inl (cA10, 10, .inl (fun _ => 0))), (q11, .inl (cA12, 768, .inl (fun _ => 0)))] H := hP
  have hD : va_D A [(h0, .inr (9, [.int 0, .ref q1, .ref q3, .ref q5, .int 0, .int 0, .ref q7, .ref q9, .int 0, .int 0, .int 0, .null, .int 0, .int 0, .int 0, .int 0, .null, .int 0, .null, .null, .null, .int 0, .null, .int 0, .null, .null, .null, .null, .null, .int 0, .null, .null, .null, .null, .int 0, .int 0, .int 0, .int 0, .int 0, .int 0, .null, .int 0, .null, .null, .null])), (q1, .inl (cA2, 2816, .inl (fun _ => 0))), (q3, .inl (cA4, 44, .inl (fun _ => 0))), (q5, .inl (cA6, 192, .inl (fun _ => 0))), (q9, .inl (cA10, 10, .inl (fun _ => 0))), (q11, .inl (cA12, 768, .inl (fun _ => 0)))] := hD
  have hK : va_K (dC, dI) gx_cl [(cA2, .int), (cA4, .boolean), (cA6, .int), (cA10, .boolean), (cA12, .int)] s := hK
  refine W.widen (k := 6) (n := 4118) (Nat.le_of_ble_eq_true rfl) (Nat.le_of_ble_eq_true rfl) ?_
  refine va_putF (D := (dC, dI)) (ci := 9) (v := .ref q11) (ty := .array .int) (C := RMo) (T := FMo) (N := 45) hx hb hB in_Mo tMo tMo_ok nMo hown hK hP hD hS 0 rfl rfl 11 (by decide) (hB _ hw_901) (fun _ h9 => h9) rfl hin rfl (by decide +kernel) rfl rfl (Nat.le_of_ble_eq_true rfl) d_Mo_init_53 (fun H locs hP hD hS => ?_)
  have hP : va_P (dC, dI) gx_cl [(h0, .inr (9, [.int 0, .ref q1, .ref q3, .ref q5, .int 0, .int 0, .ref q7, .ref q9, .int 0, .int 0, .int 0, .ref q11, .int 0, .int 0, .int 0, .int 0, .null, .int 0, .null, .null, .null, .int 0, .null, .int 0, .null, .null, .null, .null, .null, .int 0, .null, .null, .null, .null, .int 0, .int 0, .int 0, .int 0, .int 0, .int 0, .null, .int 0, .null, .null, .null])), (q1, .inl (cA2, 2816, .inl (fun _ => 0))), (q3, .inl (cA4, 44, .inl (fun _ => 0))), (q5, .inl (cA6, 192, .inl (fun _ => 0))), (q9, .inl (cA10, 10, .inl (fun _ => 0))), (q11, .inl (cA12, 768, .inl (fun _ => 0)))] H := hP
  have hD : va_D A [(h0, .inr (9, [.int 0, .ref q1, .ref q3, .ref q5, .int 0, .int 0, .ref q7, .ref q9, .int 0, .int 0, .int 0, .ref q11, .int 0, .int 0, .int 0, .int 0, .null, .int 0, .null, .null, .null, .int 0, .null, .int 0, .null, .null, .null, .null, .null, .int 0, .null, .null, .null, .null, .int 0, .int 0, .int 0, .int 0, .int 0, .int 0, .null, .int 0, .null, .null, .null])), (q1, .inl (cA2, 2816, .inl (fun _ => 0))), (q3, .inl (cA4, 44, .inl (fun _ => 0))), (q5, .inl (cA6, 192, .inl (fun _ => 0))), (q9, .inl (cA10, 10, .inl (fun _ => 0))), (q11, .inl (cA12, 768, .inl (fun _ => 0)))] := hD
  have hP := hP.sub (ws' := [(h0, .inr (9, [.int 0, .ref q1, .ref q3, .ref q5, .int 0, .int 0, .ref q7, .ref q9, .int 0, .int 0, .int 0, .ref q11, .int 0, .int 0, .int 0, .int 0, .null, .int 0, .null, .null, .null, .int 0, .null, .int 0, .null, .null, .null, .null, .null, .int 0, .null, .null, .null, .null, .int 0, .int 0, .int 0, .int 0, .int 0, .int 0, .null, .int 0, .null, .null, .null])), (q1, .inl (cA2, 2816, .inl (fun _ => 0))), (q3, .inl (cA4, 44, .inl (fun _ => 0))), (q5, .inl (cA6, 192, .inl (fun _ => 0))), (q9, .inl (cA10, 10, .inl (fun _ => 0)))]) [0, 1, 2, 3, 4] rfl
  have hD := hD.sub (ws' := [(h0, .inr (9, [.int 0, .ref q1, .ref q3, .ref q5, .int 0, .int 0, .ref q7, .ref q9, .int 0, .int 0, .int 0, .ref q11, .int 0, .int 0, .int 0, .int 0, .null, .int 0, .null, .null, .null, .int 0, .null, .int 0, .null, .null, .null, .null, .null, .int 0, .null, .null, .null, .null, .int 0, .int 0, .int 0, .int 0, .int 0, .int 0, .null, .int 0, .null, .null, .null])), (q1, .inl (cA2, 2816, .inl (fun _ => 0))), (q3, .inl (cA4, 44, .inl (fun _ => 0))), (q5, .inl (cA6, 192, .inl (fun _ => 0))), (q9, .inl (cA10, 10, .inl (fun _ => 0)))]) [0, 1, 2, 3, 4] (by decide) rfl
  have hK := hK.sub (tys' := [(cA2, .int), (cA4, .boolean), (cA6, .int), (cA10, .boolean)]) [0, 1, 2, 3] rfl
  refine lv_aload_n hx hb d_Mo_init_56 rfl (lv_at hl 0 rfl) ?_
  refine lv_iconst (v := (-1)) hx hb d_Mo_init_57 (by decide) ?_
  refine va_put (D := (dC, dI)) (ci := 9) (v := .int (-1)) (ty := .int) (C := RMo) (T := FMo) (N := 45) hx hb hB in_Mo tMo tMo_ok nMo hown hK hP hD hS 0 rfl rfl 14 (by decide) (hB _ hw_904) (fun _ h9 => h9) rfl (by decide +kernel) rfl rfl (Nat.le_of_ble_eq_true rfl) d_Mo_init_58 (fun H locs hP hD hS => ?_)
  have hP : va_P (dC, dI) gx_cl [(h0, .inr (9, [.int 0, .ref q1, .ref q3, .ref q5, .int 0, .int 0, .ref q7, .ref q9, .int 0, .int 0, .int 0, .ref q11, .int 0, .int 0, .int (-1), .int 0, .null, .int 0, .null, .null, .null, .int 0, .null, .int 0, .null, .null, .null, .null, .null, .int 0, .null, .null, .null, .null, .int 0, .int 0, .int 0, .int 0, .int 0, .int 0, .null, .int 0, .null, .null, .null])), (q1, .inl (cA2, 2816, .inl (fun _ => 0))), (q3, .inl (cA4, 44, .inl (fun _ => 0))), (q5, .inl (cA6, 192, .inl (fun _ => 0))), (q9, .inl (cA10, 10, .inl (fun _ => 0)))] H := hP
  have hD : va_D A [(h0, .inr (9, [.int 0, .ref q1, .ref q3, .ref q5, .int 0, .int 0, .ref q7, .ref q9, .int 0, .int 0, .int 0, .ref q11, .int 0, .int 0, .int (-1), .int 0, .null, .int 0, .null, .null, .null, .int 0, .null, .int 0, .null, .null, .null, .null, .null, .int 0, .null, .null, .null, .null, .int 0, .int 0, .int 0, .int 0, .int 0, .int 0, .null, .int 0, .null, .null, .null])), (q1, .inl (cA2, 2816, .inl (fun _ => 0))), (q3, .inl (cA4, 44, .inl (fun _ => 0))), (q5, .inl (cA6, 192, .inl (fun _ => 0))), (q9, .inl (cA10, 10, .inl (fun _ => 0)))] := hD
  refine lv_aload_n hx hb d_Mo_init_61 rfl (lv_at hl 0 rfl) ?_
  refine lv_sipush (v := 768) hx hb d_Mo_init_62 (by decide) ?_
  refine va_newa (D := (dC, dI)) (atype := .int) (a0 := (768, .inl (fun _ => 0))) (ty := .int) hx hb (hB _ hw_131) rfl hK hP hD hS hA (fun _ => rfl) (by decide) (N' := 768) rfl (by decide) (Nat.le_of_ble_eq_true rfl) (Nat.le_of_ble_eq_true rfl) d_Mo_init_65 (fun q13 cA14 H hK hP hD hS => ?_)
  have hP : va_P (dC, dI) gx_cl [(h0, .inr (9, [.int 0, .ref q1, .ref q3, .ref q5, .int 0, .int 0, .ref q7, .ref q9, .int 0, .int 0, .int 0, .ref q11, .int 0, .int 0, .int (-1), .int 0, .null, .int 0, .null, .null, .null, .int 0, .null, .int 0, .null, .null, .null, .null, .null, .int 0, .null, .null, .null, .null, .int 0, .int 0, .int 0, .int 0, .int 0, .int 0, .null, .int 0, .null, .null, .null])), (q1, .inl (cA2, 2816, .inl (fun _ => 0))), (q3, .inl (cA4, 44, .inl (fun _ => 0))), (q5, .inl (cA6, 192, .inl (fun _ => 0))), (q9, .inl (cA10, 10, .inl (fun _ => 0))), (q13, .inl (cA14, 768, .inl (fun _ => 0)))] H := hP
  have hD : va_D A [(h0, .inr (9, [.int 0, .ref q1, .ref q3, .ref q5, .int 0, .int 0, .ref q7, .ref q9, .int 0, .int 0, .int 0, .ref q11, .int 0, .int 0, .int (-1), .int 0, .null, .int 0, .null, .null, .null, .int 0, .null, .int 0, .null, .null, .null, .null, .null, .int 0, .null, .null, .null, .null, .int 0, .int 0, .int 0, .int 0, .int 0, .int 0, .null, .int 0, .null, .null, .null])), (q1, .inl (cA2, 2816, .inl (fun _ => 0))), (q3, .inl (cA4, 44, .inl (fun _ => 0))), (q5, .inl (cA6, 192, .inl (fun _ => 0))), (q9, .inl (cA10, 10, .inl (fun _ => 0))), (q13, .inl (cA14, 768, .inl (fun _ => 0)))] := hD
  have hK : va_K (dC, dI) gx_cl [(cA2, .int), (cA4, .boolean), (cA6, .int), (cA10, .boolean), (cA14, .int)] s := hK
  refine W.widen (k := 7) (n := 4886) (Nat.le_of_ble_eq_true rfl) (Nat.le_of_ble_eq_true rfl) ?_
  refine va_putF (D := (dC, dI)) (ci := 9) (v := .ref q13) (ty := .array .int) (C := RMo) (T := FMo) (N := 45) hx hb hB in_Mo tMo tMo_ok nMo hown hK hP hD hS 0 rfl rfl 16 (by decide) (hB _ hw_906) (fun _ h9 => h9) rfl hin rfl (by decide +kernel) rfl rfl (Nat.le_of_ble_eq_true rfl) d_Mo_init_67 (fun H locs hP hD hS => ?_)
  have hP : va_P (dC, dI) gx_cl [(h0, .inr (9, [.int 0, .ref q1, .ref q3, .ref q5, .int 0, .int 0, .ref q7, .ref q9, .int 0, .int 0, .int 0, .ref q11, .int 0, .int 0, .int (-1), .int 0, .ref q13, .int 0, .null, .null, .null, .int 0, .null, .int 0, .null, .null, .null, .null, .null, .int 0, .null, .null, .null, .null, .int 0, .int 0, .int 0, .int 0, .int 0, .int 0, .null, .int 0, .null, .null, .null])), (q1, .inl (cA2, 2816, .inl (fun _ => 0))), (q3, .inl (cA4, 44, .inl (fun _ => 0))), (q5, .inl (cA6, 192, .inl (fun _ => 0))), (q9, .inl (cA10, 10, .inl (fun _ => 0))), (q13, .inl (cA14, 768, .inl (fun _ => 0)))] H := hP
  have hD : va_D A [(h0, .inr (9, [.int 0, .ref q1, .ref q3, .ref q5, .int 0, .int 0, .ref q7, .ref q9, .int 0, .int 0, .int 0, .ref q11, .int 0, .int 0, .int (-1), .int 0, .ref q13, .int 0, .null, .null, .null, .int 0, .null, .int 0, .null, .null, .null, .null, .null, .int 0, .null, .null, .null, .null, .int 0, .int 0, .int 0, .int 0, .int 0, .int 0, .null, .int 0, .null, .null, .null])), (q1, .inl (cA2, 2816, .inl (fun _ => 0))), (q3, .inl (cA4, 44, .inl (fun _ => 0))), (q5, .inl (cA6, 192, .inl (fun _ => 0))), (q9, .inl (cA10, 10, .inl (fun _ => 0))), (q13, .inl (cA14, 768, .inl (fun _ => 0)))] := hD
  have hP := hP.sub (ws' := [(h0, .inr (9, [.int 0, .ref q1, .ref q3, .ref q5, .int 0, .int 0, .ref q7, .ref q9, .int 0, .int 0, .int 0, .ref q11, .int 0, .int 0, .int (-1), .int 0, .ref q13, .int 0, .null, .null, .null, .int 0, .null, .int 0, .null, .null, .null, .null, .null, .int 0, .null, .null, .null, .null, .int 0, .int 0, .int 0, .int 0, .int 0, .int 0, .null, .int 0, .null, .null, .null])), (q1, .inl (cA2, 2816, .inl (fun _ => 0))), (q3, .inl (cA4, 44, .inl (fun _ => 0))), (q5, .inl (cA6, 192, .inl (fun _ => 0))), (q9, .inl (cA10, 10, .inl (fun _ => 0)))]) [0, 1, 2, 3, 4] rfl
  have hD := hD.sub (ws' := [(h0, .inr (9, [.int 0, .ref q1, .ref q3, .ref q5, .int 0, .int 0, .ref q7, .ref q9, .int 0, .int 0, .int 0, .ref q11, .int 0, .int 0, .int (-1), .int 0, .ref q13, .int 0, .null, .null, .null, .int 0, .null, .int 0, .null, .null, .null, .null, .null, .int 0, .null, .null, .null, .null, .int 0, .int 0, .int 0, .int 0, .int 0, .int 0, .null, .int 0, .null, .null, .null])), (q1, .inl (cA2, 2816, .inl (fun _ => 0))), (q3, .inl (cA4, 44, .inl (fun _ => 0))), (q5, .inl (cA6, 192, .inl (fun _ => 0))), (q9, .inl (cA10, 10, .inl (fun _ => 0)))]) [0, 1, 2, 3, 4] (by decide) rfl
  have hK := hK.sub (tys' := [(cA2, .int), (cA4, .boolean), (cA6, .int), (cA10, .boolean)]) [0, 1, 2, 3] rfl
  refine lv_aload_n hx hb d_Mo_init_70 rfl (lv_at hl 0 rfl) ?_
  refine lv_bipush (v := 32) hx hb d_Mo_init_71 (by decide) ?_
  refine va_newa (D := (dC, dI)) (atype := .int) (a0 := (32, .inl (fun _ => 0))) (ty := .int) hx hb (hB _ hw_131) rfl hK hP hD hS hA (fun _ => rfl) (by decide) (N' := 32) rfl (by decide) (Nat.le_of_ble_eq_true rfl) (Nat.le_of_ble_eq_true rfl) d_Mo_init_73 (fun q15 cA16 H hK hP hD hS => ?_)
  have hP : va_P (dC, dI) gx_cl [(h0, .inr (9, [.int 0, .ref q1, .ref q3, .ref q5, .int 0, .int 0, .ref q7, .ref q9, .int 0, .int 0, .int 0, .ref q11, .int 0, .int 0, .int (-1), .int 0, .ref q13, .int 0, .null, .null, .null, .int 0, .null, .int 0, .null, .null, .null, .null, .null, .int 0, .null, .null, .null, .null, .int 0, .int 0, .int 0, .int 0, .int 0, .int 0, .null, .int 0, .null, .null, .null])), (q1, .inl (cA2, 2816, .inl (fun _ => 0))), (q3, .inl (cA4, 44, .inl (fun _ => 0))), (q5, .inl (cA6, 192, .inl (fun _ => 0))), (q9, .inl (cA10, 10, .inl (fun _ => 0))), (q15, .inl (cA16, 32, .inl (fun _ => 0)))] H := hP
  have hD : va_D A [(h0, .inr (9, [.int 0, .ref q1, .ref q3, .ref q5, .int 0, .int 0, .ref q7, .ref q9, .int 0, .int 0, .int 0, .ref q11, .int 0, .int 0, .int (-1), .int 0, .ref q13, .int 0, .null, .null, .null, .int 0, .null, .int 0, .null, .null, .null, .null, .null, .int 0, .null, .null, .null, .null, .int 0, .int 0, .int 0, .int 0, .int 0, .int 0, .null, .int 0, .null, .null, .null])), (q1, .inl (cA2, 2816, .inl (fun _ => 0))), (q3, .inl (cA4, 44, .inl (fun _ => 0))), (q5, .inl (cA6, 192, .inl (fun _ => 0))), (q9, .inl (cA10, 10, .inl (fun _ => 0))), (q15, .inl (cA16, 32, .inl (fun _ => 0)))] := hD
  have hK : va_K (dC, dI) gx_cl [(cA2, .int), (cA4, .boolean), (cA6, .int), (cA10, .boolean), (cA16, .int)] s := hK
  refine W.widen (k := 8) (n := 4918) (Nat.le_of_ble_eq_true rfl) (Nat.le_of_ble_eq_true rfl) ?_
  refine va_putF (D := (dC, dI)) (ci := 9) (v := .ref q15) (ty := .array .int) (C := RMo) (T := FMo) (N := 45) hx hb hB in_Mo tMo tMo_ok nMo hown hK hP hD hS 0 rfl rfl 18 (by decide) (hB _ hw_908) (fun _ h9 => h9) rfl hin rfl (by decide +kernel) rfl rfl (Nat.le_of_ble_eq_true rfl) d_Mo_init_75 (fun H locs hP hD hS => ?_)
  have hP : va_P (dC, dI) gx_cl [(h0, .inr (9, [.int 0, .ref q1, .ref q3, .ref q5, .int 0, .int 0, .ref q7, .ref q9, .int 0, .int 0, .int 0, .ref q11, .int 0, .int 0, .int (-1), .int 0, .ref q13, .int 0, .ref q15, .null, .null, .int 0, .null, .int 0, .null, .null, .null, .null, .null, .int 0, .null, .null, .null, .null, .int 0, .int 0, .int 0, .int 0, .int 0, .int 0, .null, .int 0, .null, .null, .null])), (q1, .inl (cA2, 2816, .inl (fun _ => 0))), (q3, .inl (cA4, 44, .inl (fun _ => 0))), (q5, .inl (cA6, 192, .inl (fun _ => 0))), (q9, .inl (cA10, 10, .inl (fun _ => 0))), (q15, .inl (cA16, 32, .inl (fun _ => 0)))] H := hP
  have hD : va_D A [(h0, .inr (9, [.int 0, .ref q1, .ref q3, .ref q5, .int 0, .int 0, .ref q7, .ref q9, .int 0, .int 0, .int 0, .ref q11, .int 0, .int 0, .int (-1), .int 0, .ref q13, .int 0, .ref q15, .null, .null, .int 0, .null, .int 0, .null, .null, .null, .null, .null, .int 0, .null, .null, .null, .null, .int 0, .int 0, .int 0, .int 0, .int 0, .int 0, .null, .int 0, .null, .null, .null])), (q1, .inl (cA2, 2816, .inl (fun _ => 0))), (q3, .inl (cA4, 44, .inl (fun _ => 0))), (q5, .inl (cA6, 192, .inl (fun _ => 0))), (q9, .inl (cA10, 10, .inl (fun _ => 0))), (q15, .inl (cA16, 32, .inl (fun _ => 0)))] := hD
  have hP := hP.sub (ws' := [(h0, .inr (9, [.int 0, .ref q1, .ref q3, .ref q5, .int 0, .int 0, .ref q7, .ref q9, .int 0, .int 0, .int 0, .ref q11, .int 0, .int 0, .int (-1), .int 0, .ref q13, .int 0, .ref q15, .null, .null, .int 0, .null, .int 0, .null, .null, .null, .null, .null, .int 0, .null, .null, .null, .null, .int 0, .int 0, .int 0, .int 0, .int 0, .int 0, .null, .int 0, .null, .null, .null])), (q1, .inl (cA2, 2816, .inl (fun _ => 0))), (q3, .inl (cA4, 44, .inl (fun _ => 0))), (q5, .inl (cA6, 192, .inl (fun _ => 0))), (q9, .inl (cA10, 10, .inl (fun _ => 0)))]) [0, 1, 2, 3, 4] rfl
  have hD := hD.sub (ws' := [(h0, .inr (9, [.int 0, .ref q1, .ref q3, .ref q5, .int 0, .int 0, .ref q7, .ref q9, .int 0, .int 0, .int 0, .ref q11, .int 0, .int 0, .int (-1), .int 0, .ref q13, .int 0, .ref q15, .null, .null, .int 0, .null, .int 0, .null, .null, .null, .null, .null, .int 0, .null, .null, .null, .null, .int 0, .int 0, .int 0, .int 0, .int 0, .int 0, .null, .int 0, .null, .null, .null])), (q1, .inl (cA2, 2816, .inl (fun _ => 0))), (q3, .inl (cA4, 44, .inl (fun _ => 0))), (q5, .inl (cA6, 192, .inl (fun _ => 0))), (q9, .inl (cA10, 10, .inl (fun _ => 0)))]) [0, 1, 2, 3, 4] (by decide) rfl
  have hK := hK.sub (tys' := [(cA2, .int), (cA4, .boolean), (cA6, .int), (cA10, .boolean)]) [0, 1, 2, 3] rfl
  refine lv_aload_n hx hb d_Mo_init_78 rfl (lv_at hl 0 rfl) ?_
  refine lv_bipush (v := 12) hx hb d_Mo_init_79 (by decide) ?_
  refine va_newa (D := (dC, dI)) (atype := .int) (a0 := (12, .inl (fun _ => 0))) (ty := .int) hx hb (hB _ hw_131) rfl hK hP hD hS hA (fun _ => rfl) (by decide) (N' := 12) rfl (by decide) (Nat.le_of_ble_eq_true rfl) (Nat.le_of_ble_eq_true rfl) d_Mo_init_81 (fun q17 cA18 H hK hP hD hS => ?_)
  have hP : va_P (dC, dI) gx_cl [(h0, .inr (9, [.int 0, .ref q1, .ref q3, .ref q5, .int 0, .int 0, .ref q7, .ref q9, .int 0, .int 0, .int 0, .ref q11, .int 0, .int 0, .int (-1), .int 0, .ref q13, .int 0, .ref q15, .null, .null, .int 0, .null, .int 0, .null, .null, .null, .null, .null, .int 0, .null, .null, .null, .null, .int 0, .int 0, .int 0, .int 0, .int 0, .int 0, .null, .int 0, .null, .null, .null])), (q1, .inl (cA2, 2816, .inl (fun _ => 0))), (q3, .inl (cA4, 44, .inl (fun _ => 0))), (q5, .inl (cA6, 192, .inl (fun _ => 0))), (q9, .inl (cA10, 10, .inl (fun _ => 0))), (q17, .inl (cA18, 12, .inl (fun _ => 0)))] H := hP
  have hD : va_D A [(h0, .inr (9, [.int 0, .ref q1, .ref q3, .ref q5, .int 0, .int 0, .ref q7, .ref q9, .int 0, .int 0, .int 0, .ref q11, .int 0, .int 0, .int (-1), .int 0, .ref q13, .int 0, .ref q15, .null, .null, .int 0, .null, .int 0, .null, .null, .null, .null, .null, .int 0, .null, .null, .null, .null, .int 0, .int 0, .int 0, .int 0, .int 0, .int 0, .null, .int 0, .null, .null, .null])), (q1, .inl (cA2, 2816, .inl (fun _ => 0))), (q3, .inl (cA4, 44, .inl (fun _ => 0))), (q5, .inl (cA6, 192, .inl (fun _ => 0))), (q9, .inl (cA10, 10, .inl (fun _ => 0))), (q17, .inl (cA18, 12, .inl (fun _ => 0)))] := hD
  have hK : va_K (dC, dI) gx_cl [(cA2, .int), (cA4, .boolean), (cA6, .int), (cA10, .boolean), (cA18, .int)] s := hK
  refine W.widen (k := 9) (n := 4930) (Nat.le_of_ble_eq_true rfl) (Nat.le_of_ble_eq_true rfl) ?_
  refine va_putF (D := (dC, dI)) (ci := 9) (v := .ref q17) (ty := .array .int) (C := RMo) (T := FMo) (N := 45) hx hb hB in_Mo tMo tMo_ok nMo hown hK hP hD hS 0 rfl rfl 19 (by decide) (hB _ hw_909) (fun _ h9 => h9) rfl hin rfl (by decide +kernel) rfl rfl (Nat.le_of_ble_eq_true rfl) d_Mo_init_83 (fun H locs hP hD hS => ?_)
  have hP : va_P (dC, dI) gx_cl [(h0, .inr (9, [.int 0, .ref q1, .ref q3, .ref q5, .int 0, .int 0, .ref q7, .ref q9, .int 0, .int 0, .int 0, .ref q11, .int 0, .int 0, .int (-1), .int 0, .ref q13, .int 0, .ref q15, .ref q17, .null, .int 0, .null, .int 0, .null, .null, .null, .null, .null, .int 0, .null, .null, .null, .null, .int 0, .int 0, .int 0, .int 0, .int 0, .int 0, .null, .int 0, .null, .null, .null])), (q1, .inl (cA2, 2816, .inl (fun _ => 0))), (q3, .inl (cA4, 44, .inl (fun _ => 0))), (q5, .inl (cA6, 192, .inl (fun _ => 0))), (q9, .inl (cA10, 10, .inl (fun _ => 0))), (q17, .inl (cA18, 12, .inl (fun _ => 0)))] H := hP
  have hD : va_D A [(h0, .inr (9, [.int 0, .ref q1, .ref q3, .ref q5, .int 0, .int 0, .ref q7, .ref q9, .int 0, .int 0, .int 0, .ref q11, .int 0, .int 0, .int (-1), .int 0, .ref q13, .int 0, .ref q15, .ref q17, .null, .int 0, .null, .int 0, .null, .null, .null, .null, .null, .int 0, .null, .null, .null, .null, .int 0, .int 0, .int 0, .int 0, .int 0, .int 0, .null, .int 0, .null, .null, .null])), (q1, .inl (cA2, 2816, .inl (fun _ => 0))), (q3, .inl (cA4, 44, .inl (fun _ => 0))), (q5, .inl (cA6, 192, .inl (fun _ => 0))), (q9, .inl (cA10, 10, .inl (fun _ => 0))), (q17, .inl (cA18, 12, .inl (fun _ => 0)))] := hD
  have hP := hP.sub (ws' := [(h0, .inr (9, [.int 0, .ref q1, .ref q3, .ref q5, .int 0, .int 0, .ref q7, .ref q9, .int 0, .int 0, .int 0, .ref q11, .int 0, .int 0, .int (-1), .int 0, .ref q13, .int 0, .ref q15, .ref q17, .null, .int 0, .null, .int 0, .null, .null, .null, .null, .null, .int 0, .null, .null, .null, .null, .int 0, .int 0, .int 0, .int 0, .int 0, .int 0, .null, .int 0, .null, .null, .null])), (q1, .inl (cA2, 2816, .inl (fun _ => 0))), (q3, .inl (cA4, 44, .inl (fun _ => 0))), (q5, .inl (cA6, 192, .inl (fun _ => 0))), (q9, .inl (cA10, 10, .inl (fun _ => 0)))]) [0, 1, 2, 3, 4] rfl
  have hD := hD.sub (ws' := [(h0, .inr (9, [.int 0, .ref q1, .ref q3, .ref q5, .int 0, .int 0, .ref q7, .ref q9, .int 0, .int 0, .int 0, .ref q11, .int 0, .int 0, .int (-1), .int 0, .ref q13, .int 0, .ref q15, .ref q17, .null, .int 0, .null, .int 0, .null, .null, .null, .null, .null, .int 0, .null, .null, .null, .null, .int 0, .int 0, .int 0, .int 0, .int 0, .int 0, .null, .int 0, .null, .null, .null])), (q1, .inl (cA2, 2816, .inl (fun _ => 0))), (q3, .inl (cA4, 44, .inl (fun _ => 0))), (q5, .inl (cA6, 192, .inl (fun _ => 0))), (q9, .inl (cA10, 10, .inl (fun _ => 0)))]) [0, 1, 2, 3, 4] (by decide) rfl
  have hK := hK.sub (tys' := [(cA2, .int), (cA4, .boolean), (cA6, .int), (cA10, .boolean)]) [0, 1, 2, 3] rfl
  refine lv_aload_n hx hb d_Mo_init_86 rfl (lv_at hl 0 rfl) ?_
  refine lv_bipush (v := 16) hx hb d_Mo_init_87 (by decide) ?_
  refine va_newa (D := (dC, dI)) (atype := .int) (a0 := (16, .inl (fun _ => 0))) (ty := .int) hx hb (hB _ hw_131) rfl hK hP hD hS hA (fun _ => rfl) (by decide) (N' := 16) rfl (by decide) (Nat.le_of_ble_eq_true rfl) (Nat.le_of_ble_eq_true rfl) d_Mo_init_89 (fun q19 cA20 H hK hP hD hS => ?_)
  have hP : va_P (dC, dI) gx_cl [(h0, .inr (9, [.int 0, .ref q1, .ref q3, .ref q5, .int 0, .int 0, .ref q7, .ref q9, .int 0, .int 0, .int 0, .ref q11, .int 0, .int 0, .int (-1), .int 0, .ref q13, .int 0, .ref q15, .ref q17, .null, .int 0, .null, .int 0, .null, .null, .null, .null, .null, .int 0, .null, .null, .null, .null, .int 0, .int 0, .int 0, .int 0, .int 0, .int 0, .null, .int 0, .null, .null, .null])), (q1, .inl (cA2, 2816, .inl (fun _ => 0))), (q3, .inl (cA4, 44, .inl (fun _ => 0))), (q5, .inl (cA6, 192, .inl (fun _ => 0))), (q9, .inl (cA10, 10, .inl (fun _ => 0))), (q19, .inl (cA20, 16, .inl (fun _ => 0)))] H := hP
  have hD : va_D A [(h0, .inr (9, [.int 0, .ref q1, .ref q3, .ref q5, .int 0, .int 0, .ref q7, .ref q9, .int 0, .int 0, .int 0, .ref q11, .int 0, .int 0, .int (-1), .int 0, .ref q13, .int 0, .ref q15, .ref q17, .null, .int 0, .null, .int 0, .null, .null, .null, .null, .null, .int 0, .null, .null, .null, .null, .int 0, .int 0, .int 0, .int 0, .int 0, .int 0, .null, .int 0, .null, .null, .null])), (q1, .inl (cA2, 2816, .inl (fun _ => 0))), (q3, .inl (cA4, 44, .inl (fun _ => 0))), (q5, .inl (cA6, 192, .inl (fun _ => 0))), (q9, .inl (cA10, 10, .inl (fun _ => 0))), (q19, .inl (cA20, 16, .inl (fun _ => 0)))] := hD
  have hK : va_K (dC, dI) gx_cl [(cA2, .int), (cA4, .boolean), (cA6, .int), (cA10, .boolean), (cA20, .int)] s := hK
  refine W.widen (k := 10) (n := 4946) (Nat.le_of_ble_eq_true rfl) (Nat.le_of_ble_eq_true rfl) ?_
  refine va_putF (D := (dC, dI)) (ci := 9) (v := .ref q19) (ty := .array .int) (C := RMo) (T := FMo) (N := 45) hx hb hB in_Mo tMo tMo_ok nMo hown hK hP hD hS 0 rfl rfl 20 (by decide) (hB _ hw_910) (fun _ h9 => h9) rfl hin rfl (by decide +kernel) rfl rfl (Nat.le_of_ble_eq_true rfl) d_Mo_init_91 (fun H locs hP hD hS => ?_)
  have hP : va_P (dC, dI) gx_cl [(h0, .inr (9, [.int 0, .ref q1, .ref q3, .ref q5, .int 0, .int 0, .ref q7, .ref q9, .int 0, .int 0, .int 0, .ref q11, .int 0, .int 0, .int (-1), .int 0, .ref q13, .int 0, .ref q15, .ref q17, .ref q19, .int 0, .null, .int 0, .null, .null, .null, .null, .null, .int 0, .null, .null, .null, .null, .int 0, .int 0, .int 0, .int 0, .int 0, .int 0, .null, .int 0, .null, .null, .null])), (q1, .inl (cA2, 2816, .inl (fun _ => 0))), (q3, .inl (cA4, 44, .inl (fun _ => 0))), (q5, .inl (cA6, 192, .inl (fun _ => 0))), (q9, .inl (cA10, 10, .inl (fun _ => 0))), (q19, .inl (cA20, 16, .inl (fun _ => 0)))] H := hP
  have hD : va_D A [(h0, .inr (9, [.int 0, .ref q1, .ref q3, .ref q5, .int 0, .int 0, .ref q7, .ref q9, .int 0, .int 0, .int 0, .ref q11, .int 0, .int 0, .int (-1), .int 0, .ref q13, .int 0, .ref q15, .ref q17, .ref q19, .int 0, .null, .int 0, .null, .null, .null, .null, .null, .int 0, .null, .null, .null, .null, .int 0, .int 0, .int 0, .int 0, .int 0, .int 0, .null, .int 0, .null, .null, .null])), (q1, .inl (cA2, 2816, .inl (fun _ => 0))), (q3, .inl (cA4, 44, .inl (fun _ => 0))), (q5, .inl (cA6, 192, .inl (fun _ => 0))), (q9, .inl (cA10, 10, .inl (fun _ => 0))), (q19, .inl (cA20, 16, .inl (fun _ => 0)))] := hD
  have hP := hP.sub (ws' := [(h0, .inr (9, [.int 0, .ref q1, .ref q3, .ref q5, .int 0, .int 0, .ref q7, .ref q9, .int 0, .int 0, .int 0, .ref q11, .int 0, .int 0, .int (-1), .int 0, .ref q13, .int 0, .ref q15, .ref q17, .ref q19, .int 0, .null, .int 0, .null, .null, .null, .null, .null, .int 0, .null, .null, .null, .null, .int 0, .int 0, .int 0, .int 0, .int 0, .int 0, .null, .int 0, .null, .null, .null])), (q1, .inl (cA2, 2816, .inl (fun _ => 0))), (q3, .inl (cA4, 44, .inl (fun _ => 0))), (q5, .inl (cA6, 192, .inl (fun _ => 0))), (q9, .inl (cA10, 10, .inl (fun _ => 0)))]) [0, 1, 2, 3, 4] rfl
  have hD := hD.sub (ws' := [(h0, .inr (9, [.int 0, .ref q1, .ref q3, .ref q5, .int 0, .int 0, .ref q7, .ref q9, .int 0, .int 0, .int 0, .ref q11, .int 0, .int 0, .int (-1), .int 0, .ref q13, .int 0, .ref q15, .ref q17, .ref q19, .int 0, .null, .int 0, .null, .null, .null, .null, .null, .int 0, .null, .null, .null, .null, .int 0, .int 0, .int 0, .int 0, .int 0, .int 0, .null, .int 0, .null, .null, .null])), (q1, .inl (cA2, 2816, .inl (fun _ => 0))), (q3, .inl (cA4, 44, .inl (fun _ => 0))), (q5, .inl (cA6, 192, .inl (fun _ => 0))), (q9, .inl (cA10, 10, .inl (fun _ => 0)))]) [0, 1, 2, 3, 4] (by decide) rfl
  have hK := hK.sub (tys' := [(cA2, .int), (cA4, .boolean), (cA6, .int), (cA10, .boolean)]) [0, 1, 2, 3] rfl
  refine lv_aload_n hx hb d_Mo_init_94 rfl (lv_at hl 0 rfl) ?_
  refine lv_bipush (v := 48) hx hb d_Mo_init_95 (by decide) ?_
  refine va_newa (D := (dC, dI)) (atype := .int) (a0 := (48, .inl (fun _ => 0))) (ty := .int) hx hb (hB _ hw_131) rfl hK hP hD hS hA (fun _ => rfl) (by decide) (N' := 48) rfl (by decide) (Nat.le_of_ble_eq_true rfl) (Nat.le_of_ble_eq_true rfl) d_Mo_init_97 (fun q21 cA22 H hK hP hD hS => ?_)
  have hP : va_P (dC, dI) gx_cl [(h0, .inr (9, [.int 0, .ref q1, .ref q3, .ref q5, .int 0, .int 0, .ref q7, .ref q9, .int 0, .int 0, .int 0, .ref q11, .int 0, .int 0, .int (-1), .int 0, .ref q13, .int 0, .ref q15, .ref q17, .ref q19, .int 0, .null, .int 0, .null, .null, .null, .null, .null, .int 0, .null, .null, .null, .null, .int 0, .int 0, .int 0, .int 0, .int 0, .int 0, .null, .int 0, .null, .null, .null])), (q1, .inl (cA2, 2816, .inl (fun _ => 0))), (q3, .inl (cA4, 44, .inl (fun _ => 0))), (q5, .inl (cA6, 192, .inl (fun _ => 0))), (q9, .inl (cA10, 10, .inl (fun _ => 0))), (q21, .inl (cA22, 48, .inl (fun _ => 0)))] H := hP
  have hD : va_D A [(h0, .inr (9, [.int 0, .ref q1, .ref q3, .ref q5, .int 0, .int 0, .ref q7, .ref q9, .int 0, .int 0, .int 0, .ref q11, .int 0, .int 0, .int (-1), .int 0, .ref q13, .int 0, .ref q15, .ref q17, .ref q19, .int 0, .null, .int 0, .null, .null, .null, .null, .null, .int 0, .null, .null, .null, .null, .int 0, .int 0, .int 0, .int 0, .int 0, .int 0, .null, .int 0, .null, .null, .null])), (q1, .inl (cA2, 2816, .inl (fun _ => 0))), (q3, .inl (cA4, 44, .inl (fun _ => 0))), (q5, .inl (cA6, 192, .inl (fun _ => 0))), (q9, .inl (cA10, 10, .inl (fun _ => 0))), (q21, .inl (cA22, 48, .inl (fun _ => 0)))] := hD
  have hK : va_K (dC, dI) gx_cl [(cA2, .int), (cA4, .boolean), (cA6, .int), (cA10, .boolean), (cA22, .int)] s := hK
  refine W.widen (k := 11) (n := 4994) (Nat.le_of_ble_eq_true rfl) (Nat.le_of_ble_eq_true rfl) ?_
  refine va_putF (D := (dC, dI)) (ci := 9) (v := .ref q21) (ty := .array .int) (C := RMo) (T := FMo) (N := 45) hx hb hB in_Mo tMo tMo_ok nMo hown hK hP hD hS 0 rfl rfl 22 (by decide) (hB _ hw_912) (fun _ h9 => h9) rfl hin rfl (by decide +kernel) rfl rfl (Nat.le_of_ble_eq_true rfl) d_Mo_init_99 (fun H locs hP hD hS => ?_)
  have hP : va_P (dC, dI) gx_cl [(h0, .inr (9, [.int 0, .ref q1, .ref q3, .ref q5, .int 0, .int 0, .ref q7, .ref q9, .int 0, .int 0, .int 0, .ref q11, .int 0, .int 0, .int (-1), .int 0, .ref q13, .int 0, .ref q15, .ref q17, .ref q19, .int 0, .ref q21, .int 0, .null, .null, .null, .null, .null, .int 0, .null, .null, .null, .null, .int 0, .int 0, .int 0, .int 0, .int 0, .int 0, .null, .int 0, .null, .null, .null])), (q1, .inl (cA2, 2816, .inl (fun _ => 0))), (q3, .inl (cA4, 44, .inl (fun _ => 0))), (q5, .inl (cA6, 192, .inl (fun _ => 0))), (q9, .inl (cA10, 10, .inl (fun _ => 0))), (q21, .inl (cA22, 48, .inl (fun _ => 0)))] H := hP
  have hD : va_D A [(h0, .inr (9, [.int 0, .ref q1, .ref q3, .ref q5, .int 0, .int 0, .ref q7, .ref q9, .int 0, .int 0, .int 0, .ref q11, .int 0, .int 0, .int (-1), .int 0, .ref q13, .int 0, .ref q15, .ref q17, .ref q19, .int 0, .ref q21, .int 0, .null, .null, .null, .null, .null, .int 0, .null, .null, .null, .null, .int 0, .int 0, .int 0, .int 0, .int 0, .int 0, .null, .int 0, .null, .null, .null])), (q1, .inl (cA2, 2816, .inl (fun _ => 0))), (q3, .inl (cA4, 44, .inl (fun _ => 0))), (q5, .inl (cA6, 192, .inl (fun _ => 0))), (q9, .inl (cA10, 10, .inl (fun _ => 0))), (q21, .inl (cA22, 48, .inl (fun _ => 0)))] := hD
  have hP := hP.sub (ws' := [(h0, .inr (9, [.int 0, .ref q1, .ref q3, .ref q5, .int 0, .int 0, .ref q7, .ref q9, .int 0, .int 0, .int 0, .ref q11, .int 0, .int 0, .int (-1), .int 0, .ref q13, .int 0, .ref q15, .ref q17, .ref q19, .int 0, .ref q21, .int 0, .null, .null, .null, .null, .null, .int 0, .null, .null, .null, .null, .int 0, .int 0, .int 0, .int 0, .int 0, .int 0, .null, .int 0, .null, .null, .null])), (q1, .inl (cA2, 2816, .inl (fun _ => 0))), (q3, .inl (cA4, 44, .inl (fun _ => 0))), (q5, .inl (cA6, 192, .inl (fun _ => 0))), (q9, .inl (cA10, 10, .inl (fun _ => 0)))]) [0, 1, 2, 3, 4] rfl
  have hD := hD.sub (ws' := [(h0, .inr (9, [.int 0, .ref q1, .ref q3, .ref q5, .int 0, .int 0, .ref q7, .ref q9, .int 0, .int 0, .int 0, .ref q11, .int 0, .int 0, .int (-1), .int 0, .ref q13, .int 0, .ref q15, .ref q17, .ref q19, .int 0, .ref q21, .int 0, .null, .null, .null, .null, .null, .int 0, .null, .null, .null, .null, .int 0, .int 0, .int 0, .int 0, .int 0, .int 0, .null, .int 0, .null, .null, .null])), (q1, .inl (cA2, 2816, .inl (fun _ => 0))), (q3, .inl (cA4, 44, .inl (fun _ => 0))), (q5, .inl (cA6, 192, .inl (fun _ => 0))), (q9, .inl (cA10, 10, .inl (fun _ => 0)))]) [0, 1, 2, 3, 4] (by decide) rfl
  have hK := hK.sub (tys' := [(cA2, .int), (cA4, .boolean), (cA6, .int), (cA10, .boolean)]) [0, 1, 2, 3] rfl
  refine lv_aload_n hx hb d_Mo_init_102 rfl (lv_at hl 0 rfl) ?_
  refine lv_bipush (v := 16) hx hb d_Mo_init_103 (by decide) ?_
  refine va_newa (D := (dC, dI)) (atype := .int) (a0 := (16, .inl (fun _ => 0))) (ty := .int) hx hb (hB _ hw_131) rfl hK hP hD hS hA (fun _ => rfl) (by decide) (N' := 16) rfl (by decide) (Nat.le_of_ble_eq_true rfl) (Nat.le_of_ble_eq_true rfl) d_Mo_init_105 (fun q23 cA24 H hK hP hD hS => ?_)
  have hP : va_P (dC, dI) gx_cl [(h0, .inr (9, [.int 0, .ref q1, .ref q3, .ref q5, .int 0, .int 0, .ref q7, .ref q9, .int 0, .int 0, .int 0, .ref q11, .int 0, .int 0, .int (-1), .int 0, .ref q13, .int 0, .ref q15, .ref q17, .ref q19, .int 0, .ref q21, .int 0, .null, .null, .null, .null, .null, .int 0, .null, .null, .null, .null, .int 0, .int 0, .int 0, .int 0, .int 0, .int 0, .null, .int 0, .null, .null, .null])), (q1, .inl (cA2, 2816, .inl (fun _ => 0))), (q3, .inl (cA4, 44, .inl (fun _ => 0))), (q5, .inl (cA6, 192, .inl (fun _ => 0))), (q9, .inl (cA10, 10, .inl (fun _ => 0))), (q23, .inl (cA24, 16, .inl (fun _ => 0)))] H := hP
  have hD : va_D A [(h0, .inr (9, [.int 0, .ref q1, .ref q3, .ref q5, .int 0, .int 0, .ref q7, .ref q9, .int 0, .int 0, .int 0, .ref q11, .int 0, .int 0, .int (-1), .int 0, .ref q13, .int 0, .ref q15, .ref q17, .ref q19, .int 0, .ref q21, .int 0, .null, .null, .null, .null, .null, .int 0, .null, .null, .null, .null, .int 0, .int 0, .int 0, .int 0, .int 0, .int 0, .null, .int 0, .null, .null, .null])), (q1, .inl (cA2, 2816, .inl (fun _ => 0))), (q3, .inl (cA4, 44, .inl (fun _ => 0))), (q5, .inl (cA6, 192, .inl (fun _ => 0))), (q9, .inl (cA10, 10, .inl (fun _ => 0))), (q23, .inl (cA24, 16, .inl (fun _ => 0)))] := hD
  have hK : va_K (dC, dI) gx_cl [(cA2, .int), (cA4, .boolean), (cA6, .int), (cA10, .boolean), (cA24, .int)] s := hK
  refine W.widen (k := 12) (n := 5010) (Nat.le_of_ble_eq_true rfl) (Nat.le_of_ble_eq_true rfl) ?_
  refine va_putF (D := (dC, dI)) (ci := 9) (v := .ref q23) (ty := .array .int) (C := RMo) (T := FMo) (N := 45) hx hb hB in_Mo tMo tMo_ok nMo hown hK hP hD hS 0 rfl rfl 24 (by decide) (hB _ hw_914) (fun _ h9 => h9) rfl hin rfl (by decide +kernel) rfl rfl (Nat.le_of_ble_eq_true rfl) d_Mo_init_107 (fun H locs hP hD hS => ?_)
  have hP : va_P (dC, dI) gx_cl [(h0, .inr (9, [.int 0, .ref q1, .ref q3, .ref q5, .int 0, .int 0, .ref q7, .ref q9, .int 0, .int 0, .int 0, .ref q11, .int 0, .int 0, .int (-1), .int 0, .ref q13, .int 0, .ref q15, .ref q17, .ref q19, .int 0, .ref q21, .int 0, .ref q23, .null, .null, .null, .null, .int 0, .null, .null, .null, .null, .int 0, .int 0, .int 0, .int 0, .int 0, .int 0, .null, .int 0, .null, .null, .null])), (q1, .inl (cA2, 2816, .inl (fun _ => 0))), (q3, .inl (cA4, 44, .inl (fun _ => 0))), (q5, .inl (cA6, 192, .inl (fun _ => 0))), (q9, .inl (cA10, 10, .inl (fun _ => 0))), (q23, .inl (cA24, 16, .inl (fun _ => 0)))] H := hP
  have hD : va_D A [(h0, .inr (9, [.int 0, .ref q1, .ref q3, .ref q5, .int 0, .int 0, .ref q7, .ref q9, .int 0, .int 0, .int 0, .ref q11, .int 0, .int 0, .int (-1), .int 0, .ref q13, .int 0, .ref q15, .ref q17, .ref q19, .int 0, .ref q21, .int 0, .ref q23, .null, .null, .null, .null, .int 0, .null, .null, .null, .null, .int 0, .int 0, .int 0, .int 0, .int 0, .int 0, .null, .int 0, .null, .null, .null])), (q1, .inl (cA2, 2816, .inl (fun _ => 0))), (q3, .inl (cA4, 44, .inl (fun _ => 0))), (q5, .inl (cA6, 192, .inl (fun _ => 0))), (q9, .inl (cA10, 10, .inl (fun _ => 0))), (q23, .inl (cA24, 16, .inl (fun _ => 0)))] := hD
  have hP := hP.sub (ws' := [(h0, .inr (9, [.int 0, .ref q1, .ref q3, .ref q5, .int 0, .int 0, .ref q7, .ref q9, .int 0, .int 0, .int 0, .ref q11, .int 0, .int 0, .int (-1), .int 0, .ref q13, .int 0, .ref q15, .ref q17, .ref q19, .int 0, .ref q21, .int 0, .ref q23, .null, .null, .null, .null, .int 0, .null, .null, .null, .null, .int 0, .int 0, .int 0, .int 0, .int 0, .int 0, .null, .int 0, .null, .null, .null])), (q1, .inl (cA2, 2816, .inl (fun _ => 0))), (q3, .inl (cA4, 44, .inl (fun _ => 0))), (q5, .inl (cA6, 192, .inl (fun _ => 0))), (q9, .inl (cA10, 10, .inl (fun _ => 0)))]) [0, 1, 2, 3, 4] rfl
  have hD := hD.sub (ws' := [(h0, .inr (9, [.int 0, .ref q1, .ref q3, .ref q5, .int 0, .int 0, .ref q7, .ref q9, .int 0, .int 0, .int 0, .ref q11, .int 0, .int 0, .int (-1), .int 0, .ref q13, .int 0, .ref q15, .ref q17, .ref q19, .int 0, .ref q21, .int 0, .ref q23, .null, .null, .null, .null, .int 0, .null, .null, .null, .null, .int 0, .int 0, .int 0, .int 0, .int 0, .int 0, .null, .int 0, .null, .null, .null])), (q1, .inl (cA2, 2816, .inl (fun _ => 0))), (q3, .inl (cA4, 44, .inl (fun _ => 0))), (q5, .inl (cA6, 192, .inl (fun _ => 0))), (q9, .inl (cA10, 10, .inl (fun _ => 0)))]) [0, 1, 2, 3, 4] (by decide) rfl
  have hK := hK.sub (tys' := [(cA2, .int), (cA4, .boolean), (cA6, .int), (cA10, .boolean)]) [0, 1, 2, 3] rfl
  refine lv_aload_n hx hb d_Mo_init_110 rfl (lv_at hl 0 rfl) ?_
  refine lv_bipush (v := 16) hx hb d_Mo_init_111 (by decide) ?_
  refine va_newa (D := (dC, dI)) (atype := .int) (a0 := (16, .inl (fun _ => 0))) (ty := .int) hx hb (hB _ hw_131) rfl hK hP hD hS hA (fun _ => rfl) (by decide) (N' := 16) rfl (by decide) (Nat.le_of_ble_eq_true rfl) (Nat.le_of_ble_eq_true rfl) d_Mo_init_113 (fun q25 cA26 H hK hP hD hS => ?_)
  have hP : va_P (dC, dI) gx_cl [(h0, .inr (9, [.int 0, .ref q1, .ref q3, .ref q5, .int 0, .int 0, .ref q7, .ref q9, .int 0, .int 0, .int 0, .ref q11, .int 0, .int 0, .int (-1), .int 0, .ref q13, .int 0, .ref q15, .ref q17, .ref q19, .int 0, .ref q21, .int 0, .ref q23, .null, .null, .null, .null, .int 0, .null, .null, .null, .null, .int 0, .int 0, .int 0, .int 0, .int 0, .int 0, .null, .int 0, .null, .null, .null])), (q1, .inl (cA2, 2816, .inl (fun _ => 0))), (q3, .inl (cA4, 44, .inl (fun _ => 0))), (q5, .inl (cA6, 192, .inl (fun _ => 0))), (q9, .inl (cA10, 10, .inl (fun _ => 0))), (q25, .inl (cA26, 16, .inl (fun _ => 0)))] H := hP
  have hD : va_D A [(h0, .inr (9, [.int 0, .ref q1, .ref q3, .ref q5, .int 0, .int 0, .ref q7, .ref q9, .int 0, .int 0, .int 0, .ref q11, .int 0, .int 0, .int (-1), .int 0, .ref q13, .int 0, .ref q15, .ref q17, .ref q19, .int 0, .ref q21, .int 0, .ref q23, .null, .null, .null, .null, .int 0, .null, .null, .null, .null, .int 0, .int 0, .int 0, .int 0, .int 0, .int 0, .null, .int 0, .null, .null, .null])), (q1, .inl (cA2, 2816, .inl (fun _ => 0))), (q3, .inl (cA4, 44, .inl (fun _ => 0))), (q5, .inl (cA6, 192, .inl (fun _ => 0))), (q9, .inl (cA10, 10, .inl (fun _ => 0))), (q25, .inl (cA26, 16, .inl (fun _ => 0)))] := hD
  have hK : va_K (dC, dI) gx_cl [(cA2, .int), (cA4, .boolean), (cA6, .int), (cA10, .boolean), (cA26, .int)] s := hK
  refine W.widen (k := 13) (n := 5026) (Nat.le_of_ble_eq_true rfl) (Nat.le_of_ble_eq_true rfl) ?_
  refine va_putF (D := (dC, dI)) (ci := 9) (v := .ref q25) (ty := .array .int) (C := RMo) (T := FMo) (N := 45) hx hb hB in_Mo tMo tMo_ok nMo hown hK hP hD hS 0 rfl rfl 25 (by decide) (hB _ hw_915) (fun _ h9 => h9) rfl hin rfl (by decide +kernel) rfl rfl (Nat.le_of_ble_eq_true rfl) d_Mo_init_115 (fun H locs hP hD hS => ?_)
  have hP : va_P (dC, dI) gx_cl [(h0, .inr (9, [.int 0, .ref q1, .ref q3, .ref q5, .int 0, .int 0, .ref q7, .ref q9, .int 0, .int 0, .int 0, .ref q11, .int 0, .int 0, .int (-1), .int 0, .ref q13, .int 0, .ref q15, .ref q17, .ref q19, .int 0, .ref q21, .int 0, .ref q23, .ref q25, .null, .null, .null, .int 0, .null, .null, .null, .null, .int 0, .int 0, .int 0, .int 0, .int 0, .int 0, .null, .int 0, .null, .null, .null])), (q1, .inl (cA2, 2816, .inl (fun _ => 0))), (q3, .inl (cA4, 44, .inl (fun _ => 0))), (q5, .inl (cA6, 192, .inl (fun _ => 0))), (q9, .inl (cA10, 10, .inl (fun _ => 0))), (q25, .inl (cA26, 16, .inl (fun _ => 0)))] H := hP
  have hD : va_D A [(h0, .inr (9, [.int 0, .ref q1, .ref q3, .ref q5, .int 0, .int 0, .ref q7, .ref q9, .int 0, .int 0, .int 0, .ref q11, .int 0, .int 0, .int (-1), .int 0, .ref q13, .int 0, .ref q15, .ref q17, .ref q19, .int 0, .ref q21, .int 0, .ref q23, .ref q25, .null, .null, .null, .int 0, .null, .null, .null, .null, .int 0, .int 0, .int 0, .int 0, .int 0, .int 0, .null, .int 0, .null, .null, .null])), (q1, .inl (cA2, 2816, .inl (fun _ => 0))), (q3, .inl (cA4, 44, .inl (fun _ => 0))), (q5, .inl (cA6, 192, .inl (fun _ => 0))), (q9, .inl (cA10, 10, .inl (fun _ => 0))), (q25, .inl (cA26, 16, .inl (fun _ => 0)))] := hD
  have hP := hP.sub (ws' := [(h0, .inr (9, [.int 0, .ref q1, .ref q3, .ref q5, .int 0, .int 0, .ref q7, .ref q9, .int 0, .int 0, .int 0, .ref q11, .int 0, .int 0, .int (-1), .int 0, .ref q13, .int 0, .ref q15, .ref q17, .ref q19, .int 0, .ref q21, .int 0, .ref q23, .ref q25, .null, .null, .null, .int 0, .null, .null, .null, .null, .int 0, .int 0, .int 0, .int 0, .int 0, .int 0, .null, .int 0, .null, .null, .null])), (q1, .inl (cA2, 2816, .inl (fun _ => 0))), (q3, .inl (cA4, 44, .inl (fun _ => 0))), (q5, .inl (cA6, 192, .inl (fun _ => 0))), (q9, .inl (cA10, 10, .inl (fun _ => 0)))]) [0, 1, 2, 3, 4] rfl
  have hD := hD.sub (ws' := [(h0, .inr (9, [.int 0, .ref q1, .ref q3, .ref q5, .int 0, .int 0, .ref q7, .ref q9, .int 0, .int 0, .int 0, .ref q11, .int 0, .int 0, .int (-1), .int 0, .ref q13, .int 0, .ref q15, .ref q17, .ref q19, .int 0, .ref q21, .int 0, .ref q23, .ref q25, .null, .null, .null, .int 0, .null, .null, .null, .null, .int 0, .int 0, .int 0, .int 0, .int 0, .int 0, .null, .int 0, .null, .null, .null])), (q1, .inl (cA2, 2816, .inl (fun _ => 0))), (q3, .inl (cA4, 44, .inl (fun _ => 0))), (q5, .inl (cA6, 192, .inl (fun _ => 0))), (q9, .inl (cA10, 10, .inl (fun _ => 0)))]) [0, 1, 2, 3, 4] (by decide) rfl
  have hK := hK.sub (tys' := [(cA2, .int), (cA4, .boolean), (cA6, .int), (cA10, .boolean)]) [0, 1, 2, 3] rfl
  refine lv_aload_n hx hb d_Mo_init_118 rfl (lv_at hl 0 rfl) ?_
  refine lv_bipush (v := 16) hx hb d_Mo_init_119 (by decide) ?_
  refine va_newa (D := (dC, dI)) (atype := .int) (a0 := (16, .inl (fun _ => 0))) (ty := .int) hx hb (hB _ hw_131) rfl hK hP hD hS hA (fun _ => rfl) (by decide) (N' := 16) rfl (by decide) (Nat.le_of_ble_eq_true rfl) (Nat.le_of_ble_eq_true rfl) d_Mo_init_121 (fun q27 cA28 H hK hP hD hS => ?_)
  have hP : va_P (dC, dI) gx_cl [(h0, .inr (9, [.int 0, .ref q1, .ref q3, .ref q5, .int 0, .int 0, .ref q7, .ref q9, .int 0, .int 0, .int 0, .ref q11, .int 0, .int 0, .int (-1), .int 0, .ref q13, .int 0, .ref q15, .ref q17, .ref q19, .int 0, .ref q21, .int 0, .ref q23, .ref q25, .null, .null, .null, .int 0, .null, .null, .null, .null, .int 0, .int 0, .int 0, .int 0, .int 0, .int 0, .null, .int 0, .null, .null, .null])), (q1, .inl (cA2, 2816, .inl (fun _ => 0))), (q3, .inl (cA4, 44, .inl (fun _ => 0))), (q5, .inl (cA6, 192, .inl (fun _ => 0))), (q9, .inl (cA10, 10, .inl (fun _ => 0))), (q27, .inl (cA28, 16, .inl (fun _ => 0)))] H := hP
  have hD : va_D A [(h0, .inr (9, [.int 0, .ref q1, .ref q3, .ref q5, .int 0, .int 0, .ref q7, .ref q9, .int 0, .int 0, .int 0, .ref q11, .int 0, .int 0, .int (-1), .int 0, .ref q13, .int 0, .ref q15, .ref q17, .ref q19, .int 0, .ref q21, .int 0, .ref q23, .ref q25, .null, .null, .null, .int 0, .null, .null, .null, .null, .int 0, .int 0, .int 0, .int 0, .int 0, .int 0, .null, .int 0, .null, .null, .null])), (q1, .inl (cA2, 2816, .inl (fun _ => 0))), (q3, .inl (cA4, 44, .inl (fun _ => 0))), (q5, .inl (cA6, 192, .inl (fun _ => 0))), (q9, .inl (cA10, 10, .inl (fun _ => 0))), (q27, .inl (cA28, 16, .inl (fun _ => 0)))] := hD
  have hK : va_K (dC, dI) gx_cl [(cA2, .int), (cA4, .boolean), (cA6, .int), (cA10, .boolean), (cA28, .int)] s := hK
  refine W.widen (k := 14) (n := 5042) (Nat.le_of_ble_eq_true rfl) (Nat.le_of_ble_eq_true rfl) ?_
  refine va_putF (D := (dC, dI)) (ci := 9) (v := .ref q27) (ty := .array .int) (C := RMo) (T := FMo) (N := 45) hx hb hB in_Mo tMo tMo_ok nMo hown hK hP hD hS 0 rfl rfl 26 (by decide) (hB _ hw_916) (fun _ h9 => h9) rfl hin rfl (by decide +kernel) rfl rfl (Nat.le_of_ble_eq_true rfl) d_Mo_init_123 (fun H locs hP hD hS => ?_)
  have hP : va_P (dC, dI) gx_cl [(h0, .inr (9, [.int 0, .ref q1, .ref q3, .ref q5, .int 0, .int 0, .ref q7, .ref q9, .int 0, .int 0, .int 0, .ref q11, .int 0, .int 0, .int (-1), .int 0, .ref q13, .int 0, .ref q15, .ref q17, .ref q19, .int 0, .ref q21, .int 0, .ref q23, .ref q25, .ref q27, .null, .null, .int 0, .null, .null, .null, .null, .int 0, .int 0, .int 0, .int 0, .int 0, .int 0, .null, .int 0, .null, .null, .null])), (q1, .inl (cA2, 2816, .inl (fun _ => 0))), (q3, .inl (cA4, 44, .inl (fun _ => 0))), (q5, .inl (cA6, 192, .inl (fun _ => 0))), (q9, .inl (cA10, 10, .inl (fun _ => 0))), (q27, .inl (cA28, 16, .inl (fun _ => 0)))] H := hP
  have hD : va_D A [(h0, .inr (9, [.int 0, .ref q1, .ref q3, .ref q5, .int 0, .int 0, .ref q7, .ref q9, .int 0, .int 0, .int 0, .ref q11, .int 0, .int 0, .int (-1), .int 0, .ref q13, .int 0, .ref q15, .ref q17, .ref q19, .int 0, .ref q21, .int 0, .ref q23, .ref q25, .ref q27, .null, .null, .int 0, .null, .null, .null, .null, .int 0, .int 0, .int 0, .int 0, .int 0, .int 0, .null, .int 0, .null, .null, .null])), (q1, .inl (cA2, 2816, .inl (fun _ => 0))), (q3, .inl (cA4, 44, .inl (fun _ => 0))), (q5, .inl (cA6, 192, .inl (fun _ => 0))), (q9, .inl (cA10, 10, .inl (fun _ => 0))), (q27, .inl (cA28, 16, .inl (fun _ => 0)))] := hD
  have hP := hP.sub (ws' := [(h0, .inr (9, [.int 0, .ref q1, .ref q3, .ref q5, .int 0, .int 0, .ref q7, .ref q9, .int 0, .int 0, .int 0, .ref q11, .int 0, .int 0, .int (-1), .int 0, .ref q13, .int 0, .ref q15, .ref q17, .ref q19, .int 0, .ref q21, .int 0, .ref q23, .ref q25, .ref q27, .null, .null, .int 0, .null, .null, .null, .null, .int 0, .int 0, .int 0, .int 0, .int 0, .int 0, .null, .int 0, .null, .null, .null])), (q1, .inl (cA2, 2816, .inl (fun _ => 0))), (q3, .inl (cA4, 44, .inl (fun _ => 0))), (q5, .inl (cA6, 192, .inl (fun _ => 0))), (q9, .inl (cA10, 10, .inl (fun _ => 0)))]) [0, 1, 2, 3, 4] rfl
  have hD := hD.sub (ws' := [(h0, .inr (9, [.int 0, .ref q1, .ref q3, .ref q5, .int 0, .int 0, .ref q7, .ref q9, .int 0, .int 0, .int 0, .ref q11, .int 0, .int 0, .int (-1), .int 0, .ref q13, .int 0, .ref q15, .ref q17, .ref q19, .int 0, .ref q21, .int 0, .ref q23, .ref q25, .ref q27, .null, .null, .int 0, .null, .null, .null, .null, .int 0, .int 0, .int 0, .int 0, .int 0, .int 0, .null, .int 0, .null, .null, .null])), (q1, .inl (cA2, 2816, .inl (fun _ => 0))), (q3, .inl (cA4, 44, .inl (fun _ => 0))), (q5, .inl (cA6, 192, .inl (fun _ => 0))), (q9, .inl (cA10, 10, .inl (fun _ => 0)))]) [0, 1, 2, 3, 4] (by decide) rfl
  have hK := hK.sub (tys' := [(cA2, .int), (cA4, .boolean), (cA6, .int), (cA10, .boolean)]) [0, 1, 2, 3] rfl
  refine lv_aload_n hx hb d_Mo_init_126 rfl (lv_at hl 0 rfl) ?_
  refine lv_bipush (v := 64) hx hb d_Mo_init_127 (by decide) ?_
  refine va_newa (D := (dC, dI)) (atype := .int) (a0 := (64, .inl (fun _ => 0))) (ty := .int) hx hb (hB _ hw_131) rfl hK hP hD hS hA (fun _ => rfl) (by decide) (N' := 64) rfl (by decide) (Nat.le_of_ble_eq_true rfl) (Nat.le_of_ble_eq_true rfl) d_Mo_init_129 (fun q29 cA30 H hK hP hD hS => ?_)
  have hP : va_P (dC, dI) gx_cl [(h0, .inr (9, [.int 0, .ref q1, .ref q3, .ref q5, .int 0, .int 0, .ref q7, .ref q9, .int 0, .int 0, .int 0, .ref q11, .int 0, .int 0, .int (-1), .int 0, .ref q13, .int 0, .ref q15, .ref q17, .ref q19, .int 0, .ref q21, .int 0, .ref q23, .ref q25, .ref q27, .null, .null, .int 0, .null, .null, .null, .null, .int 0, .int 0, .int 0, .int 0, .int 0, .int 0, .null, .int 0, .null, .null, .null])), (q1, .inl (cA2, 2816, .inl (fun _ => 0))), (q3, .inl (cA4, 44, .inl (fun _ => 0))), (q5, .inl (cA6, 192, .inl (fun _ => 0))), (q9, .inl (cA10, 10, .inl (fun _ => 0))), (q29, .inl (cA30, 64, .inl (fun _ => 0)))] H := hP
  have hD : va_D A [(h0, .inr (9, [.int 0, .ref q1, .ref q3, .ref q5, .int 0, .int 0, .ref q7, .ref q9, .int 0, .int 0, .int 0, .ref q11, .int 0, .int 0, .int (-1), .int 0, .ref q13, .int 0, .ref q15, .ref q17, .ref q19, .int 0, .ref q21, .int 0, .ref q23, .ref q25, .ref q27, .null, .null, .int 0, .null, .null, .null, .null, .int 0, .int 0, .int 0, .int 0, .int 0, .int 0, .null, .int 0, .null, .null, .null])), (q1, .inl (cA2, 2816, .inl (fun _ => 0))), (q3, .inl (cA4, 44, .inl (fun _ => 0))), (q5, .inl (cA6, 192, .inl (fun _ => 0))), (q9, .inl (cA10, 10, .inl (fun _ => 0))), (q29, .inl (cA30, 64, .inl (fun _ => 0)))] := hD
  have hK : va_K (dC, dI) gx_cl [(cA2, .int), (cA4, .boolean), (cA6, .int), (cA10, .boolean), (cA30, .int)] s := hK
  refine W.widen (k := 15) (n := 5106) (Nat.le_of_ble_eq_true rfl) (Nat.le_of_ble_eq_true rfl) ?_
  refine va_putF (D := (dC, dI)) (ci := 9) (v := .ref q29) (ty := .array .int) (C := RMo) (T := FMo) (N := 45) hx hb hB in_Mo tMo tMo_ok nMo hown hK hP hD hS 0 rfl rfl 27 (by decide) (hB _ hw_917) (fun _ h9 => h9) rfl hin rfl (by decide +kernel) rfl rfl (Nat.le_of_ble_eq_true rfl) d_Mo_init_131 (fun H locs hP hD hS => ?_)
  have hP : va_P (dC, dI) gx_cl [(h0, .inr (9, [.int 0, .ref q1, .ref q3, .ref q5, .int 0, .int 0, .ref q7, .ref q9, .int 0, .int 0, .int 0, .ref q11, .int 0, .int 0, .int (-1), .int 0, .ref q13, .int 0, .ref q15, .ref q17, .ref q19, .int 0, .ref q21, .int 0, .ref q23, .ref q25, .ref q27, .ref q29, .null, .int 0, .null, .null, .null, .null, .int 0, .int 0, .int 0, .int 0, .int 0, .int 0, .null, .int 0, .null, .null, .null])), (q1, .inl (cA2, 2816, .inl (fun _ => 0))), (q3, .inl (cA4, 44, .inl (fun _ => 0))), (q5, .inl (cA6, 192, .inl (fun _ => 0))), (q9, .inl (cA10, 10, .inl (fun _ => 0))), (q29, .inl (cA30, 64, .inl (fun _ => 0)))] H := hP
  have hD : va_D A [(h0, .inr (9, [.int 0, .ref q1, .ref q3, .ref q5, .int 0, .int 0, .ref q7, .ref q9, .int 0, .int 0, .int 0, .ref q11, .int 0, .int 0, .int (-1), .int 0, .ref q13, .int 0, .ref q15, .ref q17, .ref q19, .int 0, .ref q21, .int 0, .ref q23, .ref q25, .ref q27, .ref q29, .null, .int 0, .null, .null, .null, .null, .int 0, .int 0, .int 0, .int 0, .int 0, .int 0, .null, .int 0, .null, .null, .null])), (q1, .inl (cA2, 2816, .inl (fun _ => 0))), (q3, .inl (cA4, 44, .inl (fun _ => 0))), (q5, .inl (cA6, 192, .inl (fun _ => 0))), (q9, .inl (cA10, 10, .inl (fun _ => 0))), (q29, .inl (cA30, 64, .inl (fun _ => 0)))] := hD
  have hP := hP.sub (ws' := [(h0, .inr (9, [.int 0, .ref q1, .ref q3, .ref q5, .int 0, .int 0, .ref q7, .ref q9, .int 0, .int 0, .int 0, .ref q11, .int 0, .int 0, .int (-1), .int 0, .ref q13, .int 0, .ref q15, .ref q17, .ref q19, .int 0, .ref q21, .int 0, .ref q23, .ref q25, .ref q27, .ref q29, .null, .int 0, .null, .null, .null, .null, .int 0, .int 0, .int 0, .int 0, .int 0, .int 0, .null, .int 0, .null, .null, .null])), (q1, .inl (cA2, 2816, .inl (fun _ => 0))), (q3, .inl (cA4, 44, .inl (fun _ => 0))), (q5, .inl (cA6, 192, .inl (fun _ => 0))), (q9, .inl (cA10, 10, .inl (fun _ => 0)))]) [0, 1, 2, 3, 4] rfl
  have hD := hD.sub (ws' := [(h0, .inr (9, [.int 0, .ref q1, .ref q3, .ref q5, .int 0, .int 0, .ref q7, .ref q9, .int 0, .int 0, .int 0, .ref q11, .int 0, .int 0, .int (-1), .int 0, .ref q13, .int 0, .ref q15, .ref q17, .ref q19, .int 0, .ref q21, .int 0, .ref q23, .ref q25, .ref q27, .ref q29, .null, .int 0, .null, .null, .null, .null, .int 0, .int 0, .int 0, .int 0, .int 0, .int 0, .null, .int 0, .null, .null, .null])), (q1, .inl (cA2, 2816, .inl (fun _ => 0))), (q3, .inl (cA4, 44, .inl (fun _ => 0))), (q5, .inl (cA6, 192, .inl (fun _ => 0))), (q9, .inl (cA10, 10, .inl (fun _ => 0)))]) [0, 1, 2, 3, 4] (by decide) rfl
  have hK := hK.sub (tys' := [(cA2, .int), (cA4, .boolean), (cA6, .int), (cA10, .boolean)]) [0, 1, 2, 3] rfl
  refine lv_aload_n hx hb d_Mo_init_134 rfl (lv_at hl 0 rfl) ?_
  refine lv_bipush (v := 80) hx hb d_Mo_init_135 (by decide) ?_
  refine va_newa (D := (dC, dI)) (atype := .int) (a0 := (80, .inl (fun _ => 0))) (ty := .int) hx hb (hB _ hw_131) rfl hK hP hD hS hA (fun _ => rfl) (by decide) (N' := 80) rfl (by decide) (Nat.le_of_ble_eq_true rfl) (Nat.le_of_ble_eq_true rfl) d_Mo_init_137 (fun q31 cA32 H hK hP hD hS => ?_)
  have hP : va_P (dC, dI) gx_cl [(h0, .inr (9, [.int 0, .ref q1, .ref q3, .ref q5, .int 0, .int 0, .ref q7, .ref q9, .int 0, .int 0, .int 0, .ref q11, .int 0, .int 0, .int (-1), .int 0, .ref q13, .int 0, .ref q15, .ref q17, .ref q19, .int 0, .ref q21, .int 0, .ref q23, .ref q25, .ref q27, .ref q29, .null, .int 0, .null, .null, .null, .null, .int 0, .int 0, .int 0, .int 0, .int 0, .int 0, .null, .int 0, .null, .null, .null])), (q1, .inl (cA2, 2816, .inl (fun _ => 0))), (q3, .inl (cA4, 44, .inl (fun _ => 0))), (q5, .inl (cA6, 192, .inl (fun _ => 0))), (q9, .inl (cA10, 10, .inl (fun _ => 0))), (q31, .inl (cA32, 80, .inl (fun _ => 0)))] H := hP
  have hD : va_D A [(h0, .inr (9, [.int 0, .ref q1, .ref q3, .ref q5, .int 0, .int 0, .ref q7, .ref q9, .int 0, .int 0, .int 0, .ref q11, .int 0, .int 0, .int (-1), .int 0, .ref q13, .int 0, .ref q15, .ref q17, .ref q19, .int 0, .ref q21, .int 0, .ref q23, .ref q25, .ref q27, .ref q29, .null, .int 0, .null, .null, .null, .null, .int 0, .int 0, .int 0, .int 0, .int 0, .int 0, .null, .int 0, .null, .null, .null])), (q1, .inl (cA2, 2816, .inl (fun _ => 0))), (q3, .inl (cA4, 44, .inl (fun _ => 0))), (q5, .inl (cA6, 192, .inl (fun _ => 0))), (q9, .inl (cA10, 10, .inl (fun _ => 0))), (q31, .inl (cA32, 80, .inl (fun _ => 0)))] := hD
  have hK : va_K (dC, dI) gx_cl [(cA2, .int), (cA4, .boolean), (cA6, .int), (cA10, .boolean), (cA32, .int)] s := hK
  refine W.widen (k := 16) (n := 5186) (Nat.le_of_ble_eq_true rfl) (Nat.le_of_ble_eq_true rfl) ?_
  refine va_putF (D := (dC, dI)) (ci := 9) (v := .ref q31) (ty := .array .int) (C := RMo) (T := FMo) (N := 45) hx hb hB in_Mo tMo tMo_ok nMo hown hK hP hD hS 0 rfl rfl 28 (by decide) (hB _ hw_918) (fun _ h9 => h9) rfl hin rfl (by decide +kernel) rfl rfl (Nat.le_of_ble_eq_true rfl) d_Mo_init_139 (fun H locs hP hD hS => ?_)
  have hP : va_P (dC, dI) gx_cl [(h0, .inr (9, [.int 0, .ref q1, .ref q3, .ref q5, .int 0, .int 0, .ref q7, .ref q9, .int 0, .int 0, .int 0, .ref q11, .int 0, .int 0, .int (-1), .int 0, .ref q13, .int 0, .ref q15, .ref q17, .ref q19, .int 0, .ref q21, .int 0, .ref q23, .ref q25, .ref q27, .ref q29, .ref q31, .int 0, .null, .null, .null, .null, .int 0, .int 0, .int 0, .int 0, .int 0, .int 0, .null, .int 0, .null, .null, .null])), (q1, .inl (cA2, 2816, .inl (fun _ => 0))), (q3, .inl (cA4, 44, .inl (fun _ => 0))), (q5, .inl (cA6, 192, .inl (fun _ => 0))), (q9, .inl (cA10, 10, .inl (fun _ => 0))), (q31, .inl (cA32, 80, .inl (fun _ => 0)))] H := hP
  have hD : va_D A [(h0, .inr (9, [.int 0, .ref q1, .ref q3, .ref q5, .int 0, .int 0, .ref q7, .ref q9, .int 0, .int 0, .int 0, .ref q11, .int 0, .int 0, .int (-1), .int 0, .ref q13, .int 0, .ref q15, .ref q17, .ref q19, .int 0, .ref q21, .int 0, .ref q23, .ref q25, .ref q27, .ref q29, .ref q31, .int 0, .null, .null, .null, .null, .int 0, .int 0, .int 0, .int 0, .int 0, .int 0, .null, .int 0, .null, .null, .null])), (q1, .inl (cA2, 2816, .inl (fun _ => 0))), (q3, .inl (cA4, 44, .inl (fun _ => 0))), (q5, .inl (cA6, 192, .inl (fun _ => 0))), (q9, .inl (cA10, 10, .inl (fun _ => 0))), (q31, .inl (cA32, 80, .inl (fun _ => 0)))] := hD
  have hP := hP.sub (ws' := [(h0, .inr (9, [.int 0, .ref q1, .ref q3, .ref q5, .int 0, .int 0, .ref q7, .ref q9, .int 0, .int 0, .int 0, .ref q11, .int 0, .int 0, .int (-1), .int 0, .ref q13, .int 0, .ref q15, .ref q17, .ref q19, .int 0, .ref q21, .int 0, .ref q23, .ref q25, .ref q27, .ref q29, .ref q31, .int 0, .null, .null, .null, .null, .int 0, .int 0, .int 0, .int 0, .int 0, .int 0, .null, .int 0, .null, .null, .null])), (q1, .inl (cA2, 2816, .inl (fun _ => 0))), (q3, .inl (cA4, 44, .inl (fun _ => 0))), (q5, .inl (cA6, 192, .inl (fun _ => 0))), (q9, .inl (cA10, 10, .inl (fun _ => 0)))]) [0, 1, 2, 3, 4] rfl
  have hD := hD.sub (ws' := [(h0, .inr (9, [.int 0, .ref q1, .ref q3, .ref q5, .int 0, .int 0, .ref q7, .ref q9, .int 0, .int 0, .int 0, .ref q11, .int 0, .int 0, .int (-1), .int 0, .ref q13, .int 0, .ref q15, .ref q17, .ref q19, .int 0, .ref q21, .int 0, .ref q23, .ref q25, .ref q27, .ref q29, .ref q31, .int 0, .null, .null, .null, .null, .int 0, .int 0, .int 0, .int 0, .int 0, .int 0, .null, .int 0, .null, .null, .null])), (q1, .inl (cA2, 2816, .inl (fun _ => 0))), (q3, .inl (cA4, 44, .inl (fun _ => 0))), (q5, .inl (cA6, 192, .inl (fun _ => 0))), (q9, .inl (cA10, 10, .inl (fun _ => 0)))]) [0, 1, 2, 3, 4] (by decide) rfl
  have hK := hK.sub (tys' := [(cA2, .int), (cA4, .boolean), (cA6, .int), (cA10, .boolean)]) [0, 1, 2, 3] rfl
  refine lv_aload_n hx hb d_Mo_init_142 rfl (lv_at hl 0 rfl) ?_
  refine lv_bipush (v := 17) hx hb d_Mo_init_143 (by decide) ?_
  refine va_newa (D := (dC, dI)) (atype := .int) (a0 := (17, .inl (fun _ => 0))) (ty := .int) hx hb (hB _ hw_131) rfl hK hP hD hS hA (fun _ => rfl) (by decide) (N' := 17) rfl (by decide) (Nat.le_of_ble_eq_true rfl) (Nat.le_of_ble_eq_true rfl) d_Mo_init_145 (fun q33 cA34 H hK hP hD hS => ?_)
  have hP : va_P (dC, dI) gx_cl [(h0, .inr (9, [.int 0, .ref q1, .ref q3, .ref q5, .int 0, .int 0, .ref q7, .ref q9, .int 0, .int 0, .int 0, .ref q11, .int 0, .int 0, .int (-1), .int 0, .ref q13, .int 0, .ref q15, .ref q17, .ref q19, .int 0, .ref q21, .int 0, .ref q23, .ref q25, .ref q27, .ref q29, .ref q31, .int 0, .null, .null, .null, .null, .int 0, .int 0, .int 0, .int 0, .int 0, .int 0, .null, .int 0, .null, .null, .null])), (q1, .inl (cA2, 2816, .inl (fun _ => 0))), (q3, .inl (cA4, 44, .inl (fun _ => 0))), (q5, .inl (cA6, 192, .inl (fun _ => 0))), (q9, .inl (cA10, 10, .inl (fun _ => 0))), (q33, .inl (cA34, 17, .inl (fun _ => 0)))] H := hP
  have hD : va_D A [(h0, .inr (9, [.int 0, .ref q1, .ref q3, .ref q5, .int 0, .int 0, .ref q7, .ref q9, .int 0, .int 0, .int 0, .ref q11, .int 0, .int 0, .int (-1), .int 0, .ref q13, .int 0, .ref q15, .ref q17, .ref q19, .int 0, .ref q21, .int 0, .ref q23, .ref q25, .ref q27, .ref q29, .ref q31, .int 0, .null, .null, .null, .null, .int 0, .int 0, .int 0, .int 0, .int 0, .int 0, .null, .int 0, .null, .null, .null])), (q1, .inl (cA2, 2816, .inl (fun _ => 0))), (q3, .inl (cA4, 44, .inl (fun _ => 0))), (q5, .inl (cA6, 192, .inl (fun _ => 0))), (q9, .inl (cA10, 10, .inl (fun _ => 0))), (q33, .inl (cA34, 17, .inl (fun _ => 0)))] := hD
  have hK : va_K (dC, dI) gx_cl [(cA2, .int), (cA4, .boolean), (cA6, .int), (cA10, .boolean), (cA34, .int)] s := hK
  refine W.widen (k := 17) (n := 5203) (Nat.le_of_ble_eq_true rfl) (Nat.le_of_ble_eq_true rfl) ?_
  refine va_putF (D := (dC, dI)) (ci := 9) (v := .ref q33) (ty := .array .int) (C := RMo) (T := FMo) (N := 45) hx hb hB in_Mo tMo tMo_ok nMo hown hK hP hD hS 0 rfl rfl 30 (by decide) (hB _ hw_920) (fun _ h9 => h9) rfl hin rfl (by decide +kernel) rfl rfl (Nat.le_of_ble_eq_true rfl) d_Mo_init_147 (fun H locs hP hD hS => ?_)
  have hP : va_P (dC, dI) gx_cl [(h0, .inr (9, [.int 0, .ref q1, .ref q3, .ref q5, .int 0, .int 0, .ref q7, .ref q9, .int 0, .int 0, .int 0, .ref q11, .int 0, .int 0, .int (-1), .int 0, .ref q13, .int 0, .ref q15, .ref q17, .ref q19, .int 0, .ref q21, .int 0, .ref q23, .ref q25, .ref q27, .ref q29, .ref q31, .int 0, .ref q33, .null, .null, .null, .int 0, .int 0, .int 0, .int 0, .int 0, .int 0, .null, .int 0, .null, .null, .null])), (q1, .inl (cA2, 2816, .inl (fun _ => 0))), (q3, .inl (cA4, 44, .inl (fun _ => 0))), (q5, .inl (cA6, 192, .inl (fun _ => 0))), (q9, .inl (cA10, 10, .inl (fun _ => 0))), (q33, .inl (cA34, 17, .inl (fun _ => 0)))] H := hP
  have hD : va_D A [(h0, .inr (9, [.int 0, .ref q1, .ref q3, .ref q5, .int 0, .int 0, .ref q7, .ref q9, .int 0, .int 0, .int 0, .ref q11, .int 0, .int 0, .int (-1), .int 0, .ref q13, .int 0, .ref q15, .ref q17, .ref q19, .int 0, .ref q21, .int 0, .ref q23, .ref q25, .ref q27, .ref q29, .ref q31, .int 0, .ref q33, .null, .null, .null, .int 0, .int 0, .int 0, .int 0, .int 0, .int 0, .null, .int 0, .null, .null, .null])), (q1, .inl (cA2, 2816, .inl (fun _ => 0))), (q3, .inl (cA4, 44, .inl (fun _ => 0))), (q5, .inl (cA6, 192, .inl (fun _ => 0))), (q9, .inl (cA10, 10, .inl (fun _ => 0))), (q33, .inl (cA34, 17, .inl (fun _ => 0)))] := hD
  have hP := hP.sub (ws' := [(h0, .inr (9, [.int 0, .ref q1, .ref q3, .ref q5, .int 0, .int 0, .ref q7, .ref q9, .int 0, .int 0, .int 0, .ref q11, .int 0, .int 0, .int (-1), .int 0, .ref q13, .int 0, .ref q15, .ref q17, .ref q19, .int 0, .ref q21, .int 0, .ref q23, .ref q25, .ref q27, .ref q29, .ref q31, .int 0, .ref q33, .null, .null, .null, .int 0, .int 0, .int 0, .int 0, .int 0, .int 0, .null, .int 0, .null, .null, .null])), (q1, .inl (cA2, 2816, .inl (fun _ => 0))), (q3, .inl (cA4, 44, .inl (fun _ => 0))), (q5, .inl (cA6, 192, .inl (fun _ => 0))), (q9, .inl (cA10, 10, .inl (fun _ => 0)))]) [0, 1, 2, 3, 4] rfl
  have hD := hD.sub (ws' := [(h0, .inr (9, [.int 0, .ref q1, .ref q3, .ref q5, .int 0, .int 0, .ref q7, .ref q9, .int 0, .int 0, .int 0, .ref q11, .int 0, .int 0, .int (-1), .int 0, .ref q13, .int 0, .ref q15, .ref q17, .ref q19, .int 0, .ref q21, .int 0, .ref q23, .ref q25, .ref q27, .ref q29, .ref q31, .int 0, .ref q33, .null, .null, .null, .int 0, .int 0, .int 0, .int 0, .int 0, .int 0, .null, .int 0, .null, .null, .null])), (q1, .inl (cA2, 2816, .inl (fun _ => 0))), (q3, .inl (cA4, 44, .inl (fun _ => 0))), (q5, .inl (cA6, 192, .inl (fun _ => 0))), (q9, .inl (cA10, 10, .inl (fun _ => 0)))]) [0, 1, 2, 3, 4] (by decide) rfl
  have hK := hK.sub (tys' := [(cA2, .int), (cA4, .boolean), (cA6, .int), (cA10, .boolean)]) [0, 1, 2, 3] rfl
  refine lv_aload_n hx hb d_Mo_init_150 rfl (lv_at hl 0 rfl) ?_
  refine lv_bipush (v := 17) hx hb d_Mo_init_151 (by decide) ?_
  refine va_newa (D := (dC, dI)) (atype := .int) (a0 := (17, .inl (fun _ => 0))) (ty := .int) hx hb (hB _ hw_131) rfl hK hP hD hS hA (fun _ => rfl) (by decide) (N' := 17) rfl (by decide) (Nat.le_of_ble_eq_true rfl) (Nat.le_of_ble_eq_true rfl) d_Mo_init_153 (fun q35 cA36 H hK hP hD hS => ?_)
  have hP : va_P (dC, dI) gx_cl [(h0, .inr (9, [.int 0, .ref q1, .ref q3, .ref q5, .int 0, .int 0, .ref q7, .ref q9, .int 0, .int 0, .int 0, .ref q11, .int 0, .int 0, .int (-1), .int 0, .ref q13, .int 0, .ref q15, .ref q17, .ref q19, .int 0, .ref q21, .int 0, .ref q23, .ref q25, .ref q27, .ref q29, .ref q31, .int 0, .ref q33, .null, .null, .null, .int 0, .int 0, .int 0, .int 0, .int 0, .int 0, .null, .int 0, .null, .null, .null])), (q1, .inl (cA2, 2816, .inl (fun _ => 0))), (q3, .inl (cA4, 44, .inl (fun _ => 0))), (q5, .inl (cA6, 192, .inl (fun _ => 0))), (q9, .inl (cA10, 10, .inl (fun _ => 0))), (q35, .inl (cA36, 17, .inl (fun _ => 0)))] H := hP
  have hD : va_D A [(h0, .inr (9, [.int 0, .ref q1, .ref q3, .ref q5, .int 0, .int 0, .ref q7, .ref q9, .int 0, .int 0, .int 0, .ref q11, .int 0, .int 0, .int (-1), .int 0, .ref q13, .int 0, .ref q15, .ref q17, .ref q19, .int 0, .ref q21, .int 0, .ref q23, .ref q25, .ref q27, .ref q29, .ref q31, .int 0, .ref q33, .null, .null, .null, .int 0, .int 0, .int 0, .int 0, .int 0, .int 0, .null, .int 0, .null, .null, .null])), (q1, .inl (cA2, 2816, .inl (fun _ => 0))), (q3, .inl (cA4, 44, .inl (fun _ => 0))), (q5, .inl (cA6, 192, .inl (fun _ => 0))), (q9, .inl (cA10, 10, .inl (fun _ => 0))), (q35, .inl (cA36, 17, .inl (fun _ => 0)))] := hD
  have hK : va_K (dC, dI) gx_cl [(cA2, .int), (cA4, .boolean), (cA6, .int), (cA10, .boolean), (cA36, .int)] s := hK
  refine W.widen (k := 18) (n := 5220) (Nat.le_of_ble_eq_true rfl) (Nat.le_of_ble_eq_true rfl) ?_
  refine va_putF (D := (dC, dI)) (ci := 9) (v := .ref q35) (ty := .array .int) (C := RMo) (T := FMo) (N := 45) hx hb hB in_Mo tMo tMo_ok nMo hown hK hP hD hS 0 rfl rfl 31 (by decide) (hB _ hw_921) (fun _ h9 => h9) rfl hin rfl (by decide +kernel) rfl rfl (Nat.le_of_ble_eq_true rfl) d_Mo_init_155 (fun H locs hP hD hS => ?_)
  have hP : va_P (dC, dI) gx_cl [(h0, .inr (9, [.int 0, .ref q1, .ref q3, .ref q5, .int 0, .int 0, .ref q7, .ref q9, .int 0, .int 0, .int 0, .ref q11, .int 0, .int 0, .int (-1), .int 0, .ref q13, .int 0, .ref q15, .ref q17, .ref q19, .int 0, .ref q21, .int 0, .ref q23, .ref q25, .ref q27, .ref q29, .ref q31, .int 0, .ref q33, .ref q35, .null, .null, .int 0, .int 0, .int 0, .int 0, .int 0, .int 0, .null, .int 0, .null, .null, .null])), (q1, .inl (cA2, 2816, .inl (fun _ => 0))), (q3, .inl (cA4, 44, .inl (fun _ => 0))), (q5, .inl (cA6, 192, .inl (fun _ => 0))), (q9, .inl (cA10, 10, .inl (fun _ => 0))), (q35, .inl (cA36, 17, .inl (fun _ => 0)))] H := hP
  have hD : va_D A [(h0, .inr (9, [.int 0, .ref q1, .ref q3, .ref q5, .int 0, .int 0, .ref q7, .ref q9, .int 0, .int 0, .int 0, .ref q11, .int 0, .int 0, .int (-1), .int 0, .ref q13, .int 0, .ref q15, .ref q17, .ref q19, .int 0, .ref q21, .int 0, .ref q23, .ref q25, .ref q27, .ref q29, .ref q31, .int 0, .ref q33, .ref q35, .null, .null, .int 0, .int 0, .int 0, .int 0, .int 0, .int 0, .null, .int 0, .null, .null, .null])), (q1, .inl (cA2, 2816, .inl (fun _ => 0))), (q3, .inl (cA4, 44, .inl (fun _ => 0))), (q5, .inl (cA6, 192, .inl (fun _ => 0))), (q9, .inl (cA10, 10, .inl (fun _ => 0))), (q35, .inl (cA36, 17, .inl (fun _ => 0)))] := hD
  have hP := hP.sub (ws' := [(h0, .inr (9, [.int 0, .ref q1, .ref q3, .ref q5, .int 0, .int 0, .ref q7, .ref q9, .int 0, .int 0, .int 0, .ref q11, .int 0, .int 0, .int (-1), .int 0, .ref q13, .int 0, .ref q15, .ref q17, .ref q19, .int 0, .ref q21, .int 0, .ref q23, .ref q25, .ref q27, .ref q29, .ref q31, .int 0, .ref q33, .ref q35, .null, .null, .int 0, .int 0, .int 0, .int 0, .int 0, .int 0, .null, .int 0, .null, .null, .null])), (q1, .inl (cA2, 2816, .inl (fun _ => 0))), (q3, .inl (cA4, 44, .inl (fun _ => 0))), (q5, .inl (cA6, 192, .inl (fun _ => 0))), (q9, .inl (cA10, 10, .inl (fun _ => 0)))]) [0, 1, 2, 3, 4] rfl
  have hD := hD.sub (ws' := [(h0, .inr (9, [.int 0, .ref q1, .ref q3, .ref q5, .int 0, .int 0, .ref q7, .ref q9, .int 0, .int 0, .int 0, .ref q11, .int 0, .int 0, .int (-1), .int 0, .ref q13, .int 0, .ref q15, .ref q17, .ref q19, .int 0, .ref q21, .int 0, .ref q23, .ref q25, .ref q27, .ref q29, .ref q31, .int 0, .ref q33, .ref q35, .null, .null, .int 0, .int 0, .int 0, .int 0, .int 0, .int 0, .null, .int 0, .null, .null, .null])), (q1, .inl (cA2, 2816, .inl (fun _ => 0))), (q3, .inl (cA4, 44, .inl (fun _ => 0))), (q5, .inl (cA6, 192, .inl (fun _ => 0))), (q9, .inl (cA10, 10, .inl (fun _ => 0)))]) [0, 1, 2, 3, 4] (by decide) rfl
  have hK := hK.sub (tys' := [(cA2, .int), (cA4, .boolean), (cA6, .int), (cA10, .boolean)]) [0, 1, 2, 3] rfl
  refine lv_aload_n hx hb d_Mo_init_158 rfl (lv_at hl 0 rfl) ?_
  refine lv_bipush (v := 17) hx hb d_Mo_init_159 (by decide) ?_
  refine va_newa (D := (dC, dI)) (atype := .int) (a0 := (17, .inl (fun _ => 0))) (ty := .int) hx hb (hB _ hw_131) rfl hK hP hD hS hA (fun _ => rfl) (by decide) (N' := 17) rfl (by decide) (Nat.le_of_ble_eq_true rfl) (Nat.le_of_ble_eq_true rfl) d_Mo_init_161 (fun q37 cA38 H hK hP hD hS => ?_)
  have hP : va_P (dC, dI) gx_cl [(h0, .inr (9, [.int 0, .ref q1, .ref q3, .ref q5, .int 0, .int 0, .ref q7, .ref q9, .int 0, .int 0, .int 0, .ref q11, .int 0, .int 0, .int (-1), .int 0, .ref q13, .int 0, .ref q15, .ref q17, .ref q19, .int 0, .ref q21, .int 0, .ref q23, .ref q25, .ref q27, .ref q29, .ref q31, .int 0, .ref q33, .ref q35, .null, .null, .int 0, .int 0, .int 0, .int 0, .int 0, .int 0, .null, .int 0, .null, .null, .null])), (q1, .inl (cA2, 2816, .inl (fun _ => 0))), (q3, .inl (cA4, 44, .inl (fun _ => 0))), (q5, .inl (cA6, 192, .inl (fun _ => 0))), (q9, .inl (cA10, 10, .inl (fun _ => 0))), (q37, .inl (cA38, 17, .inl (fun _ => 0)))] H := hP
  have hD : va_D A [(h0, .inr (9, [.int 0, .ref q1, .ref q3, .ref q5, .int 0, .int 0, .ref q7, .ref q9, .int 0, .int 0, .int 0, .ref q11, .int 0, .int 0, .int (-1), .int 0, .ref q13, .int 0, .ref q15, .ref q17, .ref q19, .int 0, .ref q21, .int 0, .ref q23, .ref q25, .ref q27, .ref q29, .ref q31, .int 0, .ref q33, .ref q35, .null, .null, .int 0, .int 0, .int 0, .int 0, .int 0, .int 0, .null, .int 0, .null, .null, .null])), (q1, .inl (cA2, 2816, .inl (fun _ => 0))), (q3, .inl (cA4, 44, .inl (fun _ => 0))), (q5, .inl (cA6, 192, .inl (fun _ => 0))), (q9, .inl (cA10, 10, .inl (fun _ => 0))), (q37, .inl (cA38, 17, .inl (fun _ => 0)))] := hD
  have hK : va_K (dC, dI) gx_cl [(cA2, .int), (cA4, .boolean), (cA6, .int), (cA10, .boolean), (cA38, .int)] s := hK
  refine W.widen (k := 19) (n := 5237) (Nat.le_of_ble_eq_true rfl) (Nat.le_of_ble_eq_true rfl) ?_
  refine va_putF (D := (dC, dI)) (ci := 9) (v := .ref q37) (ty := .array .int) (C := RMo) (T := FMo) (N := 45) hx hb hB in_Mo tMo tMo_ok nMo hown hK hP hD hS 0 rfl rfl 32 (by decide) (hB _ hw_922) (fun _ h9 => h9) rfl hin rfl (by decide +kernel) rfl rfl (Nat.le_of_ble_eq_true rfl) d_Mo_init_163 (fun H locs hP hD hS => ?_)
  have hP : va_P (dC, dI) gx_cl [(h0, .inr (9, [.int 0, .ref q1, .ref q3, .ref q5, .int 0, .int 0, .ref q7, .ref q9, .int 0, .int 0, .int 0, .ref q11, .int 0, .int 0, .int (-1), .int 0, .ref q13, .int 0, .ref q15, .ref q17, .ref q19, .int 0, .ref q21, .int 0, .ref q23, .ref q25, .ref q27, .ref q29, .ref q31, .int 0, .ref q33, .ref q35, .ref q37, .null, .int 0, .int 0, .int 0, .int 0, .int 0, .int 0, .null, .int 0, .null, .null, .null])), (q1, .inl (cA2, 2816, .inl (fun _ => 0))), (q3, .inl (cA4, 44, .inl (fun _ => 0))), (q5, .inl (cA6, 192, .inl (fun _ => 0))), (q9, .inl (cA10, 10, .inl (fun _ => 0))), (q37, .inl (cA38, 17, .inl (fun _ => 0)))] H := hP
  have hD : va_D A [(h0, .inr (9, [.int 0, .ref q1, .ref q3, .ref q5, .int 0, .int 0, .ref q7, .ref q9, .int 0, .int 0, .int 0, .ref q11, .int 0, .int 0, .int (-1), .int 0, .ref q13, .int 0, .ref q15, .ref q17, .ref q19, .int 0, .ref q21, .int 0, .ref q23, .ref q25, .ref q27, .ref q29, .ref q31, .int 0, .ref q33, .ref q35, .ref q37, .null, .int 0, .int 0, .int 0, .int 0, .int 0, .int 0, .null, .int 0, .null, .null, .null])), (q1, .inl (cA2, 2816, .inl (fun _ => 0))), (q3, .inl (cA4, 44, .inl (fun _ => 0))), (q5, .inl (cA6, 192, .inl (fun _ => 0))), (q9, .inl (cA10, 10, .inl (fun _ => 0))), (q37, .inl (cA38, 17, .inl (fun _ => 0)))] := hD
  have hP := hP.sub (ws' := [(h0, .inr (9, [.int 0, .ref q1, .ref q3, .ref q5, .int 0, .int 0, .ref q7, .ref q9, .int 0, .int 0, .int 0, .ref q11, .int 0, .int 0, .int (-1), .int 0, .ref q13, .int 0, .ref q15, .ref q17, .ref q19, .int 0, .ref q21, .int 0, .ref q23, .ref q25, .ref q27, .ref q29, .ref q31, .int 0, .ref q33, .ref q35, .ref q37, .null, .int 0, .int 0, .int 0, .int 0, .int 0, .int 0, .null, .int 0, .null, .null, .null])), (q1, .inl (cA2, 2816, .inl (fun _ => 0))), (q3, .inl (cA4, 44, .inl (fun _ => 0))), (q5, .inl (cA6, 192, .inl (fun _ => 0))), (q9, .inl (cA10, 10, .inl (fun _ => 0)))]) [0, 1, 2, 3, 4] rfl
  have hD := hD.sub (ws' := [(h0, .inr (9, [.int 0, .ref q1, .ref q3, .ref q5, .int 0, .int 0, .ref q7, .ref q9, .int 0, .int 0, .int 0, .ref q11, .int 0, .int 0, .int (-1), .int 0, .ref q13, .int 0, .ref q15, .ref q17, .ref q19, .int 0, .ref q21, .int 0, .ref q23, .ref q25, .ref q27, .ref q29, .ref q31, .int 0, .ref q33, .ref q35, .ref q37, .null, .int 0, .int 0, .int 0, .int 0, .int 0, .int 0, .null, .int 0, .null, .null, .null])), (q1, .inl (cA2, 2816, .inl (fun _ => 0))), (q3, .inl (cA4, 44, .inl (fun _ => 0))), (q5, .inl (cA6, 192, .inl (fun _ => 0))), (q9, .inl (cA10, 10, .inl (fun _ => 0)))]) [0, 1, 2, 3, 4] (by decide) rfl
  have hK := hK.sub (tys' := [(cA2, .int), (cA4, .boolean), (cA6, .int), (cA10, .boolean)]) [0, 1, 2, 3] rfl
  refine lv_aload_n hx hb d_Mo_init_166 rfl (lv_at hl 0 rfl) ?_
  refine lv_bipush (v := 32) hx hb d_Mo_init_167 (by decide) ?_
  refine va_newa (D := (dC, dI)) (atype := .int) (a0 := (32, .inl (fun _ => 0))) (ty := .int) hx hb (hB _ hw_131) rfl hK hP hD hS hA (fun _ => rfl) (by decide) (N' := 32) rfl (by decide) (Nat.le_of_ble_eq_true rfl) (Nat.le_of_ble_eq_true rfl) d_Mo_init_169 (fun q39 cA40 H hK hP hD hS => ?_)
  have hP : va_P (dC, dI) gx_cl [(h0, .inr (9, [.int 0, .ref q1, .ref q3, .ref q5, .int 0, .int 0, .ref q7, .ref q9, .int 0, .int 0, .int 0, .ref q11, .int 0, .int 0, .int (-1), .int 0, .ref q13, .int 0, .ref q15, .ref q17, .ref q19, .int 0, .ref q21, .int 0, .ref q23, .ref q25, .ref q27, .ref q29, .ref q31, .int 0, .ref q33, .ref q35, .ref q37, .null, .int 0, .int 0, .int 0, .int 0, .int 0, .int 0, .null, .int 0, .null, .null, .null])), (q1, .inl (cA2, 2816, .inl (fun _ => 0))), (q3, .inl (cA4, 44, .inl (fun _ => 0))), (q5, .inl (cA6, 192, .inl (fun _ => 0))), (q9, .inl (cA10, 10, .inl (fun _ => 0))), (q39, .inl (cA40, 32, .inl (fun _ => 0)))] H := hP
  have hD : va_D A [(h0, .inr (9, [.int 0, .ref q1, .ref q3, .ref q5, .int 0, .int 0, .ref q7, .ref q9, .int 0, .int 0, .int 0, .ref q11, .int 0, .int 0, .int (-1), .int 0, .ref q13, .int 0, .ref q15, .ref q17, .ref q19, .int 0, .ref q21, .int 0, .ref q23, .ref q25, .ref q27, .ref q29, .ref q31, .int 0, .ref q33, .ref q35, .ref q37, .null, .int 0, .int 0, .int 0, .int 0, .int 0, .int 0, .null, .int 0, .null, .null, .null])), (q1, .inl (cA2, 2816, .inl (fun _ => 0))), (q3, .inl (cA4, 44, .inl (fun _ => 0))), (q5, .inl (cA6, 192, .inl (fun _ => 0))), (q9, .inl (cA10, 10, .inl (fun _ => 0))), (q39, .inl (cA40, 32, .inl (fun _ => 0)))] := hD
  have hK : va_K (dC, dI) gx_cl [(cA2, .int), (cA4, .boolean), (cA6, .int), (cA10, .boolean), (cA40, .int)] s := hK
  refine W.widen (k := 20) (n := 5269) (Nat.le_of_ble_eq_true rfl) (Nat.le_of_ble_eq_true rfl) ?_
  refine va_putF (D := (dC, dI)) (ci := 9) (v := .ref q39) (ty := .array .int) (C := RMo) (T := FMo) (N := 45) hx hb hB in_Mo tMo tMo_ok nMo hown hK hP hD hS 0 rfl rfl 33 (by decide) (hB _ hw_923) (fun _ h9 => h9) rfl hin rfl (by decide +kernel) rfl rfl (Nat.le_of_ble_eq_true rfl) d_Mo_init_171 (fun H locs hP hD hS => ?_)
  have hP : va_P (dC, dI) gx_cl [(h0, .inr (9, [.int 0, .ref q1, .ref q3, .ref q5, .int 0, .int 0, .ref q7, .ref q9, .int 0, .int 0, .int 0, .ref q11, .int 0, .int 0, .int (-1), .int 0, .ref q13, .int 0, .ref q15, .ref q17, .ref q19, .int 0, .ref q21, .int 0, .ref q23, .ref q25, .ref q27, .ref q29, .ref q31, .int 0, .ref q33, .ref q35, .ref q37, .ref q39, .int 0, .int 0, .int 0, .int 0, .int 0, .int 0, .null, .int 0, .null, .null, .null])), (q1, .inl (cA2, 2816, .inl (fun _ => 0))), (q3, .inl (cA4, 44, .inl (fun _ => 0))), (q5, .inl (cA6, 192, .inl (fun _ => 0))), (q9, .inl (cA10, 10, .inl (fun _ => 0))), (q39, .inl (cA40, 32, .inl (fun _ => 0)))] H := hP
  have hD : va_D A [(h0, .inr (9, [.int 0, .ref q1, .ref q3, .ref q5, .int 0, .int 0, .ref q7, .ref q9, .int 0, .int 0, .int 0, .ref q11, .int 0, .int 0, .int (-1), .int 0, .ref q13, .int 0, .ref q15, .ref q17, .ref q19, .int 0, .ref q21, .int 0, .ref q23, .ref q25, .ref q27, .ref q29, .ref q31, .int 0, .ref q33, .ref q35, .ref q37, .ref q39, .int 0, .int 0, .int 0, .int 0, .int 0, .int 0, .null, .int 0, .null, .null, .null])), (q1, .inl (cA2, 2816, .inl (fun _ => 0))), (q3, .inl (cA4, 44, .inl (fun _ => 0))), (q5, .inl (cA6, 192, .inl (fun _ => 0))), (q9, .inl (cA10, 10, .inl (fun _ => 0))), (q39, .inl (cA40, 32, .inl (fun _ => 0)))] := hD
  have hP := hP.sub (ws' := [(h0, .inr (9, [.int 0, .ref q1, .ref q3, .ref q5, .int 0, .int 0, .ref q7, .ref q9, .int 0, .int 0, .int 0, .ref q11, .int 0, .int 0, .int (-1), .int 0, .ref q13, .int 0, .ref q15, .ref q17, .ref q19, .int 0, .ref q21, .int 0, .ref q23, .ref q25, .ref q27, .ref q29, .ref q31, .int 0, .ref q33, .ref q35, .ref q37, .ref q39, .int 0, .int 0, .int 0, .int 0, .int 0, .int 0, .null, .int 0, .null, .null, .null])), (q1, .inl (cA2, 2816, .inl (fun _ => 0))), (q3, .inl (cA4, 44, .inl (fun _ => 0))), (q5, .inl (cA6, 192, .inl (fun _ => 0))), (q9, .inl (cA10, 10, .inl (fun _ => 0)))]) [0, 1, 2, 3, 4] rfl
  have hD := hD.sub (ws' := [(h0, .inr (9, [.int 0, .ref q1, .ref q3, .ref q5, .int 0, .int 0, .ref q7, .ref q9, .int 0, .int 0, .int 0, .ref q11, .int 0, .int 0, .int (-1), .int 0, .ref q13, .int 0, .ref q15, .ref q17, .ref q19, .int 0, .ref q21, .int 0, .ref q23, .ref q25, .ref q27, .ref q29, .ref q31, .int 0, .ref q33, .ref q35, .ref q37, .ref q39, .int 0, .int 0, .int 0, .int 0, .int 0, .int 0, .null, .int 0, .null, .null, .null])), (q1, .inl (cA2, 2816, .inl (fun _ => 0))), (q3, .inl (cA4, 44, .inl (fun _ => 0))), (q5, .inl (cA6, 192, .inl (fun _ => 0))), (q9, .inl (cA10, 10, .inl (fun _ => 0)))]) [0, 1, 2, 3, 4] (by decide) rfl
  have hK := hK.sub (tys' := [(cA2, .int), (cA4, .boolean), (cA6, .int), (cA10, .boolean)]) [0, 1, 2, 3] rfl
  refine lv_aload_n hx hb d_Mo_init_174 rfl (lv_at hl 0 rfl) ?_
  refine lv_sipush (v := 256) hx hb d_Mo_init_175 (by decide) ?_
  refine va_newa (D := (dC, dI)) (atype := .int) (a0 := (256, .inl (fun _ => 0))) (ty := .int) hx hb (hB _ hw_131) rfl hK hP hD hS hA (fun _ => rfl) (by decide) (N' := 256) rfl (by decide) (Nat.le_of_ble_eq_true rfl) (Nat.le_of_ble_eq_true rfl) d_Mo_init_178 (fun q41 cA42 H hK hP hD hS => ?_)
  have hP : va_P (dC, dI) gx_cl [(h0, .inr (9, [.int 0, .ref q1, .ref q3, .ref q5, .int 0, .int 0, .ref q7, .ref q9, .int 0, .int 0, .int 0, .ref q11, .int 0, .int 0, .int (-1), .int 0, .ref q13, .int 0, .ref q15, .ref q17, .ref q19, .int 0, .ref q21, .int 0, .ref q23, .ref q25, .ref q27, .ref q29, .ref q31, .int 0, .ref q33, .ref q35, .ref q37, .ref q39, .int 0, .int 0, .int 0, .int 0, .int 0, .int 0, .null, .int 0, .null, .null, .null])), (q1, .inl (cA2, 2816, .inl (fun _ => 0))), (q3, .inl (cA4, 44, .inl (fun _ => 0))), (q5, .inl (cA6, 192, .inl (fun _ => 0))), (q9, .inl (cA10, 10, .inl (fun _ => 0))), (q41, .inl (cA42, 256, .inl (fun _ => 0)))] H := hP
  have hD : va_D A [(h0, .inr (9, [.int 0, .ref q1, .ref q3, .ref q5, .int 0, .int 0, .ref q7, .ref q9, .int 0, .int 0, .int 0, .ref q11, .int 0, .int 0, .int (-1), .int 0, .ref q13, .int 0, .ref q15, .ref q17, .ref q19, .int 0, .ref q21, .int 0, .ref q23, .ref q25, .ref q27, .ref q29, .ref q31, .int 0, .ref q33, .ref q35, .ref q37, .ref q39, .int 0, .int 0, .int 0, .int 0, .int 0, .int 0, .null, .int 0, .null, .null, .null])), (q1, .inl (cA2, 2816, .inl (fun _ => 0))), (q3, .inl (cA4, 44, .inl (fun _ => 0))), (q5, .inl (cA6, 192, .inl (fun _ => 0))), (q9, .inl (cA10, 10, .inl (fun _ => 0))), (q41, .inl (cA42, 256, .inl (fun _ => 0)))] := hD
  have hK : va_K (dC, dI) gx_cl [(cA2, .int), (cA4, .boolean), (cA6, .int), (cA10, .boolean), (cA42, .int)] s := hK
  refine W.widen (k := 21) (n := 5525) (Nat.le_of_ble_eq_true rfl) (Nat.le_of_ble_eq_true rfl) ?_
  refine va_putF (D := (dC, dI)) (ci := 9) (v := .ref q41) (ty := .array .int) (C := RMo) (T := FMo) (N := 45) hx hb hB in_Mo tMo tMo_ok nMo hown hK hP hD hS 0 rfl rfl 40 (by decide) (hB _ hw_930) (fun _ h9 => h9) rfl hin rfl (by decide +kernel) rfl rfl (Nat.le_of_ble_eq_true rfl) d_Mo_init_180 (fun H locs hP hD hS => ?_)
  have hP : va_P (dC, dI) gx_cl [(h0, .inr (9, [.int 0, .ref q1, .ref q3, .ref q5, .int 0, .int 0, .ref q7, .ref q9, .int 0, .int 0, .int 0, .ref q11, .int 0, .int 0, .int (-1), .int 0, .ref q13, .int 0, .ref q15, .ref q17, .ref q19, .int 0, .ref q21, .int 0, .ref q23, .ref q25, .ref q27, .ref q29, .ref q31, .int 0, .ref q33, .ref q35, .ref q37, .ref q39, .int 0, .int 0, .int 0, .int 0, .int 0, .int 0, .ref q41, .int 0, .null, .null, .null])), (q1, .inl (cA2, 2816, .inl (fun _ => 0))), (q3, .inl (cA4, 44, .inl (fun _ => 0))), (q5, .inl (cA6, 192, .inl (fun _ => 0))), (q9, .inl (cA10, 10, .inl (fun _ => 0))), (q41, .inl (cA42, 256, .inl (fun _ => 0)))] H := hP
  have hD : va_D A [(h0, .inr (9, [.int 0, .ref q1, .ref q3, .ref q5, .int 0, .int 0, .ref q7, .ref q9, .int 0, .int 0, .int 0, .ref q11, .int 0, .int 0, .int (-1), .int 0, .ref q13, .int 0, .ref q15, .ref q17, .ref q19, .int 0, .ref q21, .int 0, .ref q23, .ref q25, .ref q27, .ref q29, .ref q31, .int 0, .ref q33, .ref q35, .ref q37, .ref q39, .int 0, .int 0, .int 0, .int 0, .int 0, .int 0, .ref q41, .int 0, .null, .null, .null])), (q1, .inl (cA2, 2816, .inl (fun _ => 0))), (q3, .inl (cA4, 44, .inl (fun _ => 0))), (q5, .inl (cA6, 192, .inl (fun _ => 0))), (q9, .inl (cA10, 10, .inl (fun _ => 0))), (q41, .inl (cA42, 256, .inl (fun _ => 0)))] := hD
  have hP := hP.sub (ws' := [(h0, .inr (9, [.int 0, .ref q1, .ref q3, .ref q5, .int 0, .int 0, .ref q7, .ref q9, .int 0, .int 0, .int 0, .ref q11, .int 0, .int 0, .int (-1), .int 0, .ref q13, .int 0, .ref q15, .ref q17, .ref q19, .int 0, .ref q21, .int 0, .ref q23, .ref q25, .ref q27, .ref q29, .ref q31, .int 0, .ref q33, .ref q35, .ref q37, .ref q39, .int 0, .int 0, .int 0, .int 0, .int 0, .int 0, .ref q41, .int 0, .null, .null, .null])), (q1, .inl (cA2, 2816, .inl (fun _ => 0))), (q3, .inl (cA4, 44, .inl (fun _ => 0))), (q5, .inl (cA6, 192, .inl (fun _ => 0))), (q9, .inl (cA10, 10, .inl (fun _ => 0)))]) [0, 1, 2, 3, 4] rfl
  have hD := hD.sub (ws' := [(h0, .inr (9, [.int 0, .ref q1, .ref q3, .ref q5, .int 0, .int 0, .ref q7, .ref q9, .int 0, .int 0, .int 0, .ref q11, .int 0, .int 0, .int (-1), .int 0, .ref q13, .int 0, .ref q15, .ref q17, .ref q19, .int 0, .ref q21, .int 0, .ref q23, .ref q25, .ref q27, .ref q29, .ref q31, .int 0, .ref q33, .ref q35, .ref q37, .ref q39, .int 0, .int 0, .int 0, .int 0, .int 0, .int 0, .ref q41, .int 0, .null, .null, .null])), (q1, .inl (cA2, 2816, .inl (fun _ => 0))), (q3, .inl (cA4, 44, .inl (fun _ => 0))), (q5, .inl (cA6, 192, .inl (fun _ => 0))), (q9, .inl (cA10, 10, .inl (fun _ => 0)))]) [0, 1, 2, 3, 4] (by decide) rfl
  have hK := hK.sub (tys' := [(cA2, .int), (cA4, .boolean), (cA6, .int), (cA10, .boolean)]) [0, 1, 2, 3] rfl
  refine lv_aload_n hx hb d_Mo_init_183 rfl (lv_at hl 0 rfl) ?_
  refine lv_sipush (v := 128) hx hb d_Mo_init_184 (by decide) ?_
  refine va_newa (D := (dC, dI)) (atype := .int) (a0 := (128, .inl (fun _ => 0))) (ty := .int) hx hb (hB _ hw_131) rfl hK hP hD hS hA (fun _ => rfl) (by decide) (N' := 128) rfl (by decide) (Nat.le_of_ble_eq_true rfl) (Nat.le_of_ble_eq_true rfl) d_Mo_init_187 (fun q43 cA44 H hK hP hD hS => ?_)
  have hP : va_P (dC, dI) gx_cl [(h0, .inr (9, [.int 0, .ref q1, .ref q3, .ref q5, .int 0, .int 0, .ref q7, .ref q9, .int 0, .int 0, .int 0, .ref q11, .int 0, .int 0, .int (-1), .int 0, .ref q13, .int 0, .ref q15, .ref q17, .ref q19, .int 0, .ref q21, .int 0, .ref q23, .ref q25, .ref q27, .ref q29, .ref q31, .int 0, .ref q33, .ref q35, .ref q37, .ref q39, .int 0, .int 0, .int 0, .int 0, .int 0, .int 0, .ref q41, .int 0, .null, .null, .null])), (q1, .inl (cA2, 2816, .inl (fun _ => 0))), (q3, .inl (cA4, 44, .inl (fun _ => 0))), (q5, .inl (cA6, 192, .inl (fun _ => 0))), (q9, .inl (cA10, 10, .inl (fun _ => 0))), (q43, .inl (cA44, 128, .inl (fun _ => 0)))] H := hP
  have hD : va_D A [(h0, .inr (9, [.int 0, .ref q1, .ref q3, .ref q5, .int 0, .int 0, .ref q7, .ref q9, .int 0, .int 0, .int 0, .ref q11, .int 0, .int 0, .int (-1), .int 0, .ref q13, .int 0, .ref q15, .ref q17, .ref q19, .int 0, .ref q21, .int 0, .ref q23, .ref q25, .ref q27, .ref q29, .ref q31, .int 0, .ref q33, .ref q35, .ref q37, .ref q39, .int 0, .int 0, .int 0, .int 0, .int 0, .int 0, .ref q41, .int 0, .null, .null, .null])), (q1, .inl (cA2, 2816, .inl (fun _ => 0))), (q3, .inl (cA4, 44, .inl (fun _ => 0))), (q5, .inl (cA6, 192, .inl (fun _ => 0))), (q9, .inl (cA10, 10, .inl (fun _ => 0))), (q43, .inl (cA44, 128, .inl (fun _ => 0)))] := hD
  have hK : va_K (dC, dI) gx_cl [(cA2, .int), (cA4, .boolean), (cA6, .int), (cA10, .boolean), (cA44, .int)] s := hK
  refine W.widen (k := 22) (n := 5653) (Nat.le_of_ble_eq_true rfl) (Nat.le_of_ble_eq_true rfl) ?_
  refine va_putF (D := (dC, dI)) (ci := 9) (v := .ref q43) (ty := .array .int) (C := RMo) (T := FMo) (N := 45) hx hb hB in_Mo tMo tMo_ok nMo hown hK hP hD hS 0 rfl rfl 42 (by decide) (hB _ hw_932) (fun _ h9 => h9) rfl hin rfl (by decide +kernel) rfl rfl (Nat.le_of_ble_eq_true rfl) d_Mo_init_189 (fun H locs hP hD hS => ?_)
  have hP : va_P (dC, dI) gx_cl [(h0, .inr (9, [.int 0, .ref q1, .ref q3, .ref q5, .int 0, .int 0, .ref q7, .ref q9, .int 0, .int 0, .int 0, .ref q11, .int 0, .int 0, .int (-1), .int 0, .ref q13, .int 0, .ref q15, .ref q17, .ref q19, .int 0, .ref q21, .int 0, .ref q23, .ref q25, .ref q27, .ref q29, .ref q31, .int 0, .ref q33, .ref q35, .ref q37, .ref q39, .int 0, .int 0, .int 0, .int 0, .int 0, .int 0, .ref q41, .int 0, .ref q43, .null, .null])), (q1, .inl (cA2, 2816, .inl (fun _ => 0))), (q3, .inl (cA4, 44, .inl (fun _ => 0))), (q5, .inl (cA6, 192, .inl (fun _ => 0))), (q9, .inl (cA10, 10, .inl (fun _ => 0))), (q43, .inl (cA44, 128, .inl (fun _ => 0)))] H := hP
  have hD : va_D A [(h0, .inr (9, [.int 0, .ref q1, .ref q3, .ref q5, .int 0, .int 0, .ref q7, .ref q9, .int 0, .int 0, .int 0, .ref q11, .int 0, .int 0, .int (-1), .int 0, .ref q13, .int 0, .ref q15, .ref q17, .ref q19, .int 0, .ref q21, .int 0, .ref q23, .ref q25, .ref q27, .ref q29, .ref q31, .int 0, .ref q33, .ref q35, .ref q37, .ref q39, .int 0, .int 0, .int 0, .int 0, .int 0, .int 0, .ref q41, .int 0, .ref q43, .null, .null])), (q1, .inl (cA2, 2816, .inl (fun _ => 0))), (q3, .inl (cA4, 44, .inl (fun _ => 0))), (q5, .inl (cA6, 192, .inl (fun _ => 0))), (q9, .inl (cA10, 10, .inl (fun _ => 0))), (q43, .inl (cA44, 128, .inl (fun _ => 0)))] := hD
  have hP := hP.sub (ws' := [(h0, .inr (9, [.int 0, .ref q1, .ref q3, .ref q5, .int 0, .int 0, .ref q7, .ref q9, .int 0, .int 0, .int 0, .ref q11, .int 0, .int 0, .int (-1), .int 0, .ref q13, .int 0, .ref q15, .ref q17, .ref q19, .int 0, .ref q21, .int 0, .ref q23, .ref q25, .ref q27, .ref q29, .ref q31, .int 0, .ref q33, .ref q35, .ref q37, .ref q39, .int 0, .int 0, .int 0, .int 0, .int 0, .int 0, .ref q41, .int 0, .ref q43, .null, .null])), (q1, .inl (cA2, 2816, .inl (fun _ => 0))), (q3, .inl (cA4, 44, .inl (fun _ => 0))), (q5, .inl (cA6, 192, .inl (fun _ => 0))), (q9, .inl (cA10, 10, .inl (fun _ => 0)))]) [0, 1, 2, 3, 4] rfl
  have hD := hD.sub (ws' := [(h0, .inr (9, [.int 0, .ref q1, .ref q3, .ref q5, .int 0, .int 0, .ref q7, .ref q9, .int 0, .int 0, .int 0, .ref q11, .int 0, .int 0, .int (-1), .int 0, .ref q13, .int 0, .ref q15, .ref q17, .ref q19, .int 0, .ref q21, .int 0, .ref q23, .ref q25, .ref q27, .ref q29, .ref q31, .int 0, .ref q33, .ref q35, .ref q37, .ref q39, .int 0, .int 0, .int 0, .int 0, .int 0, .int 0, .ref q41, .int 0, .ref q43, .null, .null])), (q1, .inl (cA2, 2816, .inl (fun _ => 0))), (q3, .inl (cA4, 44, .inl (fun _ => 0))), (q5, .inl (cA6, 192, .inl (fun _ => 0))), (q9, .inl (cA10, 10, .inl (fun _ => 0)))]) [0, 1, 2, 3, 4] (by decide) rfl
  have hK := hK.sub (tys' := [(cA2, .int), (cA4, .boolean), (cA6, .int), (cA10, .boolean)]) [0, 1, 2, 3] rfl
  refine lv_aload_n hx hb d_Mo_init_192 rfl (lv_at hl 0 rfl) ?_
  refine lv_bipush (v := 64) hx hb d_Mo_init_193 (by decide) ?_
  refine va_newa (D := (dC, dI)) (atype := .int) (a0 := (64, .inl (fun _ => 0))) (ty := .int) hx hb (hB _ hw_131) rfl hK hP hD hS hA (fun _ => rfl) (by decide) (N' := 64) rfl (by decide) (Nat.le_of_ble_eq_true rfl) (Nat.le_of_ble_eq_true rfl) d_Mo_init_195 (fun q45 cA46 H hK hP hD hS => ?_)
  have hP : va_P (dC, dI) gx_cl [(h0, .inr (9, [.int 0, .ref q1, .ref q3, .ref q5, .int 0, .int 0, .ref q7, .ref q9, .int 0, .int 0, .int 0, .ref q11, .int 0, .int 0, .int (-1), .int 0, .ref q13, .int 0, .ref q15, .ref q17, .ref q19, .int 0, .ref q21, .int 0, .ref q23, .ref q25, .ref q27, .ref q29, .ref q31, .int 0, .ref q33, .ref q35, .ref q37, .ref q39, .int 0, .int 0, .int 0, .int 0, .int 0, .int 0, .ref q41, .int 0, .ref q43, .null, .null])), (q1, .inl (cA2, 2816, .inl (fun _ => 0))), (q3, .inl (cA4, 44, .inl (fun _ => 0))), (q5, .inl (cA6, 192, .inl (fun _ => 0))), (q9, .inl (cA10, 10, .inl (fun _ => 0))), (q45, .inl (cA46, 64, .inl (fun _ => 0)))] H := hP
  have hD : va_D A [(h0, .inr (9, [.int 0, .ref q1, .ref q3, .ref q5, .int 0, .int 0, .ref q7, .ref q9, .int 0, .int 0, .int 0, .ref q11, .int 0, .int 0, .int (-1), .int 0, .ref q13, .int 0, .ref q15, .ref q17, .ref q19, .int 0, .ref q21, .int 0, .ref q23, .ref q25, .ref q27, .ref q29, .ref q31, .int 0, .ref q33, .ref q35, .ref q37, .ref q39, .int 0, .int 0, .int 0, .int 0, .int 0, .int 0, .ref q41, .int 0, .ref q43, .null, .null])), (q1, .inl (cA2, 2816, .inl (fun _ => 0))), (q3, .inl (cA4, 44, .inl (fun _ => 0))), (q5, .inl (cA6, 192, .inl (fun _ => 0))), (q9, .inl (cA10, 10, .inl (fun _ => 0))), (q45, .inl (cA46, 64, .inl (fun _ => 0)))] := hD
  have hK : va_K (dC, dI) gx_cl [(cA2, .int), (cA4, .boolean), (cA6, .int), (cA10, .boolean), (cA46, .int)] s := hK
  refine W.widen (k := 23) (n := 5717) (Nat.le_of_ble_eq_true rfl) (Nat.le_of_ble_eq_true rfl) ?_
  refine va_putF (D := (dC, dI)) (ci := 9) (v := .ref q45) (ty := .array .int) (C := RMo) (T := FMo) (N := 45) hx hb hB in_Mo tMo tMo_ok nMo hown hK hP hD hS 0 rfl rfl 43 (by decide) (hB _ hw_933) (fun _ h9 => h9) rfl hin rfl (by decide +kernel) rfl rfl (Nat.le_of_ble_eq_true rfl) d_Mo_init_197 (fun H locs hP hD hS => ?_)
  have hP : va_P (dC, dI) gx_cl [(h0, .inr (9, [.int 0, .ref q1, .ref q3, .ref q5, .int 0, .int 0, .ref q7, .ref q9, .int 0, .int 0, .int 0, .ref q11, .int 0, .int 0, .int (-1), .int 0, .ref q13, .int 0, .ref q15, .ref q17, .ref q19, .int 0, .ref q21, .int 0, .ref q23, .ref q25, .ref q27, .ref q29, .ref q31, .int 0, .ref q33, .ref q35, .ref q37, .ref q39, .int 0, .int 0, .int 0, .int 0, .int 0, .int 0, .ref q41, .int 0, .ref q43, .ref q45, .null])), (q1, .inl (cA2, 2816, .inl (fun _ => 0))), (q3, .inl (cA4, 44, .inl (fun _ => 0))), (q5, .inl (cA6, 192, .inl (fun _ => 0))), (q9, .inl (cA10, 10, .inl (fun _ => 0))), (q45, .inl (cA46, 64, .inl (fun _ => 0)))] H := hP
  have hD : va_D A [(h0, .inr (9, [.int 0, .ref q1, .ref q3, .ref q5, .int 0, .int 0, .ref q7, .ref q9, .int 0, .int 0, .int 0, .ref q11, .int 0, .int 0, .int (-1), .int 0, .ref q13, .int 0, .ref q15, .ref q17, .ref q19, .int 0, .ref q21, .int 0, .ref q23, .ref q25, .ref q27, .ref q29, .ref q31, .int 0, .ref q33, .ref q35, .ref q37, .ref q39, .int 0, .int 0, .int 0, .int 0, .int 0, .int 0, .ref q41, .int 0, .ref q43, .ref q45, .null])), (q1, .inl (cA2, 2816, .inl (fun _ => 0))), (q3, .inl (cA4, 44, .inl (fun _ => 0))), (q5, .inl (cA6, 192, .inl (fun _ => 0))), (q9, .inl (cA10, 10, .inl (fun _ => 0))), (q45, .inl (cA46, 64, .inl (fun _ => 0)))] := hD
  have hP := hP.sub (ws' := [(h0, .inr (9, [.int 0, .ref q1, .ref q3, .ref q5, .int 0, .int 0, .ref q7, .ref q9, .int 0, .int 0, .int 0, .ref q11, .int 0, .int 0, .int (-1), .int 0, .ref q13, .int 0, .ref q15, .ref q17, .ref q19, .int 0, .ref q21, .int 0, .ref q23, .ref q25, .ref q27, .ref q29, .ref q31, .int 0, .ref q33, .ref q35, .ref q37, .ref q39, .int 0, .int 0, .int 0, .int 0, .int 0, .int 0, .ref q41, .int 0, .ref q43, .ref q45, .null])), (q1, .inl (cA2, 2816, .inl (fun _ => 0))), (q3, .inl (cA4, 44, .inl (fun _ => 0))), (q5, .inl (cA6, 192, .inl (fun _ => 0))), (q9, .inl (cA10, 10, .inl (fun _ => 0)))]) [0, 1, 2, 3, 4] rfl
  have hD := hD.sub (ws' := [(h0, .inr (9, [.int 0, .ref q1, .ref q3, .ref q5, .int 0, .int 0, .ref q7, .ref q9, .int 0, .int 0, .int 0, .ref q11, .int 0, .int 0, .int (-1), .int 0, .ref q13, .int 0, .ref q15, .ref q17, .ref q19, .int 0, .ref q21, .int 0, .ref q23, .ref q25, .ref q27, .ref q29, .ref q31, .int 0, .ref q33, .ref q35, .ref q37, .ref q39, .int 0, .int 0, .int 0, .int 0, .int 0, .int 0, .ref q41, .int 0, .ref q43, .ref q45, .null])), (q1, .inl (cA2, 2816, .inl (fun _ => 0))), (q3, .inl (cA4, 44, .inl (fun _ => 0))), (q5, .inl (cA6, 192, .inl (fun _ => 0))), (q9, .inl (cA10, 10, .inl (fun _ => 0)))]) [0, 1, 2, 3, 4] (by decide) rfl
  have hK := hK.sub (tys' := [(cA2, .int), (cA4, .boolean), (cA6, .int), (cA10, .boolean)]) [0, 1, 2, 3] rfl
  refine lv_aload_n hx hb d_Mo_init_200 rfl (lv_at hl 0 rfl) ?_
  refine lv_sipush (v := 768) hx hb d_Mo_init_201 (by decide) ?_
  refine va_newa (D := (dC, dI)) (atype := .int) (a0 := (768, .inl (fun _ => 0))) (ty := .int) hx hb (hB _ hw_131) rfl hK hP hD hS hA (fun _ => rfl) (by decide) (N' := 768) rfl (by decide) (Nat.le_of_ble_eq_true rfl) (Nat.le_of_ble_eq_true rfl) d_Mo_init_204 (fun q47 cA48 H hK hP hD hS => ?_)
  have hP : va_P (dC, dI) gx_cl [(h0, .inr (9, [.int 0, .ref q1, .ref q3, .ref q5, .int 0, .int 0, .ref q7, .ref q9, .int 0, .int 0, .int 0, .ref q11, .int 0, .int 0, .int (-1), .int 0, .ref q13, .int 0, .ref q15, .ref q17, .ref q19, .int 0, .ref q21, .int 0, .ref q23, .ref q25, .ref q27, .ref q29, .ref q31, .int 0, .ref q33, .ref q35, .ref q37, .ref q39, .int 0, .int 0, .int 0, .int 0, .int 0, .int 0, .ref q41, .int 0, .ref q43, .ref q45, .null])), (q1, .inl (cA2, 2816, .inl (fun _ => 0))), (q3, .inl (cA4, 44, .inl (fun _ => 0))), (q5, .inl (cA6, 192, .inl (fun _ => 0))), (q9, .inl (cA10, 10, .inl (fun _ => 0))), (q47, .inl (cA48, 768, .inl (fun _ => 0)))] H := hP
  have hD : va_D A [(h0, .inr (9, [.int 0, .ref q1, .ref q3, .ref q5, .int 0, .int 0, .ref q7, .ref q9, .int 0, .int 0, .int 0, .ref q11, .int 0, .int 0, .int (-1), .int 0, .ref q13, .int 0, .ref q15, .ref q17, .ref q19, .int 0, .ref q21, .int 0, .ref q23, .ref q25, .ref q27, .ref q29, .ref q31, .int 0, .ref q33, .ref q35, .ref q37, .ref q39, .int 0, .int 0, .int 0, .int 0, .int 0, .int 0, .ref q41, .int 0, .ref q43, .ref q45, .null])), (q1, .inl (cA2, 2816, .inl (fun _ => 0))), (q3, .inl (cA4, 44, .inl (fun _ => 0))), (q5, .inl (cA6, 192, .inl (fun _ => 0))), (q9, .inl (cA10, 10, .inl (fun _ => 0))), (q47, .inl (cA48, 768, .inl (fun _ => 0)))] := hD
  have hK : va_K (dC, dI) gx_cl [(cA2, .int), (cA4, .boolean), (cA6, .int), (cA10, .boolean), (cA48, .int)] s := hK
  refine W.widen (k := 24) (n := 6485) (Nat.le_of_ble_eq_true rfl) (Nat.le_of_ble_eq_true rfl) ?_
  refine va_putF (D := (dC, dI)) (ci := 9) (v := .ref q47) (ty := .array .int) (C := RMo) (T := FMo) (N := 45) hx hb hB in_Mo tMo tMo_ok nMo hown hK hP hD hS 0 rfl rfl 44 (by decide) (hB _ hw_934) (fun _ h9 => h9) rfl hin rfl (by decide +kernel) rfl rfl (Nat.le_of_ble_eq_true rfl) d_Mo_init_206 (fun H locs hP hD hS => ?_)
  have hP : va_P (dC, dI) gx_cl [(h0, .inr (9, [.int 0, .ref q1, .ref q3, .ref q5, .int 0, .int 0, .ref q7, .ref q9, .int 0, .int 0, .int 0, .ref q11, .int 0, .int 0, .int (-1), .int 0, .ref q13, .int 0, .ref q15, .ref q17, .ref q19, .int 0, .ref q21, .int 0, .ref q23, .ref q25, .ref q27, .ref q29, .ref q31, .int 0, .ref q33, .ref q35, .ref q37, .ref q39, .int 0, .int 0, .int 0, .int 0, .int 0, .int 0, .ref q41, .int 0, .ref q43, .ref q45, .ref q47])), (q1, .inl (cA2, 2816, .inl (fun _ => 0))), (q3, .inl (cA4, 44, .inl (fun _ => 0))), (q5, .inl (cA6, 192, .inl (fun _ => 0))), (q9, .inl (cA10, 10, .inl (fun _ => 0))), (q47, .inl (cA48, 768, .inl (fun _ => 0)))] H := hP
  have hD : va_D A [(h0, .inr (9, [.int 0, .ref q1, .ref q3, .ref q5, .int 0, .int 0, .ref q7, .ref q9, .int 0, .int 0, .int 0, .ref q11, .int 0, .int 0, .int (-1), .int 0, .ref q13, .int 0, .ref q15, .ref q17, .ref q19, .int 0, .ref q21, .int 0, .ref q23, .ref q25, .ref q27, .ref q29, .ref q31, .int 0, .ref q33, .ref q35, .ref q37, .ref q39, .int 0, .int 0, .int 0, .int 0, .int 0, .int 0, .ref q41, .int 0, .ref q43, .ref q45, .ref q47])), (q1, .inl (cA2, 2816, .inl (fun _ => 0))), (q3, .inl (cA4, 44, .inl (fun _ => 0))), (q5, .inl (cA6, 192, .inl (fun _ => 0))), (q9, .inl (cA10, 10, .inl (fun _ => 0))), (q47, .inl (cA48, 768, .inl (fun _ => 0)))] := hD
  have hP := hP.sub (ws' := [(h0, .inr (9, [.int 0, .ref q1, .ref q3, .ref q5, .int 0, .int 0, .ref q7, .ref q9, .int 0, .int 0, .int 0, .ref q11, .int 0, .int 0, .int (-1), .int 0, .ref q13, .int 0, .ref q15, .ref q17, .ref q19, .int 0, .ref q21, .int 0, .ref q23, .ref q25, .ref q27, .ref q29, .ref q31, .int 0, .ref q33, .ref q35, .ref q37, .ref q39, .int 0, .int 0, .int 0, .int 0, .int 0, .int 0, .ref q41, .int 0, .ref q43, .ref q45, .ref q47])), (q1, .inl (cA2, 2816, .inl (fun _ => 0))), (q3, .inl (cA4, 44, .inl (fun _ => 0))), (q5, .inl (cA6, 192, .inl (fun _ => 0))), (q9, .inl (cA10, 10, .inl (fun _ => 0)))]) [0, 1, 2, 3, 4] rfl
  have hD := hD.sub (ws' := [(h0, .inr (9, [.int 0, .ref q1, .ref q3, .ref q5, .int 0, .int 0, .ref q7, .ref q9, .int 0, .int 0, .int 0, .ref q11, .int 0, .int 0, .int (-1), .int 0, .ref q13, .int 0, .ref q15, .ref q17, .ref q19, .int 0, .ref q21, .int 0, .ref q23, .ref q25, .ref q27, .ref q29, .ref q31, .int 0, .ref q33, .ref q35, .ref q37, .ref q39, .int 0, .int 0, .int 0, .int 0, .int 0, .int 0, .ref q41, .int 0, .ref q43, .ref q45, .ref q47])), (q1, .inl (cA2, 2816, .inl (fun _ => 0))), (q3, .inl (cA4, 44, .inl (fun _ => 0))), (q5, .inl (cA6, 192, .inl (fun _ => 0))), (q9, .inl (cA10, 10, .inl (fun _ => 0)))]) [0, 1, 2, 3, 4] (by decide) rfl
  have hK := hK.sub (tys' := [(cA2, .int), (cA4, .boolean), (cA6, .int), (cA10, .boolean)]) [0, 1, 2, 3] rfl
  refine W.widen (k := 24) (n := 6485) (Nat.le_of_ble_eq_true rfl) (Nat.le_of_ble_eq_true rfl) ?_
  exact W.vret hx hb hr (fun t ht hW => ⟨⟨(), rfl, trivial, (fun i => match i with | 1 => q1 | 2 => q3 | 3 => q5 | 6 => q7 | 7 => q9 | 11 => q11 | 16 => q13 | 18 => q15 | 19 => q17 | 20 => q19 | 22 => q21 | 24 => q23 | 25 => q25 | 26 => q27 | 27 => q29 | 28 => q31 | 30 => q33 | 31 => q35 | 32 => q37 | 33 => q39 | 40 => q41 | 42 => q43 | 43 => q45 | 44 => q47 | _ => 0), (fun i => match i with | 0 => cA2 | 1 => cA4 | 2 => cA6 | 3 => cA10 | _ => 0), by rw [ht]; exact hP, hD, va_K.moved hW.alike hK⟩, hS.F ht⟩) hS.2.2 d_Mo_init_209
end
section
/-! A method that leaves the heap as it is; the words of 'throw new E()' of this class's. -/
def px_Q (v : Option Value) : Array Value → State → Outcome → State → Prop := fun _ st o t => o = .returned v ∧ t.heap = st.heap
section PXA
variable {p : Program} {l : Launch} {e : Env} {R : Room} {s : State} {m : MethodId} {args : Array Value} {below : List Frame} {meth : Method} {c : Code} {H : Heap} {locs : List Loc} {cells slots : Nat} {Q : State → Prop}
theorem px_go {pc : Nat} {ls : Array Slot} {st0 rest : List Value} {a : Array Value} {v : Option Value} (hr : va_Run p l e R s m args below meth c H locs cells slots 0 0 (F0 m pc ls st0) rest (px_Q v a) (fun _ => False))
    (kk : W p l e R s m args below meth c H locs cells slots Q (F0 m (pc + 3) ls (v.toList ++ rest))) : W p l e R s m args below meth c H locs cells slots Q (F0 m pc ls st0) := by
  intro T hT X
  obtain ⟨v', st₀, t, T', L, h0, X', hL, e1, e2, ⟨hv, hh⟩, st⟩ := hr T hT X
  cases hv
  have hL0 : L = [] := by
    cases L with
    | nil => rfl
    | cons x y => exact absurd (hL x List.mem_cons_self) id
  subst hL0
  rw [List.append_nil] at X'
  obtain ⟨t2, a1, b1⟩ := kk T' (by rw [e1, hh, h0]) X'
  exact ⟨t2, st t2 a1, b1⟩
end PXA
theorem tx_none {c : Code} (h : c.exceptionTable.isEmpty = true) (pc : Nat) : ∀ x ∈ c.exceptionTable.toList, covers x pc = false := fun x hx => by
  have h0 : c.exceptionTable.size = 0 := by simpa [Array.isEmpty] using h
  have h1 : c.exceptionTable.toList = [] := List.eq_nil_of_length_eq_zero (by simpa using h0)
  rw [h1] at hx
  cases hx
theorem gx_4 (x : Int32) : x < 0 ∨ 4 ≤ x ∨ x = 0 ∨ x = 1 ∨ x = 2 ∨ x = 3 := by
  rcases pk_ix x (n := 4) (by decide) with h | h | ⟨j, hj, rfl⟩
  · exact Or.inl h
  · exact Or.inr (Or.inl h)
  · rcases (show j = 0 ∨ j = 1 ∨ j = 2 ∨ j = 3 by omega) with rfl | rfl | rfl | rfl
    · exact Or.inr (Or.inr (Or.inl rfl))
    · exact Or.inr (Or.inr (Or.inr (Or.inl rfl)))
    · exact Or.inr (Or.inr (Or.inr (Or.inr (Or.inl rfl))))
    · exact Or.inr (Or.inr (Or.inr (Or.inr (Or.inr rfl))))
abbrev own_n : List String := ["java/lang/RuntimeException", "java/lang/Exception"]
abbrev own_U : Cond := .isRef (.static Bundle.tN "UNASSIGNED_STACK" Bundle.steD)
abbrev own_S : Cond := .isRef (.static Bundle.tN "SUPPRESSED_SENTINEL" Bundle.listD)
end
section
set_option maxRecDepth 100000 in
theorem own_ISE : ∀ w ∈ Bundle.ownAtoms0 "TapeSealer" 91 "java/lang/IllegalStateException" own_n, w ∈ lw_tbl ∨ w = own_U ∨ w = own_S := by decide +kernel
set_option maxRecDepth 100000 in
theorem own_ISEk : (Bundle.ownAtoms0 "TapeSealer" 91 "java/lang/IllegalStateException" own_n).all (fun w => goodWord w || gx_nk w || decide (w = .isRef (.static Bundle.tN "UNASSIGNED_STACK" Bundle.steD)) || decide (w = .isRef (.static Bundle.tN "SUPPRESSED_SENTINEL" Bundle.listD)) || decide (w = .laysStatic Bundle.tN "UNASSIGNED_STACK" Bundle.steD) || decide (w = .laysStatic Bundle.tN "SUPPRESSED_SENTINEL" Bundle.listD)) = true := by decide +kernel
set_option maxRecDepth 100000 in
theorem own_IAE : ∀ w ∈ Bundle.ownAtoms0 "TapeSealer" 152 "java/lang/IllegalArgumentException" own_n, w ∈ lw_tbl ∨ w = own_U ∨ w = own_S := by decide +kernel
set_option maxRecDepth 100000 in
theorem own_IAEk : (Bundle.ownAtoms0 "TapeSealer" 152 "java/lang/IllegalArgumentException" own_n).all (fun w => goodWord w || gx_nk w || decide (w = .isRef (.static Bundle.tN "UNASSIGNED_STACK" Bundle.steD)) || decide (w = .isRef (.static Bundle.tN "SUPPRESSED_SENTINEL" Bundle.listD)) || decide (w = .laysStatic Bundle.tN "UNASSIGNED_STACK" Bundle.steD) || decide (w = .laysStatic Bundle.tN "SUPPRESSED_SENTINEL" Bundle.listD)) = true := by decide +kernel
set_option maxRecDepth 100000 in
theorem own_IOB : ∀ w ∈ Bundle.ownAtoms0 "TapeSealer" 171 "java/lang/IndexOutOfBoundsException" own_n, w ∈ lw_tbl ∨ w = own_U ∨ w = own_S := by decide +kernel
set_option maxRecDepth 100000 in
theorem own_IOBk : (Bundle.ownAtoms0 "TapeSealer" 171 "java/lang/IndexOutOfBoundsException" own_n).all (fun w => goodWord w || gx_nk w || decide (w = .isRef (.static Bundle.tN "UNASSIGNED_STACK" Bundle.steD)) || decide (w = .isRef (.static Bundle.tN "SUPPRESSED_SENTINEL" Bundle.listD)) || decide (w = .laysStatic Bundle.tN "UNASSIGNED_STACK" Bundle.steD) || decide (w = .laysStatic Bundle.tN "SUPPRESSED_SENTINEL" Bundle.listD)) = true := by decide +kernel
set_option maxRecDepth 100000 in
theorem own_NSE : ∀ w ∈ Bundle.ownAtoms0 "TapeSealer" 148 "java/util/NoSuchElementException" own_n, w ∈ lw_tbl ∨ w = own_U ∨ w = own_S := by decide +kernel
set_option maxRecDepth 100000 in
theorem own_NSEk : (Bundle.ownAtoms0 "TapeSealer" 148 "java/util/NoSuchElementException" own_n).all (fun w => goodWord w || gx_nk w || decide (w = .isRef (.static Bundle.tN "UNASSIGNED_STACK" Bundle.steD)) || decide (w = .isRef (.static Bundle.tN "SUPPRESSED_SENTINEL" Bundle.listD)) || decide (w = .laysStatic Bundle.tN "UNASSIGNED_STACK" Bundle.steD) || decide (w = .laysStatic Bundle.tN "SUPPRESSED_SENTINEL" Bundle.listD)) = true := by decide +kernel
end
section
abbrev b_La_hasGroup : ByteArray := prog_8_method_3_code
def y_La_hasGroup : MethodName := ⟨"TapeSealer$Label", "hasGroup", "(I)Z"⟩
abbrev w_La_hasGroup : List Cond := .code y_La_hasGroup b_La_hasGroup 2 (some .boolean) :: gx_B
theorem k_La_hasGroup : (.code y_La_hasGroup b_La_hasGroup 2 (some .boolean) : Cond) ∈ gx_B := gx_mem 572 (by decide +kernel) rfl
abbrev b_Ep_known : ByteArray := prog_5_method_4_code
def y_Ep_known : MethodName := ⟨"TapeSealer$Epochs", "known", "(I)Z"⟩
abbrev w_Ep_known : List Cond := .code y_Ep_known b_Ep_known 2 (some .boolean) :: gx_B
theorem k_Ep_known : (.code y_Ep_known b_Ep_known 2 (some .boolean) : Cond) ∈ gx_B := gx_mem 372 (by decide +kernel) rfl
abbrev b_TS_lookAtHeaders : ByteArray := prog_1_method_23_code
def y_TS_lookAtHeaders : MethodName := ⟨"TapeSealer", "lookAtHeaders", "()V"⟩
abbrev w_TS_lookAtHeaders : List Cond := .code y_TS_lookAtHeaders b_TS_lookAtHeaders 2 none :: gx_B
theorem k_TS_lookAtHeaders : (.code y_TS_lookAtHeaders b_TS_lookAtHeaders 2 none : Cond) ∈ gx_B := gx_mem 364 (by decide +kernel) rfl
abbrev b_TS_leastMissing : ByteArray := prog_1_method_26_code
def y_TS_leastMissing : MethodName := ⟨"TapeSealer", "leastMissing", "()I"⟩
abbrev w_TS_leastMissing : List Cond := .code y_TS_leastMissing b_TS_leastMissing 2 (some .int) :: gx_B
theorem k_TS_leastMissing : (.code y_TS_leastMissing b_TS_leastMissing 2 (some .int) : Cond) ∈ gx_B := gx_mem 550 (by decide +kernel) rfl
abbrev b_TS_countFiles : ByteArray := prog_1_method_27_code
def y_TS_countFiles : MethodName := ⟨"TapeSealer", "countFiles", "()I"⟩
abbrev w_TS_countFiles : List Cond := .code y_TS_countFiles b_TS_countFiles 3 (some .int) :: gx_B
theorem k_TS_countFiles : (.code y_TS_countFiles b_TS_countFiles 3 (some .int) : Cond) ∈ gx_B := gx_mem 461 (by decide +kernel) rfl
abbrev b_TS_exists : ByteArray := prog_1_method_25_code
def y_TS_exists : MethodName := ⟨"TapeSealer", "exists", "(I)Z"⟩
abbrev w_TS_exists : List Cond := .code y_TS_exists b_TS_exists 2 (some .boolean) :: gx_B
theorem k_TS_exists : (.code y_TS_exists b_TS_exists 2 (some .boolean) : Cond) ∈ gx_B := gx_mem 667 (by decide +kernel) rfl
abbrev b_TS_ownerOf : ByteArray := prog_1_method_29_code
def y_TS_ownerOf : MethodName := ⟨"TapeSealer", "ownerOf", "(I)I"⟩
abbrev w_TS_ownerOf : List Cond := .code y_TS_ownerOf b_TS_ownerOf 3 (some .int) :: gx_B
theorem k_TS_ownerOf : (.code y_TS_ownerOf b_TS_ownerOf 3 (some .int) : Cond) ∈ gx_B := gx_mem 568 (by decide +kernel) rfl
abbrev b_TS_countFree : ByteArray := prog_1_method_30_code
def y_TS_countFree : MethodName := ⟨"TapeSealer", "countFree", "()I"⟩
abbrev w_TS_countFree : List Cond := .code y_TS_countFree b_TS_countFree 3 (some .int) :: gx_B
theorem k_TS_countFree : (.code y_TS_countFree b_TS_countFree 3 (some .int) : Cond) ∈ gx_B := gx_mem 883 (by decide +kernel) rfl
theorem hw_14 : (.selects "TapeSealer" ⟨"TapeSealer", "ownerOf", "(I)I"⟩ ⟨"TapeSealer", "ownerOf", "(I)I"⟩ : Cond) ∈ gx_B := gx_mem 14 (by decide +kernel) rfl
theorem hw_66 : (.initialized "TapeSealer" : Cond) ∈ gx_B := gx_mem 66 (by decide +kernel) rfl
theorem hw_117 : (.fieldLink "TapeSealer" 96 "TapeSealer$Cartridge" "headersChanged" "Z" : Cond) ∈ gx_B := gx_mem 117 (by decide +kernel) rfl
theorem hw_143 : (.fieldLink "TapeSealer$Epochs" 20 "TapeSealer$Epochs" "present" "I" : Cond) ∈ gx_B := gx_mem 143 (by decide +kernel) rfl
theorem hw_252 : (.fieldLink "TapeSealer$Label" 22 "TapeSealer$Label" "good" "Z" : Cond) ∈ gx_B := gx_mem 252 (by decide +kernel) rfl
theorem hw_253 : (.fieldLink "TapeSealer" 246 "TapeSealer$Label" "good" "Z" : Cond) ∈ gx_B := gx_mem 253 (by decide +kernel) rfl
theorem hw_565 : (.methodLink "TapeSealer" 199 ⟨"TapeSealer", "ownerOf", "(I)I"⟩ : Cond) ∈ gx_B := gx_mem 565 (by decide +kernel) rfl
theorem hw_567 : (.instanceMethod ⟨"TapeSealer", "ownerOf", "(I)I"⟩ : Cond) ∈ gx_B := gx_mem 567 (by decide +kernel) rfl
theorem hw_569 : (.methodLink "TapeSealer" 257 ⟨"TapeSealer$Label", "hasGroup", "(I)Z"⟩ : Cond) ∈ gx_B := gx_mem 569 (by decide +kernel) rfl
theorem hw_570 : (.instanceMethod ⟨"TapeSealer$Label", "hasGroup", "(I)Z"⟩ : Cond) ∈ gx_B := gx_mem 570 (by decide +kernel) rfl
theorem hw_571 : (.selects "TapeSealer$Label" ⟨"TapeSealer$Label", "hasGroup", "(I)Z"⟩ ⟨"TapeSealer$Label", "hasGroup", "(I)Z"⟩ : Cond) ∈ gx_B := gx_mem 571 (by decide +kernel) rfl
end
section
theorem d_Ep_known_0 : decode b_Ep_known 0 = .ok (.iload_n 1, 1) := by decide +kernel
theorem d_Ep_known_1 : decode b_Ep_known 1 = .ok (.iconst 1, 1) := by decide +kernel
theorem d_Ep_known_10 : decode b_Ep_known 10 = .ok (.if_icmp .gt 16, 3) := by decide +kernel
theorem d_Ep_known_2 : decode b_Ep_known 2 = .ok (.if_icmp .lt 24, 3) := by decide +kernel
theorem d_Ep_known_26 : decode b_Ep_known 26 = .ok (.iconst 0, 1) := by decide +kernel
theorem d_Ep_known_27 : decode b_Ep_known 27 = .ok (.ireturn, 1) := by decide +kernel
theorem d_Ep_known_5 : decode b_Ep_known 5 = .ok (.iload_n 1, 1) := by decide +kernel
theorem d_Ep_known_6 : decode b_Ep_known 6 = .ok (.aload_n 0, 1) := by decide +kernel
theorem d_Ep_known_7 : decode b_Ep_known 7 = .ok (.getfield 20, 3) := by decide +kernel
theorem d_La_hasGroup_0 : decode b_La_hasGroup 0 = .ok (.aload_n 0, 1) := by decide +kernel
theorem d_La_hasGroup_1 : decode b_La_hasGroup 1 = .ok (.getfield 22, 3) := by decide +kernel
theorem d_La_hasGroup_32 : decode b_La_hasGroup 32 = .ok (.iconst 0, 1) := by decide +kernel
theorem d_La_hasGroup_33 : decode b_La_hasGroup 33 = .ok (.ireturn, 1) := by decide +kernel
theorem d_La_hasGroup_4 : decode b_La_hasGroup 4 = .ok (.ifCond .eq 28, 3) := by decide +kernel
theorem d_TS_countFiles_0 : decode b_TS_countFiles 0 = .ok (.iconst 0, 1) := by decide +kernel
theorem d_TS_countFiles_1 : decode b_TS_countFiles 1 = .ok (.istore_n 1, 1) := by decide +kernel
theorem d_TS_countFiles_10 : decode b_TS_countFiles 10 = .ok (.aload_n 0, 1) := by decide +kernel
theorem d_TS_countFiles_11 : decode b_TS_countFiles 11 = .ok (.getfield 41, 3) := by decide +kernel
theorem d_TS_countFiles_14 : decode b_TS_countFiles 14 = .ok (.iload_n 2, 1) := by decide +kernel
theorem d_TS_countFiles_15 : decode b_TS_countFiles 15 = .ok (.aaload, 1) := by decide +kernel
theorem d_TS_countFiles_16 : decode b_TS_countFiles 16 = .ok (.getfield 246, 3) := by decide +kernel
theorem d_TS_countFiles_19 : decode b_TS_countFiles 19 = .ok (.ifCond .eq 7, 3) := by decide +kernel
theorem d_TS_countFiles_2 : decode b_TS_countFiles 2 = .ok (.iconst 0, 1) := by decide +kernel
theorem d_TS_countFiles_26 : decode b_TS_countFiles 26 = .ok (.iconst 0, 1) := by decide +kernel
theorem d_TS_countFiles_27 : decode b_TS_countFiles 27 = .ok (.iadd, 1) := by decide +kernel
theorem d_TS_countFiles_28 : decode b_TS_countFiles 28 = .ok (.istore_n 1, 1) := by decide +kernel
theorem d_TS_countFiles_29 : decode b_TS_countFiles 29 = .ok (.iinc 2 1, 3) := by decide +kernel
theorem d_TS_countFiles_3 : decode b_TS_countFiles 3 = .ok (.istore_n 2, 1) := by decide +kernel
theorem d_TS_countFiles_32 : decode b_TS_countFiles 32 = .ok (.goto (-28), 3) := by decide +kernel
theorem d_TS_countFiles_35 : decode b_TS_countFiles 35 = .ok (.iload_n 1, 1) := by decide +kernel
theorem d_TS_countFiles_36 : decode b_TS_countFiles 36 = .ok (.ireturn, 1) := by decide +kernel
theorem d_TS_countFiles_4 : decode b_TS_countFiles 4 = .ok (.iload_n 2, 1) := by decide +kernel
theorem d_TS_countFiles_5 : decode b_TS_countFiles 5 = .ok (.iconst 4, 1) := by decide +kernel
theorem d_TS_countFiles_6 : decode b_TS_countFiles 6 = .ok (.if_icmp .ge 29, 3) := by decide +kernel
theorem d_TS_countFiles_9 : decode b_TS_countFiles 9 = .ok (.iload_n 1, 1) := by decide +kernel
theorem d_TS_countFree_0 : decode b_TS_countFree 0 = .ok (.iconst 0, 1) := by decide +kernel
theorem d_TS_countFree_1 : decode b_TS_countFree 1 = .ok (.istore_n 1, 1) := by decide +kernel
theorem d_TS_countFree_10 : decode b_TS_countFree 10 = .ok (.iload_n 1, 1) := by decide +kernel
theorem d_TS_countFree_11 : decode b_TS_countFree 11 = .ok (.aload_n 0, 1) := by decide +kernel
theorem d_TS_countFree_12 : decode b_TS_countFree 12 = .ok (.iload_n 2, 1) := by decide +kernel
theorem d_TS_countFree_13 : decode b_TS_countFree 13 = .ok (.invokevirtual 199, 3) := by decide +kernel
theorem d_TS_countFree_16 : decode b_TS_countFree 16 = .ok (.iconst (-1), 1) := by decide +kernel
theorem d_TS_countFree_17 : decode b_TS_countFree 17 = .ok (.if_icmp .ne 7, 3) := by decide +kernel
theorem d_TS_countFree_2 : decode b_TS_countFree 2 = .ok (.iconst 0, 1) := by decide +kernel
theorem d_TS_countFree_20 : decode b_TS_countFree 20 = .ok (.iconst 1, 1) := by decide +kernel
theorem d_TS_countFree_21 : decode b_TS_countFree 21 = .ok (.goto 4, 3) := by decide +kernel
theorem d_TS_countFree_25 : decode b_TS_countFree 25 = .ok (.iadd, 1) := by decide +kernel
theorem d_TS_countFree_26 : decode b_TS_countFree 26 = .ok (.istore_n 1, 1) := by decide +kernel
theorem d_TS_countFree_27 : decode b_TS_countFree 27 = .ok (.iinc 2 1, 3) := by decide +kernel
theorem d_TS_countFree_3 : decode b_TS_countFree 3 = .ok (.istore_n 2, 1) := by decide +kernel
theorem d_TS_countFree_30 : decode b_TS_countFree 30 = .ok (.goto (-26), 3) := by decide +kernel
theorem d_TS_countFree_33 : decode b_TS_countFree 33 = .ok (.iload_n 1, 1) := by decide +kernel
theorem d_TS_countFree_34 : decode b_TS_countFree 34 = .ok (.ireturn, 1) := by decide +kernel
theorem d_TS_countFree_4 : decode b_TS_countFree 4 = .ok (.iload_n 2, 1) := by decide +kernel
theorem d_TS_countFree_5 : decode b_TS_countFree 5 = .ok (.bipush 6, 2) := by decide +kernel
theorem d_TS_countFree_7 : decode b_TS_countFree 7 = .ok (.if_icmp .ge 26, 3) := by decide +kernel
theorem d_TS_exists_0 : decode b_TS_exists 0 = .ok (.iload_n 1, 1) := by decide +kernel
theorem d_TS_exists_1 : decode b_TS_exists 1 = .ok (.ifCond .lt 24, 3) := by decide +kernel
theorem d_TS_exists_10 : decode b_TS_exists 10 = .ok (.getfield 41, 3) := by decide +kernel
theorem d_TS_exists_13 : decode b_TS_exists 13 = .ok (.iload_n 1, 1) := by decide +kernel
end
section
theorem d_TS_exists_14 : decode b_TS_exists 14 = .ok (.aaload, 1) := by decide +kernel
theorem d_TS_exists_15 : decode b_TS_exists 15 = .ok (.getfield 246, 3) := by decide +kernel
theorem d_TS_exists_18 : decode b_TS_exists 18 = .ok (.ifCond .eq 7, 3) := by decide +kernel
theorem d_TS_exists_25 : decode b_TS_exists 25 = .ok (.iconst 0, 1) := by decide +kernel
theorem d_TS_exists_26 : decode b_TS_exists 26 = .ok (.ireturn, 1) := by decide +kernel
theorem d_TS_exists_4 : decode b_TS_exists 4 = .ok (.iload_n 1, 1) := by decide +kernel
theorem d_TS_exists_5 : decode b_TS_exists 5 = .ok (.iconst 4, 1) := by decide +kernel
theorem d_TS_exists_6 : decode b_TS_exists 6 = .ok (.if_icmp .ge 19, 3) := by decide +kernel
theorem d_TS_exists_9 : decode b_TS_exists 9 = .ok (.aload_n 0, 1) := by decide +kernel
theorem d_TS_leastMissing_0 : decode b_TS_leastMissing 0 = .ok (.iconst 0, 1) := by decide +kernel
theorem d_TS_leastMissing_1 : decode b_TS_leastMissing 1 = .ok (.istore_n 1, 1) := by decide +kernel
theorem d_TS_leastMissing_11 : decode b_TS_leastMissing 11 = .ok (.iload_n 1, 1) := by decide +kernel
theorem d_TS_leastMissing_12 : decode b_TS_leastMissing 12 = .ok (.aaload, 1) := by decide +kernel
theorem d_TS_leastMissing_13 : decode b_TS_leastMissing 13 = .ok (.getfield 246, 3) := by decide +kernel
theorem d_TS_leastMissing_16 : decode b_TS_leastMissing 16 = .ok (.ifCond .ne 5, 3) := by decide +kernel
theorem d_TS_leastMissing_19 : decode b_TS_leastMissing 19 = .ok (.iload_n 1, 1) := by decide +kernel
theorem d_TS_leastMissing_2 : decode b_TS_leastMissing 2 = .ok (.iload_n 1, 1) := by decide +kernel
theorem d_TS_leastMissing_20 : decode b_TS_leastMissing 20 = .ok (.ireturn, 1) := by decide +kernel
theorem d_TS_leastMissing_3 : decode b_TS_leastMissing 3 = .ok (.iconst 4, 1) := by decide +kernel
theorem d_TS_leastMissing_4 : decode b_TS_leastMissing 4 = .ok (.if_icmp .ge 23, 3) := by decide +kernel
theorem d_TS_leastMissing_7 : decode b_TS_leastMissing 7 = .ok (.aload_n 0, 1) := by decide +kernel
theorem d_TS_leastMissing_8 : decode b_TS_leastMissing 8 = .ok (.getfield 41, 3) := by decide +kernel
theorem d_TS_lookAtHeaders_0 : decode b_TS_lookAtHeaders 0 = .ok (.aload_n 0, 1) := by decide +kernel
theorem d_TS_lookAtHeaders_1 : decode b_TS_lookAtHeaders 1 = .ok (.getfield 10, 3) := by decide +kernel
theorem d_TS_lookAtHeaders_10 : decode b_TS_lookAtHeaders 10 = .ok (.return_, 1) := by decide +kernel
theorem d_TS_lookAtHeaders_4 : decode b_TS_lookAtHeaders 4 = .ok (.getfield 96, 3) := by decide +kernel
theorem d_TS_lookAtHeaders_7 : decode b_TS_lookAtHeaders 7 = .ok (.ifCond .ne 4, 3) := by decide +kernel
theorem d_TS_ownerOf_0 : decode b_TS_ownerOf 0 = .ok (.iconst 0, 1) := by decide +kernel
theorem d_TS_ownerOf_1 : decode b_TS_ownerOf 1 = .ok (.istore_n 2, 1) := by decide +kernel
theorem d_TS_ownerOf_11 : decode b_TS_ownerOf 11 = .ok (.iload_n 2, 1) := by decide +kernel
theorem d_TS_ownerOf_12 : decode b_TS_ownerOf 12 = .ok (.aaload, 1) := by decide +kernel
theorem d_TS_ownerOf_13 : decode b_TS_ownerOf 13 = .ok (.iload_n 1, 1) := by decide +kernel
theorem d_TS_ownerOf_14 : decode b_TS_ownerOf 14 = .ok (.invokevirtual 257, 3) := by decide +kernel
theorem d_TS_ownerOf_17 : decode b_TS_ownerOf 17 = .ok (.ifCond .eq 5, 3) := by decide +kernel
theorem d_TS_ownerOf_2 : decode b_TS_ownerOf 2 = .ok (.iload_n 2, 1) := by decide +kernel
theorem d_TS_ownerOf_22 : decode b_TS_ownerOf 22 = .ok (.iinc 2 1, 3) := by decide +kernel
theorem d_TS_ownerOf_25 : decode b_TS_ownerOf 25 = .ok (.goto (-23), 3) := by decide +kernel
theorem d_TS_ownerOf_28 : decode b_TS_ownerOf 28 = .ok (.iconst (-1), 1) := by decide +kernel
theorem d_TS_ownerOf_29 : decode b_TS_ownerOf 29 = .ok (.ireturn, 1) := by decide +kernel
theorem d_TS_ownerOf_3 : decode b_TS_ownerOf 3 = .ok (.iconst 4, 1) := by decide +kernel
theorem d_TS_ownerOf_4 : decode b_TS_ownerOf 4 = .ok (.if_icmp .ge 24, 3) := by decide +kernel
theorem d_TS_ownerOf_7 : decode b_TS_ownerOf 7 = .ok (.aload_n 0, 1) := by decide +kernel
theorem d_TS_ownerOf_8 : decode b_TS_ownerOf 8 = .ok (.getfield 41, 3) := by decide +kernel
end
section
theorem gx_pos {g : Int32} (h : ¬ g < 1) : 0 < g := by
  rw [Int32.lt_iff_toInt_lt] at h ⊢
  have h1 : (1 : Int32).toInt = 1 := by decide
  have h0 : (0 : Int32).toInt = 0 := by decide
  omega
theorem gx_nlt {g : Int32} (h : 4 ≤ g) : ¬ g < 0 := by
  rw [Int32.le_iff_toInt_le] at h
  rw [Int32.lt_iff_toInt_lt]
  have h1 : (4 : Int32).toInt = 4 := by decide
  have h0 : (0 : Int32).toInt = 0 := by decide
  omega
set_option maxHeartbeats 4000000 in
set_option maxRecDepth 100000 in
theorem p_La_hasGroup (l : Launch) (dC : Nat → ClassId) (dI : Nat → Nat → Nat) (h0 n0 : Nat) (fn g : Int32) : Met l y_La_hasGroup w_La_hasGroup ({ frames := 0, cells := 0, slots := 0, locals := 0 }) (va_Pc [.ref h0, .int g] (fun U => va_P (dC, dI) gx_cl [(h0, .inr (5, [.ref n0, .int fn, .int 0, .int 0, .int 0, .int 0, .int 0, .int 0]))] U.heap ∧ va_K (dC, dI) gx_cl [] U)) (px_Q (some (.int 0))) 0 0 (fun _ => False) := by
  refine Met.ofW (cc := b_La_hasGroup) (maxL := 2) (ret := (some .boolean)) (by decide) rfl ?_
  intro p e s m args below meth c s₁ B hml hv
  obtain ⟨rfl, hP, hK⟩ := hv
  have hx := B.exec
  have hb := B.bytes
  have hr := B.returns
  have hts := atoms_spec (ws := w_La_hasGroup) B.pre
  have hB : ∀ w ∈ gx_B, w.before _ s = true := fun w h => hts w (List.mem_cons_of_mem _ h)
  have hown : s.vm.findClass "TapeSealer$Label" = some m.cls := findClass_of_methodNamed B.named
  have hlocks := B.notSynchronized
  have hl := lv_entry ([.ref h0, .int g]) (n := 2) (Nat.le_of_ble_eq_true rfl)
  rw [lg_entry_eq]
  generalize (lg_sl ([.ref h0, .int g]) ++ List.replicate (2 - (lg_sl ([.ref h0, .int g])).length) Slot.unset).toArray = ls at hl ⊢
  have hl : lv_has ls 2 [(0, .ref h0), (1, .int g)] := hl
  refine lv_aload_n hx hb d_La_hasGroup_0 rfl (lv_at hl 0 rfl) ?_
  refine va_get (D := (dC, dI)) (ci := 5) (v := .int 0) (C := RLa) (T := FLa) (N := 8) hx hb hB in_La hown hK hP 0 rfl rfl 2 (by decide) (hB _ hw_252) (fun _ h9 => h9) rfl d_La_hasGroup_1 ?_
  refine lv_if_eq (tgt := 32) hx hb d_La_hasGroup_4 (by decide) (fun _ => ?_) (fun h9 => absurd (by decide) h9)
  refine lv_iconst (v := 0) hx hb d_La_hasGroup_32 (by decide) ?_
  exact W.zret (v := 0) hx hb hr rfl (fun t ht _ => ⟨rfl, ht⟩) (fun _ h => nomatch h) d_La_hasGroup_33
set_option maxHeartbeats 4000000 in
set_option maxRecDepth 100000 in
theorem p_Ep_known (l : Launch) (dC : Nat → ClassId) (dI : Nat → Nat → Nat) (h0 e1 e2 : Nat) (g : Int32) : Met l y_Ep_known w_Ep_known ({ frames := 0, cells := 0, slots := 0, locals := 0 }) (va_Pc [.ref h0, .int g] (fun U => va_P (dC, dI) gx_cl [(h0, .inr (3, [.ref e1, .ref e2, .int 0]))] U.heap ∧ va_K (dC, dI) gx_cl [] U)) (px_Q (some (.int 0))) 0 0 (fun _ => False) := by
  refine Met.ofW (cc := b_Ep_known) (maxL := 2) (ret := (some .boolean)) (by decide) rfl ?_
  intro p e s m args below meth c s₁ B hml hv
  obtain ⟨rfl, hP, hK⟩ := hv
  have hx := B.exec
  have hb := B.bytes
  have hr := B.returns
  have hts := atoms_spec (ws := w_Ep_known) B.pre
  have hB : ∀ w ∈ gx_B, w.before _ s = true := fun w h => hts w (List.mem_cons_of_mem _ h)
  have hown : s.vm.findClass "TapeSealer$Epochs" = some m.cls := findClass_of_methodNamed B.named
  have hlocks := B.notSynchronized
  have hl := lv_entry ([.ref h0, .int g]) (n := 2) (Nat.le_of_ble_eq_true rfl)
  rw [lg_entry_eq]
  generalize (lg_sl ([.ref h0, .int g]) ++ List.replicate (2 - (lg_sl ([.ref h0, .int g])).length) Slot.unset).toArray = ls at hl ⊢
  have hl : lv_has ls 2 [(0, .ref h0), (1, .int g)] := hl
  by_cases hg : g < 1
  · refine lv_iload_n hx hb d_Ep_known_0 rfl (lv_at hl 1 rfl) ?_
    refine lv_iconst (v := 1) hx hb d_Ep_known_1 (by decide) ?_
    refine lv_icmp_lt (tgt := 26) hx hb d_Ep_known_2 (by decide) (fun _ => ?_) (fun h9 => absurd hg h9)
    refine lv_iconst (v := 0) hx hb d_Ep_known_26 (by decide) ?_
    exact W.zret (v := 0) hx hb hr rfl (fun t ht _ => ⟨rfl, ht⟩) (fun _ h => nomatch h) d_Ep_known_27
  · refine lv_iload_n hx hb d_Ep_known_0 rfl (lv_at hl 1 rfl) ?_
    refine lv_iconst (v := 1) hx hb d_Ep_known_1 (by decide) ?_
    refine lv_icmp_lt (tgt := 26) hx hb d_Ep_known_2 (by decide) (fun h9 => absurd h9 hg) (fun _ => ?_)
    refine lv_iload_n hx hb d_Ep_known_5 rfl (lv_at hl 1 rfl) ?_
    refine lv_aload_n hx hb d_Ep_known_6 rfl (lv_at hl 0 rfl) ?_
    refine va_get (D := (dC, dI)) (ci := 3) (v := .int 0) (C := REp) (T := FEp) (N := 3) hx hb hB in_Ep hown hK hP 0 rfl rfl 2 (by decide) (hB _ hw_143) (fun _ h9 => h9) rfl d_Ep_known_7 ?_
    refine lv_icmp_gt (tgt := 26) hx hb d_Ep_known_10 (by decide) (fun _ => ?_) (fun h9 => absurd (gx_pos hg) h9)
    refine lv_iconst (v := 0) hx hb d_Ep_known_26 (by decide) ?_
    exact W.zret (v := 0) hx hb hr rfl (fun t ht _ => ⟨rfl, ht⟩) (fun _ h => nomatch h) d_Ep_known_27
set_option maxHeartbeats 4000000 in
set_option maxRecDepth 100000 in
theorem p_TS_lookAtHeaders (l : Launch) (dC : Nat → ClassId) (dI : Nat → Nat → Nat) (h0 : Nat) (q : Nat → Nat) (ci : Nat → ClassId) : Met l y_TS_lookAtHeaders w_TS_lookAtHeaders ({ frames := 0, cells := 0, slots := 0, locals := 0 }) (va_Pc [.ref h0] (fun U => va_P (dC, dI) gx_cl (wTS h0 q ci) U.heap ∧ va_K (dC, dI) gx_cl (kTS ci) U)) (px_Q none) 0 0 (fun _ => False) := by
  refine Met.ofW (cc := b_TS_lookAtHeaders) (maxL := 2) (ret := none) (by decide) rfl ?_
  intro p e s m args below meth c s₁ B hml hv
  obtain ⟨rfl, hP, hK⟩ := hv
  have hx := B.exec
  have hb := B.bytes
  have hr := B.returns
  have hts := atoms_spec (ws := w_TS_lookAtHeaders) B.pre
  have hB : ∀ w ∈ gx_B, w.before _ s = true := fun w h => hts w (List.mem_cons_of_mem _ h)
  have hown : s.vm.findClass "TapeSealer" = some m.cls := findClass_of_methodNamed B.named
  have hlocks := B.notSynchronized
  have hl := lv_entry ([.ref h0]) (n := 2) (Nat.le_of_ble_eq_true rfl)
  rw [lg_entry_eq]
  generalize (lg_sl ([.ref h0]) ++ List.replicate (2 - (lg_sl ([.ref h0])).length) Slot.unset).toArray = ls at hl ⊢
  have hl : lv_has ls 2 [(0, .ref h0)] := hl
  refine lv_aload_n hx hb d_TS_lookAtHeaders_0 rfl (lv_at hl 0 rfl) ?_
  refine va_get (D := (dC, dI)) (ci := 8) (v := .ref (q 0)) (C := RTS) (T := FTS) (N := 15) hx hb hB in_TS hown hK hP 0 rfl rfl 0 (by decide) (hB _ hw_307) (fun _ h9 => h9) rfl d_TS_lookAtHeaders_1 ?_
  refine va_get (D := (dC, dI)) (ci := 1) (v := .int 0) (C := RCa) (T := FCa) (N := 6) hx hb hB in_Ca hown hK hP 1 rfl rfl 5 (by decide) (hB _ hw_117) (fun _ h9 => h9) rfl d_TS_lookAtHeaders_4 ?_
  refine lv_if_ne (tgt := 11) hx hb d_TS_lookAtHeaders_7 (by decide) (fun h9 => absurd (by decide) h9) (fun _ => ?_)
  exact W.vret hx hb hr (fun t ht _ => ⟨rfl, ht⟩) (fun _ h => nomatch h) d_TS_lookAtHeaders_10
set_option maxHeartbeats 4000000 in
set_option maxRecDepth 100000 in
theorem p_TS_leastMissing (l : Launch) (dC : Nat → ClassId) (dI : Nat → Nat → Nat) (h0 : Nat) (q : Nat → Nat) (ci : Nat → ClassId) : Met l y_TS_leastMissing w_TS_leastMissing ({ frames := 0, cells := 0, slots := 0, locals := 0 }) (va_Pc [.ref h0] (fun U => va_P (dC, dI) gx_cl (wTS h0 q ci) U.heap ∧ va_K (dC, dI) gx_cl (kTS ci) U)) (px_Q (some (.int 0))) 0 0 (fun _ => False) := by
  refine Met.ofW (cc := b_TS_leastMissing) (maxL := 2) (ret := (some .int)) (by decide) rfl ?_
  intro p e s m args below meth c s₁ B hml hv
  obtain ⟨rfl, hP, hK⟩ := hv
  have hx := B.exec
  have hb := B.bytes
  have hr := B.returns
  have hts := atoms_spec (ws := w_TS_leastMissing) B.pre
  have hB : ∀ w ∈ gx_B, w.before _ s = true := fun w h => hts w (List.mem_cons_of_mem _ h)
  have hown : s.vm.findClass "TapeSealer" = some m.cls := findClass_of_methodNamed B.named
  have hlocks := B.notSynchronized
  have hl := lv_entry ([.ref h0]) (n := 2) (Nat.le_of_ble_eq_true rfl)
  rw [lg_entry_eq]
  generalize (lg_sl ([.ref h0]) ++ List.replicate (2 - (lg_sl ([.ref h0])).length) Slot.unset).toArray = ls at hl ⊢
  have hl : lv_has ls 2 [(0, .ref h0)] := hl
  refine lv_iconst (v := 0) hx hb d_TS_leastMissing_0 (by decide) ?_
  refine lv_istore_n hx hb d_TS_leastMissing_1 rfl hl (by decide) rfl (fun ls hl => ?_)
  have hl : lv_has ls 2 [(1, .int 0), (0, .ref h0)] := hl
  refine lv_iload_n hx hb d_TS_leastMissing_2 rfl (lv_at hl 0 rfl) ?_
  refine lv_iconst (v := 4) hx hb d_TS_leastMissing_3 (by decide) ?_
  refine lv_icmp_ge (tgt := 27) hx hb d_TS_leastMissing_4 (by decide) (fun h9 => absurd h9 (by decide)) (fun _ => ?_)
  refine lv_aload_n hx hb d_TS_leastMissing_7 rfl (lv_at hl 1 rfl) ?_
  refine va_get (D := (dC, dI)) (ci := 8) (v := .ref (q 6)) (C := RTS) (T := FTS) (N := 15) hx hb hB in_TS hown hK hP 0 rfl rfl 4 (by decide) (hB _ hw_311) (fun _ h9 => h9) rfl d_TS_leastMissing_8 ?_
  refine lv_iload_n hx hb d_TS_leastMissing_11 rfl (lv_at hl 0 rfl) ?_
  refine va_aldq (D := (dC, dI)) hx hb hK hP 5 3 rfl rfl (by unfold vp_in; decide) d_TS_leastMissing_12 ?_
  refine W.eq (g2 := F0 m 13 ls [.ref (q 7)]) rfl ?_
  refine va_get (D := (dC, dI)) (ci := 5) (v := .int 0) (C := RLa) (T := FLa) (N := 8) hx hb hB in_La hown hK hP 6 rfl rfl 2 (by decide) (hB _ hw_253) (fun _ h9 => h9) rfl d_TS_leastMissing_13 ?_
  refine lv_if_ne (tgt := 21) hx hb d_TS_leastMissing_16 (by decide) (fun h9 => absurd (by decide) h9) (fun _ => ?_)
  refine lv_iload_n hx hb d_TS_leastMissing_19 rfl (lv_at hl 0 rfl) ?_
  exact W.iret (v := 0) hx hb hr (fun t ht _ => ⟨rfl, ht⟩) (fun _ h => nomatch h) d_TS_leastMissing_20
set_option maxHeartbeats 4000000 in
set_option maxRecDepth 100000 in
theorem p_TS_countFiles (l : Launch) (dC : Nat → ClassId) (dI : Nat → Nat → Nat) (h0 : Nat) (q : Nat → Nat) (ci : Nat → ClassId) : Met l y_TS_countFiles w_TS_countFiles ({ frames := 0, cells := 0, slots := 0, locals := 0 }) (va_Pc [.ref h0] (fun U => va_P (dC, dI) gx_cl (wTS h0 q ci) U.heap ∧ va_K (dC, dI) gx_cl (kTS ci) U)) (px_Q (some (.int 0))) 0 0 (fun _ => False) := by
  refine Met.ofW (cc := b_TS_countFiles) (maxL := 3) (ret := (some .int)) (by decide) rfl ?_
  intro p e s m args below meth c s₁ B hml hv
  obtain ⟨rfl, hP, hK⟩ := hv
  have hx := B.exec
  have hb := B.bytes
  have hr := B.returns
  have hts := atoms_spec (ws := w_TS_countFiles) B.pre
  have hB : ∀ w ∈ gx_B, w.before _ s = true := fun w h => hts w (List.mem_cons_of_mem _ h)
  have hown : s.vm.findClass "TapeSealer" = some m.cls := findClass_of_methodNamed B.named
  have hlocks := B.notSynchronized
  have hl := lv_entry ([.ref h0]) (n := 3) (Nat.le_of_ble_eq_true rfl)
  rw [lg_entry_eq]
  generalize (lg_sl ([.ref h0]) ++ List.replicate (3 - (lg_sl ([.ref h0])).length) Slot.unset).toArray = ls at hl ⊢
  have hl : lv_has ls 3 [(0, .ref h0)] := hl
  refine lv_iconst (v := 0) hx hb d_TS_countFiles_0 (by decide) ?_
  refine lv_istore_n hx hb d_TS_countFiles_1 rfl hl (by decide) rfl (fun ls hl => ?_)
  have hl : lv_has ls 3 [(1, .int 0), (0, .ref h0)] := hl
  refine lv_iconst (v := 0) hx hb d_TS_countFiles_2 (by decide) ?_
  refine lv_istore_n hx hb d_TS_countFiles_3 rfl hl (by decide) rfl (fun ls hl => ?_)
  have hl : lv_has ls 3 [(2, .int 0), (1, .int 0), (0, .ref h0)] := hl
  refine lv_iload_n hx hb d_TS_countFiles_4 rfl (lv_at hl 0 rfl) ?_
  refine lv_iconst (v := 4) hx hb d_TS_countFiles_5 (by decide) ?_
  refine lv_icmp_ge (tgt := 35) hx hb d_TS_countFiles_6 (by decide) (fun h9 => absurd h9 (by decide)) (fun _ => ?_)
  refine lv_iload_n hx hb d_TS_countFiles_9 rfl (lv_at hl 1 rfl) ?_
  refine lv_aload_n hx hb d_TS_countFiles_10 rfl (lv_at hl 2 rfl) ?_
  refine va_get (D := (dC, dI)) (ci := 8) (v := .ref (q 6)) (C := RTS) (T := FTS) (N := 15) hx hb hB in_TS hown hK hP 0 rfl rfl 4 (by decide) (hB _ hw_311) (fun _ h9 => h9) rfl d_TS_countFiles_11 ?_
  refine lv_iload_n hx hb d_TS_countFiles_14 rfl (lv_at hl 0 rfl) ?_
  refine va_aldq (D := (dC, dI)) hx hb hK hP 5 3 rfl rfl (by unfold vp_in; decide) d_TS_countFiles_15 ?_
  refine W.eq (g2 := F0 m 16 ls [.ref (q 7), .int 0]) rfl ?_
  refine va_get (D := (dC, dI)) (ci := 5) (v := .int 0) (C := RLa) (T := FLa) (N := 8) hx hb hB in_La hown hK hP 6 rfl rfl 2 (by decide) (hB _ hw_253) (fun _ h9 => h9) rfl d_TS_countFiles_16 ?_
  refine lv_if_eq (tgt := 26) hx hb d_TS_countFiles_19 (by decide) (fun _ => ?_) (fun h9 => absurd (by decide) h9)
  refine lv_iconst (v := 0) hx hb d_TS_countFiles_26 (by decide) ?_
  refine lv_iadd hx hb d_TS_countFiles_27 ?_
  refine lv_topi (fun z1 z1_e => ?_)
  obtain rfl : z1 = 0 := z1_e.trans (by decide)
  refine lv_istore_n hx hb d_TS_countFiles_28 rfl hl (by decide) rfl (fun ls hl => ?_)
  have hl : lv_has ls 3 [(1, .int 0), (2, .int 0), (0, .ref h0)] := hl
  refine lv_iinc (k := 1) (v := 1) hx hb d_TS_countFiles_29 hl rfl (by decide) (by decide) rfl (fun ls hl => ?_)
  have hl : lv_has ls 3 [(2, .int 1), (1, .int 0), (0, .ref h0)] := hl
  refine lv_goto (tgt := 4) hx hb d_TS_countFiles_32 (by decide) ?_
  refine lv_iload_n hx hb d_TS_countFiles_4 rfl (lv_at hl 0 rfl) ?_
  refine lv_iconst (v := 4) hx hb d_TS_countFiles_5 (by decide) ?_
  refine lv_icmp_ge (tgt := 35) hx hb d_TS_countFiles_6 (by decide) (fun h9 => absurd h9 (by decide)) (fun _ => ?_)
  refine lv_iload_n hx hb d_TS_countFiles_9 rfl (lv_at hl 1 rfl) ?_
  refine lv_aload_n hx hb d_TS_countFiles_10 rfl (lv_at hl 2 rfl) ?_
  refine va_get (D := (dC, dI)) (ci := 8) (v := .ref (q 6)) (C := RTS) (T := FTS) (N := 15) hx hb hB in_TS hown hK hP 0 rfl rfl 4 (by decide) (hB _ hw_311) (fun _ h9 => h9) rfl d_TS_countFiles_11 ?_
  refine lv_iload_n hx hb d_TS_countFiles_14 rfl (lv_at hl 0 rfl) ?_
  refine va_aldq (D := (dC, dI)) hx hb hK hP 5 3 rfl rfl (by unfold vp_in; decide) d_TS_countFiles_15 ?_
  refine W.eq (g2 := F0 m 16 ls [.ref (q 8), .int 0]) rfl ?_
  refine va_get (D := (dC, dI)) (ci := 5) (v := .int 0) (C := RLa) (T := FLa) (N := 8) hx hb hB in_La hown hK hP 7 rfl rfl 2 (by decide) (hB _ hw_253) (fun _ h9 => h9) rfl d_TS_countFiles_16 ?_
  refine lv_if_eq (tgt := 26) hx hb d_TS_countFiles_19 (by decide) (fun _ => ?_) (fun h9 => absurd (by decide) h9)
  refine lv_iconst (v := 0) hx hb d_TS_countFiles_26 (by decide) ?_
  refine lv_iadd hx hb d_TS_countFiles_27 ?_
  refine lv_topi (fun z2 z2_e => ?_)
  obtain rfl : z2 = 0 := z2_e.trans (by decide)
  refine lv_istore_n hx hb d_TS_countFiles_28 rfl hl (by decide) rfl (fun ls hl => ?_)
  have hl : lv_has ls 3 [(1, .int 0), (2, .int 1), (0, .ref h0)] := hl
  refine lv_iinc (k := 1) (v := 2) hx hb d_TS_countFiles_29 hl rfl (by decide) (by decide) rfl (fun ls hl => ?_)
  have hl : lv_has ls 3 [(2, .int 2), (1, .int 0), (0, .ref h0)] := hl
  refine lv_goto (tgt := 4) hx hb d_TS_countFiles_32 (by decide) ?_
  refine lv_iload_n hx hb d_TS_countFiles_4 rfl (lv_at hl 0 rfl) ?_
  refine lv_iconst (v := 4) hx hb d_TS_countFiles_5 (by decide) ?_
  refine lv_icmp_ge (tgt := 35) hx hb d_TS_countFiles_6 (by decide) (fun h9 => absurd h9 (by decide)) (fun _ => ?_)
  refine lv_iload_n hx hb d_TS_countFiles_9 rfl (lv_at hl 1 rfl) ?_
  refine lv_aload_n hx hb d_TS_countFiles_10 rfl (lv_at hl 2 rfl) ?_
  refine va_get (D := (dC, dI)) (ci := 8) (v := .ref (q 6)) (C := RTS) (T := FTS) (N := 15) hx hb hB in_TS hown hK hP 0 rfl rfl 4 (by decide) (hB _ hw_311) (fun _ h9 => h9) rfl d_TS_countFiles_11 ?_
  refine lv_iload_n hx hb d_TS_countFiles_14 rfl (lv_at hl 0 rfl) ?_
  refine va_aldq (D := (dC, dI)) hx hb hK hP 5 3 rfl rfl (by unfold vp_in; decide) d_TS_countFiles_15 ?_
  refine W.eq (g2 := F0 m 16 ls [.ref (q 9), .int 0]) rfl ?_
  refine va_get (D := (dC, dI)) (ci := 5) (v := .int 0) (C := RLa) (T := FLa) (N := 8) hx hb hB in_La hown hK hP 8 rfl rfl 2 (by decide) (hB _ hw_253) (fun _ h9 => h9) rfl d_TS_countFiles_16 ?_
  refine lv_if_eq (tgt := 26) hx hb d_TS_countFiles_19 (by decide) (fun _ => ?_) (fun h9 => absurd (by decide) h9)
  refine lv_iconst (v := 0) hx hb d_TS_countFiles_26 (by decide) ?_
  refine lv_iadd hx hb d_TS_countFiles_27 ?_
  refine lv_topi (fun z3 z3_e => ?_)
  obtain rfl : z3 = 0 := z3_e.trans (by decide)
  refine lv_istore_n hx hb d_TS_countFiles_28 rfl hl (by decide) rfl (fun ls hl => ?_)
  have hl : lv_has ls 3 [(1, .int 0), (2, .int 2), (0, .ref h0)] := hl
  refine lv_iinc (k := 1) (v := 3) hx hb d_TS_countFiles_29 hl rfl (by decide) (by decide) rfl (fun ls hl => ?_)
  have hl : lv_has ls 3 [(2, .int 3), (1, .int 0), (0, .ref h0)] := hl
  refine lv_goto (tgt := 4) hx hb d_TS_countFiles_32 (by decide) ?_
  refine lv_iload_n hx hb d_TS_countFiles_4 rfl (lv_at hl 0 rfl) ?_
  refine lv_iconst (v := 4) hx hb d_TS_countFiles_5 (by decide) ?_
  refine lv_icmp_ge (tgt := 35) hx hb d_TS_countFiles_6 (by decide) (fun h9 => absurd h9 (by decide)) (fun _ => ?_)
  refine lv_iload_n hx hb d_TS_countFiles_9 rfl (lv_at hl 1 rfl) ?_
  refine lv_aload_n hx hb d_TS_countFiles_10 rfl (lv_at hl 2 rfl) ?_
  refine va_get (D := (dC, dI)) (ci := 8) (v := .ref (q 6)) (C := RTS) (T := FTS) (N := 15) hx hb hB in_TS hown hK hP 0 rfl rfl 4 (by decide) (hB _ hw_311) (fun _ h9 => h9) rfl d_TS_countFiles_11 ?_
  refine lv_iload_n hx hb d_TS_countFiles_14 rfl (lv_at hl 0 rfl) ?_
  refine va_aldq (D := (dC, dI)) hx hb hK hP 5 3 rfl rfl (by unfold vp_in; decide) d_TS_countFiles_15 ?_
  refine W.eq (g2 := F0 m 16 ls [.ref (q 10), .int 0]) rfl ?_
  refine va_get (D := (dC, dI)) (ci := 5) (v := .int 0) (C := RLa) (T := FLa) (N := 8) hx hb hB in_La hown hK hP 9 rfl rfl 2 (by decide) (hB _ hw_253) (fun _ h9 => h9) rfl d_TS_countFiles_16 ?_
  refine lv_if_eq (tgt := 26) hx hb d_TS_countFiles_19 (by decide) (fun _ => ?_) (fun h9 => absurd (by decide) h9)
  refine lv_iconst (v := 0) hx hb d_TS_countFiles_26 (by decide) ?_
  refine lv_iadd hx hb d_TS_countFiles_27 ?_
  refine lv_topi (fun z4 z4_e => ?_)
  obtain rfl : z4 = 0 := z4_e.trans (by decide)
  refine lv_istore_n hx hb d_TS_countFiles_28 rfl hl (by decide) rfl (fun ls hl => ?_)
  have hl : lv_has ls 3 [(1, .int 0), (2, .int 3), (0, .ref h0)] := hl
  refine lv_iinc (k := 1) (v := 4) hx hb d_TS_countFiles_29 hl rfl (by decide) (by decide) rfl (fun ls hl => ?_)
  have hl : lv_has ls 3 [(2, .int 4), (1, .int 0), (0, .ref h0)] := hl
  refine lv_goto (tgt := 4) hx hb d_TS_countFiles_32 (by decide) ?_
  refine lv_iload_n hx hb d_TS_countFiles_4 rfl (lv_at hl 0 rfl) ?_
  refine lv_iconst (v := 4) hx hb d_TS_countFiles_5 (by decide) ?_
  refine lv_icmp_ge (tgt := 35) hx hb d_TS_countFiles_6 (by decide) (fun _ => ?_) (fun h9 => absurd (by decide) h9)
  refine lv_iload_n hx hb d_TS_countFiles_35 rfl (lv_at hl 1 rfl) ?_
  exact W.iret (v := 0) hx hb hr (fun t ht _ => ⟨rfl, ht⟩) (fun _ h => nomatch h) d_TS_countFiles_36
set_option maxHeartbeats 4000000 in
set_option maxRecDepth 100000 in
theorem p_TS_exists (l : Launch) (dC : Nat → ClassId) (dI : Nat → Nat → Nat) (h0 : Nat) (q : Nat → Nat) (ci : Nat → ClassId) (f : Int32) : Met l y_TS_exists w_TS_exists ({ frames := 0, cells := 0, slots := 0, locals := 0 }) (va_Pc [.ref h0, .int f] (fun U => va_P (dC, dI) gx_cl (wTS h0 q ci) U.heap ∧ va_K (dC, dI) gx_cl (kTS ci) U)) (px_Q (some (.int 0))) 0 0 (fun _ => False) := by
  refine Met.ofW (cc := b_TS_exists) (maxL := 2) (ret := (some .boolean)) (by decide) rfl ?_
  intro p e s m args below meth c s₁ B hml hv
  obtain ⟨rfl, hP, hK⟩ := hv
  have hx := B.exec
  have hb := B.bytes
  have hr := B.returns
  have hts := atoms_spec (ws := w_TS_exists) B.pre
  have hB : ∀ w ∈ gx_B, w.before _ s = true := fun w h => hts w (List.mem_cons_of_mem _ h)
  have hown : s.vm.findClass "TapeSealer" = some m.cls := findClass_of_methodNamed B.named
  have hlocks := B.notSynchronized
  have hl := lv_entry ([.ref h0, .int f]) (n := 2) (Nat.le_of_ble_eq_true rfl)
  rw [lg_entry_eq]
  generalize (lg_sl ([.ref h0, .int f]) ++ List.replicate (2 - (lg_sl ([.ref h0, .int f])).length) Slot.unset).toArray = ls at hl ⊢
  have hl : lv_has ls 2 [(0, .ref h0), (1, .int f)] := hl
  rcases gx_4 f with hf | hf | rfl | rfl | rfl | rfl
  · refine lv_iload_n hx hb d_TS_exists_0 rfl (lv_at hl 1 rfl) ?_
    refine lv_if_lt (tgt := 25) hx hb d_TS_exists_1 (by decide) (fun _ => ?_) (fun h9 => absurd hf h9)
    refine lv_iconst (v := 0) hx hb d_TS_exists_25 (by decide) ?_
    exact W.zret (v := 0) hx hb hr rfl (fun t ht _ => ⟨rfl, ht⟩) (fun _ h => nomatch h) d_TS_exists_26
  · refine lv_iload_n hx hb d_TS_exists_0 rfl (lv_at hl 1 rfl) ?_
    refine lv_if_lt (tgt := 25) hx hb d_TS_exists_1 (by decide) (fun h9 => absurd h9 (gx_nlt hf)) (fun _ => ?_)
    refine lv_iload_n hx hb d_TS_exists_4 rfl (lv_at hl 1 rfl) ?_
    refine lv_iconst (v := 4) hx hb d_TS_exists_5 (by decide) ?_
    refine lv_icmp_ge (tgt := 25) hx hb d_TS_exists_6 (by decide) (fun _ => ?_) (fun h9 => absurd hf h9)
    refine lv_iconst (v := 0) hx hb d_TS_exists_25 (by decide) ?_
    exact W.zret (v := 0) hx hb hr rfl (fun t ht _ => ⟨rfl, ht⟩) (fun _ h => nomatch h) d_TS_exists_26
  · refine lv_iload_n hx hb d_TS_exists_0 rfl (lv_at hl 1 rfl) ?_
    refine lv_if_lt (tgt := 25) hx hb d_TS_exists_1 (by decide) (fun h9 => absurd h9 (by decide)) (fun _ => ?_)
    refine lv_iload_n hx hb d_TS_exists_4 rfl (lv_at hl 1 rfl) ?_
    refine lv_iconst (v := 4) hx hb d_TS_exists_5 (by decide) ?_
    refine lv_icmp_ge (tgt := 25) hx hb d_TS_exists_6 (by decide) (fun h9 => absurd h9 (by decide)) (fun _ => ?_)
    refine lv_aload_n hx hb d_TS_exists_9 rfl (lv_at hl 0 rfl) ?_
    refine va_get (D := (dC, dI)) (ci := 8) (v := .ref (q 6)) (C := RTS) (T := FTS) (N := 15) hx hb hB in_TS hown hK hP 0 rfl rfl 4 (by decide) (hB _ hw_311) (fun _ h9 => h9) rfl d_TS_exists_10 ?_
    refine lv_iload_n hx hb d_TS_exists_13 rfl (lv_at hl 1 rfl) ?_
    refine va_aldq (D := (dC, dI)) hx hb hK hP 5 3 rfl rfl (by unfold vp_in; decide) d_TS_exists_14 ?_
    refine W.eq (g2 := F0 m 15 ls [.ref (q 7)]) rfl ?_
    refine va_get (D := (dC, dI)) (ci := 5) (v := .int 0) (C := RLa) (T := FLa) (N := 8) hx hb hB in_La hown hK hP 6 rfl rfl 2 (by decide) (hB _ hw_253) (fun _ h9 => h9) rfl d_TS_exists_15 ?_
    refine lv_if_eq (tgt := 25) hx hb d_TS_exists_18 (by decide) (fun _ => ?_) (fun h9 => absurd (by decide) h9)
    refine lv_iconst (v := 0) hx hb d_TS_exists_25 (by decide) ?_
    exact W.zret (v := 0) hx hb hr rfl (fun t ht _ => ⟨rfl, ht⟩) (fun _ h => nomatch h) d_TS_exists_26
  · refine lv_iload_n hx hb d_TS_exists_0 rfl (lv_at hl 1 rfl) ?_
    refine lv_if_lt (tgt := 25) hx hb d_TS_exists_1 (by decide) (fun h9 => absurd h9 (by decide)) (fun _ => ?_)
    refine lv_iload_n hx hb d_TS_exists_4 rfl (lv_at hl 1 rfl) ?_
    refine lv_iconst (v := 4) hx hb d_TS_exists_5 (by decide) ?_
    refine lv_icmp_ge (tgt := 25) hx hb d_TS_exists_6 (by decide) (fun h9 => absurd h9 (by decide)) (fun _ => ?_)
    refine lv_aload_n hx hb d_TS_exists_9 rfl (lv_at hl 0 rfl) ?_
    refine va_get (D := (dC, dI)) (ci := 8) (v := .ref (q 6)) (C := RTS) (T := FTS) (N := 15) hx hb hB in_TS hown hK hP 0 rfl rfl 4 (by decide) (hB _ hw_311) (fun _ h9 => h9) rfl d_TS_exists_10 ?_
    refine lv_iload_n hx hb d_TS_exists_13 rfl (lv_at hl 1 rfl) ?_
    refine va_aldq (D := (dC, dI)) hx hb hK hP 5 3 rfl rfl (by unfold vp_in; decide) d_TS_exists_14 ?_
    refine W.eq (g2 := F0 m 15 ls [.ref (q 8)]) rfl ?_
    refine va_get (D := (dC, dI)) (ci := 5) (v := .int 0) (C := RLa) (T := FLa) (N := 8) hx hb hB in_La hown hK hP 7 rfl rfl 2 (by decide) (hB _ hw_253) (fun _ h9 => h9) rfl d_TS_exists_15 ?_
    refine lv_if_eq (tgt := 25) hx hb d_TS_exists_18 (by decide) (fun _ => ?_) (fun h9 => absurd (by decide) h9)
    refine lv_iconst (v := 0) hx hb d_TS_exists_25 (by decide) ?_
    exact W.zret (v := 0) hx hb hr rfl (fun t ht _ => ⟨rfl, ht⟩) (fun _ h => nomatch h) d_TS_exists_26
  · refine lv_iload_n hx hb d_TS_exists_0 rfl (lv_at hl 1 rfl) ?_
    refine lv_if_lt (tgt := 25) hx hb d_TS_exists_1 (by decide) (fun h9 => absurd h9 (by decide)) (fun _ => ?_)
    refine lv_iload_n hx hb d_TS_exists_4 rfl (lv_at hl 1 rfl) ?_
    refine lv_iconst (v := 4) hx hb d_TS_exists_5 (by decide) ?_
    refine lv_icmp_ge (tgt := 25) hx hb d_TS_exists_6 (by decide) (fun h9 => absurd h9 (by decide)) (fun _ => ?_)
    refine lv_aload_n hx hb d_TS_exists_9 rfl (lv_at hl 0 rfl) ?_
    refine va_get (D := (dC, dI)) (ci := 8) (v := .ref (q 6)) (C := RTS) (T := FTS) (N := 15) hx hb hB in_TS hown hK hP 0 rfl rfl 4 (by decide) (hB _ hw_311) (fun _ h9 => h9) rfl d_TS_exists_10 ?_
    refine lv_iload_n hx hb d_TS_exists_13 rfl (lv_at hl 1 rfl) ?_
    refine va_aldq (D := (dC, dI)) hx hb hK hP 5 3 rfl rfl (by unfold vp_in; decide) d_TS_exists_14 ?_
    refine W.eq (g2 := F0 m 15 ls [.ref (q 9)]) rfl ?_
    refine va_get (D := (dC, dI)) (ci := 5) (v := .int 0) (C := RLa) (T := FLa) (N := 8) hx hb hB in_La hown hK hP 8 rfl rfl 2 (by decide) (hB _ hw_253) (fun _ h9 => h9) rfl d_TS_exists_15 ?_
    refine lv_if_eq (tgt := 25) hx hb d_TS_exists_18 (by decide) (fun _ => ?_) (fun h9 => absurd (by decide) h9)
    refine lv_iconst (v := 0) hx hb d_TS_exists_25 (by decide) ?_
    exact W.zret (v := 0) hx hb hr rfl (fun t ht _ => ⟨rfl, ht⟩) (fun _ h => nomatch h) d_TS_exists_26
  · refine lv_iload_n hx hb d_TS_exists_0 rfl (lv_at hl 1 rfl) ?_
    refine lv_if_lt (tgt := 25) hx hb d_TS_exists_1 (by decide) (fun h9 => absurd h9 (by decide)) (fun _ => ?_)
    refine lv_iload_n hx hb d_TS_exists_4 rfl (lv_at hl 1 rfl) ?_
    refine lv_iconst (v := 4) hx hb d_TS_exists_5 (by decide) ?_
    refine lv_icmp_ge (tgt := 25) hx hb d_TS_exists_6 (by decide) (fun h9 => absurd h9 (by decide)) (fun _ => ?_)
    refine lv_aload_n hx hb d_TS_exists_9 rfl (lv_at hl 0 rfl) ?_
    refine va_get (D := (dC, dI)) (ci := 8) (v := .ref (q 6)) (C := RTS) (T := FTS) (N := 15) hx hb hB in_TS hown hK hP 0 rfl rfl 4 (by decide) (hB _ hw_311) (fun _ h9 => h9) rfl d_TS_exists_10 ?_
    refine lv_iload_n hx hb d_TS_exists_13 rfl (lv_at hl 1 rfl) ?_
    refine va_aldq (D := (dC, dI)) hx hb hK hP 5 3 rfl rfl (by unfold vp_in; decide) d_TS_exists_14 ?_
    refine W.eq (g2 := F0 m 15 ls [.ref (q 10)]) rfl ?_
    refine va_get (D := (dC, dI)) (ci := 5) (v := .int 0) (C := RLa) (T := FLa) (N := 8) hx hb hB in_La hown hK hP 9 rfl rfl 2 (by decide) (hB _ hw_253) (fun _ h9 => h9) rfl d_TS_exists_15 ?_
    refine lv_if_eq (tgt := 25) hx hb d_TS_exists_18 (by decide) (fun _ => ?_) (fun h9 => absurd (by decide) h9)
    refine lv_iconst (v := 0) hx hb d_TS_exists_25 (by decide) ?_
    exact W.zret (v := 0) hx hb hr rfl (fun t ht _ => ⟨rfl, ht⟩) (fun _ h => nomatch h) d_TS_exists_26
set_option maxHeartbeats 4000000 in
set_option maxRecDepth 100000 in
theorem p_TS_ownerOf (l : Launch) (dC : Nat → ClassId) (dI : Nat → Nat → Nat) (h0 : Nat) (q : Nat → Nat) (ci : Nat → ClassId) (g : Int32) : Met l y_TS_ownerOf w_TS_ownerOf ({ frames := 1, cells := 0, slots := 0, locals := 21 }) (va_Pc [.ref h0, .int g] (fun U => va_P (dC, dI) gx_cl (wTS h0 q ci) U.heap ∧ va_K (dC, dI) gx_cl (kTS ci) U)) (px_Q (some (.int (-1)))) 0 0 (fun _ => False) := by
  refine Met.ofW (cc := b_TS_ownerOf) (maxL := 3) (ret := (some .int)) (by decide) rfl ?_
  intro p e s m args below meth c s₁ B hml hv
  obtain ⟨rfl, hP, hK⟩ := hv
  have hx := B.exec
  have hb := B.bytes
  have hr := B.returns
  have hts := atoms_spec (ws := w_TS_ownerOf) B.pre
  have hB : ∀ w ∈ gx_B, w.before _ s = true := fun w h => hts w (List.mem_cons_of_mem _ h)
  have hown : s.vm.findClass "TapeSealer" = some m.cls := findClass_of_methodNamed B.named
  have hlocks := B.notSynchronized
  have hl := lv_entry ([.ref h0, .int g]) (n := 3) (Nat.le_of_ble_eq_true rfl)
  rw [lg_entry_eq]
  generalize (lg_sl ([.ref h0, .int g]) ++ List.replicate (3 - (lg_sl ([.ref h0, .int g])).length) Slot.unset).toArray = ls at hl ⊢
  have hl : lv_has ls 3 [(0, .ref h0), (1, .int g)] := hl
  refine lv_iconst (v := 0) hx hb d_TS_ownerOf_0 (by decide) ?_
  refine lv_istore_n hx hb d_TS_ownerOf_1 rfl hl (by decide) rfl (fun ls hl => ?_)
  have hl : lv_has ls 3 [(2, .int 0), (0, .ref h0), (1, .int g)] := hl
  refine lv_iload_n hx hb d_TS_ownerOf_2 rfl (lv_at hl 0 rfl) ?_
  refine lv_iconst (v := 4) hx hb d_TS_ownerOf_3 (by decide) ?_
  refine lv_icmp_ge (tgt := 28) hx hb d_TS_ownerOf_4 (by decide) (fun h9 => absurd h9 (by decide)) (fun _ => ?_)
  refine lv_aload_n hx hb d_TS_ownerOf_7 rfl (lv_at hl 1 rfl) ?_
  refine va_get (D := (dC, dI)) (ci := 8) (v := .ref (q 6)) (C := RTS) (T := FTS) (N := 15) hx hb hB in_TS hown hK hP 0 rfl rfl 4 (by decide) (hB _ hw_311) (fun _ h9 => h9) rfl d_TS_ownerOf_8 ?_
  refine lv_iload_n hx hb d_TS_ownerOf_11 rfl (lv_at hl 0 rfl) ?_
  refine va_aldq (D := (dC, dI)) hx hb hK hP 5 3 rfl rfl (by unfold vp_in; decide) d_TS_ownerOf_12 ?_
  refine W.eq (g2 := F0 m 13 ls [.ref (q 7)]) rfl ?_
  refine lv_iload_n hx hb d_TS_ownerOf_13 rfl (lv_at hl 2 rfl) ?_
  refine px_go (va_runV (C := "TapeSealer$Label") (As := [.int g]) (rest := []) ⟨hx, hb, hml, hown, hts⟩ (p_La_hasGroup l dC dI (q 7) (q 11) 0 g) (cwV 1 hts (gx_goodV hw_569 hw_570 hw_571 hw_73 k_La_hasGroup) rfl rfl rfl (by decide +kernel) ⟨(Nat.le_of_ble_eq_true rfl), (Nat.le_of_ble_eq_true rfl)⟩) ⟨fun a U g mk q => by obtain ⟨q0, qP, qK⟩ := q; exact ⟨q0, qP, va_K.moved (u := U) (U := U.calling g mk a) (Vm.Alike.refl U.vm) qK⟩, va_recv hK hP rfl (q0 := 6) rfl, fun U hU hW => ⟨rfl, by rw [hU]; exact hP.sub (ws' := [((q 7), .inr (5, [.ref (q 11), .int 0, .int 0, .int 0, .int 0, .int 0, .int 0, .int 0]))]) [6] rfl, va_K.moved hW.alike (hK.sub (tys' := []) [] rfl)⟩⟩ rfl rfl hl.1 rfl (lv_room (Nat.le_of_ble_eq_true rfl)) d_TS_ownerOf_14 ⟨(Nat.le_of_ble_eq_true rfl), (Nat.le_of_ble_eq_true rfl)⟩) ?_
  refine W.eq (g2 := F0 m 17 ls [.int 0]) rfl ?_
  refine lv_if_eq (tgt := 22) hx hb d_TS_ownerOf_17 (by decide) (fun _ => ?_) (fun h9 => absurd (by decide) h9)
  refine lv_iinc (k := 0) (v := 1) hx hb d_TS_ownerOf_22 hl rfl (by decide) (by decide) rfl (fun ls hl => ?_)
  have hl : lv_has ls 3 [(2, .int 1), (0, .ref h0), (1, .int g)] := hl
  refine lv_goto (tgt := 2) hx hb d_TS_ownerOf_25 (by decide) ?_
  refine lv_iload_n hx hb d_TS_ownerOf_2 rfl (lv_at hl 0 rfl) ?_
  refine lv_iconst (v := 4) hx hb d_TS_ownerOf_3 (by decide) ?_
  refine lv_icmp_ge (tgt := 28) hx hb d_TS_ownerOf_4 (by decide) (fun h9 => absurd h9 (by decide)) (fun _ => ?_)
  refine lv_aload_n hx hb d_TS_ownerOf_7 rfl (lv_at hl 1 rfl) ?_
  refine va_get (D := (dC, dI)) (ci := 8) (v := .ref (q 6)) (C := RTS) (T := FTS) (N := 15) hx hb hB in_TS hown hK hP 0 rfl rfl 4 (by decide) (hB _ hw_311) (fun _ h9 => h9) rfl d_TS_ownerOf_8 ?_
  refine lv_iload_n hx hb d_TS_ownerOf_11 rfl (lv_at hl 0 rfl) ?_
  refine va_aldq (D := (dC, dI)) hx hb hK hP 5 3 rfl rfl (by unfold vp_in; decide) d_TS_ownerOf_12 ?_
  refine W.eq (g2 := F0 m 13 ls [.ref (q 8)]) rfl ?_
  refine lv_iload_n hx hb d_TS_ownerOf_13 rfl (lv_at hl 2 rfl) ?_
  refine px_go (va_runV (C := "TapeSealer$Label") (As := [.int g]) (rest := []) ⟨hx, hb, hml, hown, hts⟩ (p_La_hasGroup l dC dI (q 8) (q 12) 1 g) (cwV 1 hts (gx_goodV hw_569 hw_570 hw_571 hw_73 k_La_hasGroup) rfl rfl rfl (by decide +kernel) ⟨(Nat.le_of_ble_eq_true rfl), (Nat.le_of_ble_eq_true rfl)⟩) ⟨fun a U g mk q => by obtain ⟨q0, qP, qK⟩ := q; exact ⟨q0, qP, va_K.moved (u := U) (U := U.calling g mk a) (Vm.Alike.refl U.vm) qK⟩, va_recv hK hP rfl (q0 := 7) rfl, fun U hU hW => ⟨rfl, by rw [hU]; exact hP.sub (ws' := [((q 8), .inr (5, [.ref (q 12), .int 1, .int 0, .int 0, .int 0, .int 0, .int 0, .int 0]))]) [7] rfl, va_K.moved hW.alike (hK.sub (tys' := []) [] rfl)⟩⟩ rfl rfl hl.1 rfl (lv_room (Nat.le_of_ble_eq_true rfl)) d_TS_ownerOf_14 ⟨(Nat.le_of_ble_eq_true rfl), (Nat.le_of_ble_eq_true rfl)⟩) ?_
  refine W.eq (g2 := F0 m 17 ls [.int 0]) rfl ?_
  refine lv_if_eq (tgt := 22) hx hb d_TS_ownerOf_17 (by decide) (fun _ => ?_) (fun h9 => absurd (by decide) h9)
  refine lv_iinc (k := 0) (v := 2) hx hb d_TS_ownerOf_22 hl rfl (by decide) (by decide) rfl (fun ls hl => ?_)
  have hl : lv_has ls 3 [(2, .int 2), (0, .ref h0), (1, .int g)] := hl
  refine lv_goto (tgt := 2) hx hb d_TS_ownerOf_25 (by decide) ?_
  refine lv_iload_n hx hb d_TS_ownerOf_2 rfl (lv_at hl 0 rfl) ?_
  refine lv_iconst (v := 4) hx hb d_TS_ownerOf_3 (by decide) ?_
  refine lv_icmp_ge (tgt := 28) hx hb d_TS_ownerOf_4 (by decide) (fun h9 => absurd h9 (by decide)) (fun _ => ?_)
  refine lv_aload_n hx hb d_TS_ownerOf_7 rfl (lv_at hl 1 rfl) ?_
  refine va_get (D := (dC, dI)) (ci := 8) (v := .ref (q 6)) (C := RTS) (T := FTS) (N := 15) hx hb hB in_TS hown hK hP 0 rfl rfl 4 (by decide) (hB _ hw_311) (fun _ h9 => h9) rfl d_TS_ownerOf_8 ?_
  refine lv_iload_n hx hb d_TS_ownerOf_11 rfl (lv_at hl 0 rfl) ?_
  refine va_aldq (D := (dC, dI)) hx hb hK hP 5 3 rfl rfl (by unfold vp_in; decide) d_TS_ownerOf_12 ?_
  refine W.eq (g2 := F0 m 13 ls [.ref (q 9)]) rfl ?_
  refine lv_iload_n hx hb d_TS_ownerOf_13 rfl (lv_at hl 2 rfl) ?_
  refine px_go (va_runV (C := "TapeSealer$Label") (As := [.int g]) (rest := []) ⟨hx, hb, hml, hown, hts⟩ (p_La_hasGroup l dC dI (q 9) (q 13) 2 g) (cwV 1 hts (gx_goodV hw_569 hw_570 hw_571 hw_73 k_La_hasGroup) rfl rfl rfl (by decide +kernel) ⟨(Nat.le_of_ble_eq_true rfl), (Nat.le_of_ble_eq_true rfl)⟩) ⟨fun a U g mk q => by obtain ⟨q0, qP, qK⟩ := q; exact ⟨q0, qP, va_K.moved (u := U) (U := U.calling g mk a) (Vm.Alike.refl U.vm) qK⟩, va_recv hK hP rfl (q0 := 8) rfl, fun U hU hW => ⟨rfl, by rw [hU]; exact hP.sub (ws' := [((q 9), .inr (5, [.ref (q 13), .int 2, .int 0, .int 0, .int 0, .int 0, .int 0, .int 0]))]) [8] rfl, va_K.moved hW.alike (hK.sub (tys' := []) [] rfl)⟩⟩ rfl rfl hl.1 rfl (lv_room (Nat.le_of_ble_eq_true rfl)) d_TS_ownerOf_14 ⟨(Nat.le_of_ble_eq_true rfl), (Nat.le_of_ble_eq_true rfl)⟩) ?_
  refine W.eq (g2 := F0 m 17 ls [.int 0]) rfl ?_
  refine lv_if_eq (tgt := 22) hx hb d_TS_ownerOf_17 (by decide) (fun _ => ?_) (fun h9 => absurd (by decide) h9)
  refine lv_iinc (k := 0) (v := 3) hx hb d_TS_ownerOf_22 hl rfl (by decide) (by decide) rfl (fun ls hl => ?_)
  have hl : lv_has ls 3 [(2, .int 3), (0, .ref h0), (1, .int g)] := hl
  refine lv_goto (tgt := 2) hx hb d_TS_ownerOf_25 (by decide) ?_
  refine lv_iload_n hx hb d_TS_ownerOf_2 rfl (lv_at hl 0 rfl) ?_
  refine lv_iconst (v := 4) hx hb d_TS_ownerOf_3 (by decide) ?_
  refine lv_icmp_ge (tgt := 28) hx hb d_TS_ownerOf_4 (by decide) (fun h9 => absurd h9 (by decide)) (fun _ => ?_)
  refine lv_aload_n hx hb d_TS_ownerOf_7 rfl (lv_at hl 1 rfl) ?_
  refine va_get (D := (dC, dI)) (ci := 8) (v := .ref (q 6)) (C := RTS) (T := FTS) (N := 15) hx hb hB in_TS hown hK hP 0 rfl rfl 4 (by decide) (hB _ hw_311) (fun _ h9 => h9) rfl d_TS_ownerOf_8 ?_
  refine lv_iload_n hx hb d_TS_ownerOf_11 rfl (lv_at hl 0 rfl) ?_
  refine va_aldq (D := (dC, dI)) hx hb hK hP 5 3 rfl rfl (by unfold vp_in; decide) d_TS_ownerOf_12 ?_
  refine W.eq (g2 := F0 m 13 ls [.ref (q 10)]) rfl ?_
  refine lv_iload_n hx hb d_TS_ownerOf_13 rfl (lv_at hl 2 rfl) ?_
  refine px_go (va_runV (C := "TapeSealer$Label") (As := [.int g]) (rest := []) ⟨hx, hb, hml, hown, hts⟩ (p_La_hasGroup l dC dI (q 10) (q 14) 3 g) (cwV 1 hts (gx_goodV hw_569 hw_570 hw_571 hw_73 k_La_hasGroup) rfl rfl rfl (by decide +kernel) ⟨(Nat.le_of_ble_eq_true rfl), (Nat.le_of_ble_eq_true rfl)⟩) ⟨fun a U g mk q => by obtain ⟨q0, qP, qK⟩ := q; exact ⟨q0, qP, va_K.moved (u := U) (U := U.calling g mk a) (Vm.Alike.refl U.vm) qK⟩, va_recv hK hP rfl (q0 := 9) rfl, fun U hU hW => ⟨rfl, by rw [hU]; exact hP.sub (ws' := [((q 10), .inr (5, [.ref (q 14), .int 3, .int 0, .int 0, .int 0, .int 0, .int 0, .int 0]))]) [9] rfl, va_K.moved hW.alike (hK.sub (tys' := []) [] rfl)⟩⟩ rfl rfl hl.1 rfl (lv_room (Nat.le_of_ble_eq_true rfl)) d_TS_ownerOf_14 ⟨(Nat.le_of_ble_eq_true rfl), (Nat.le_of_ble_eq_true rfl)⟩) ?_
  refine W.eq (g2 := F0 m 17 ls [.int 0]) rfl ?_
  refine lv_if_eq (tgt := 22) hx hb d_TS_ownerOf_17 (by decide) (fun _ => ?_) (fun h9 => absurd (by decide) h9)
  refine lv_iinc (k := 0) (v := 4) hx hb d_TS_ownerOf_22 hl rfl (by decide) (by decide) rfl (fun ls hl => ?_)
  have hl : lv_has ls 3 [(2, .int 4), (0, .ref h0), (1, .int g)] := hl
  refine lv_goto (tgt := 2) hx hb d_TS_ownerOf_25 (by decide) ?_
  refine lv_iload_n hx hb d_TS_ownerOf_2 rfl (lv_at hl 0 rfl) ?_
  refine lv_iconst (v := 4) hx hb d_TS_ownerOf_3 (by decide) ?_
  refine lv_icmp_ge (tgt := 28) hx hb d_TS_ownerOf_4 (by decide) (fun _ => ?_) (fun h9 => absurd (by decide) h9)
  refine lv_iconst (v := (-1)) hx hb d_TS_ownerOf_28 (by decide) ?_
  exact W.iret (v := (-1)) hx hb hr (fun t ht _ => ⟨rfl, ht⟩) (fun _ h => nomatch h) d_TS_ownerOf_29
set_option maxHeartbeats 4000000 in
set_option maxRecDepth 100000 in
theorem p_TS_countFree (l : Launch) (dC : Nat → ClassId) (dI : Nat → Nat → Nat) (h0 : Nat) (q : Nat → Nat) (ci : Nat → ClassId) : Met l y_TS_countFree w_TS_countFree ({ frames := 2, cells := 0, slots := 0, locals := 43 }) (va_Pc [.ref h0] (fun U => va_P (dC, dI) gx_cl (wTS h0 q ci) U.heap ∧ va_K (dC, dI) gx_cl (kTS ci) U)) (px_Q (some (.int 6))) 0 0 (fun _ => False) := by
  refine Met.ofW (cc := b_TS_countFree) (maxL := 3) (ret := (some .int)) (by decide) rfl ?_
  intro p e s m args below meth c s₁ B hml hv
  obtain ⟨rfl, hP, hK⟩ := hv
  have hx := B.exec
  have hb := B.bytes
  have hr := B.returns
  have hts := atoms_spec (ws := w_TS_countFree) B.pre
  have hB : ∀ w ∈ gx_B, w.before _ s = true := fun w h => hts w (List.mem_cons_of_mem _ h)
  have hown : s.vm.findClass "TapeSealer" = some m.cls := findClass_of_methodNamed B.named
  have hlocks := B.notSynchronized
  have hl := lv_entry ([.ref h0]) (n := 3) (Nat.le_of_ble_eq_true rfl)
  rw [lg_entry_eq]
  generalize (lg_sl ([.ref h0]) ++ List.replicate (3 - (lg_sl ([.ref h0])).length) Slot.unset).toArray = ls at hl ⊢
  have hl : lv_has ls 3 [(0, .ref h0)] := hl
  refine lv_iconst (v := 0) hx hb d_TS_countFree_0 (by decide) ?_
  refine lv_istore_n hx hb d_TS_countFree_1 rfl hl (by decide) rfl (fun ls hl => ?_)
  have hl : lv_has ls 3 [(1, .int 0), (0, .ref h0)] := hl
  refine lv_iconst (v := 0) hx hb d_TS_countFree_2 (by decide) ?_
  refine lv_istore_n hx hb d_TS_countFree_3 rfl hl (by decide) rfl (fun ls hl => ?_)
  have hl : lv_has ls 3 [(2, .int 0), (1, .int 0), (0, .ref h0)] := hl
  refine lv_iload_n hx hb d_TS_countFree_4 rfl (lv_at hl 0 rfl) ?_
  refine lv_bipush (v := 6) hx hb d_TS_countFree_5 (by decide) ?_
  refine lv_icmp_ge (tgt := 33) hx hb d_TS_countFree_7 (by decide) (fun h9 => absurd h9 (by decide)) (fun _ => ?_)
  refine lv_iload_n hx hb d_TS_countFree_10 rfl (lv_at hl 1 rfl) ?_
  refine lv_aload_n hx hb d_TS_countFree_11 rfl (lv_at hl 2 rfl) ?_
  refine lv_iload_n hx hb d_TS_countFree_12 rfl (lv_at hl 0 rfl) ?_
  refine px_go (va_runV (C := "TapeSealer") (As := [.int 0]) (rest := [.int 0]) ⟨hx, hb, hml, hown, hts⟩ (p_TS_ownerOf l dC dI h0 q ci 0) (cwV 1 hts (gx_goodV hw_565 hw_567 hw_14 hw_66 k_TS_ownerOf) rfl rfl rfl (by decide +kernel) ⟨(Nat.le_of_ble_eq_true rfl), (Nat.le_of_ble_eq_true rfl)⟩) ⟨fun a U g mk q => by obtain ⟨q0, qP, qK⟩ := q; exact ⟨q0, qP, va_K.moved (u := U) (U := U.calling g mk a) (Vm.Alike.refl U.vm) qK⟩, va_recv hK hP rfl (q0 := 0) rfl, fun U hU hW => ⟨rfl, by rw [hU]; exact hP, va_K.moved hW.alike (hK)⟩⟩ rfl rfl hl.1 rfl (lv_room (Nat.le_of_ble_eq_true rfl)) d_TS_countFree_13 ⟨(Nat.le_of_ble_eq_true rfl), (Nat.le_of_ble_eq_true rfl)⟩) ?_
  refine W.eq (g2 := F0 m 16 ls [.int (-1), .int 0]) rfl ?_
  refine lv_iconst (v := (-1)) hx hb d_TS_countFree_16 (by decide) ?_
  refine lv_icmp_ne (tgt := 24) hx hb d_TS_countFree_17 (by decide) (fun h9 => absurd (by decide) h9) (fun _ => ?_)
  refine lv_iconst (v := 1) hx hb d_TS_countFree_20 (by decide) ?_
  refine lv_goto (tgt := 25) hx hb d_TS_countFree_21 (by decide) ?_
  refine lv_iadd hx hb d_TS_countFree_25 ?_
  refine lv_topi (fun z1 z1_e => ?_)
  obtain rfl : z1 = 1 := z1_e.trans (by decide)
  refine lv_istore_n hx hb d_TS_countFree_26 rfl hl (by decide) rfl (fun ls hl => ?_)
  have hl : lv_has ls 3 [(1, .int 1), (2, .int 0), (0, .ref h0)] := hl
  refine lv_iinc (k := 1) (v := 1) hx hb d_TS_countFree_27 hl rfl (by decide) (by decide) rfl (fun ls hl => ?_)
  have hl : lv_has ls 3 [(2, .int 1), (1, .int 1), (0, .ref h0)] := hl
  refine lv_goto (tgt := 4) hx hb d_TS_countFree_30 (by decide) ?_
  refine lv_iload_n hx hb d_TS_countFree_4 rfl (lv_at hl 0 rfl) ?_
  refine lv_bipush (v := 6) hx hb d_TS_countFree_5 (by decide) ?_
  refine lv_icmp_ge (tgt := 33) hx hb d_TS_countFree_7 (by decide) (fun h9 => absurd h9 (by decide)) (fun _ => ?_)
  refine lv_iload_n hx hb d_TS_countFree_10 rfl (lv_at hl 1 rfl) ?_
  refine lv_aload_n hx hb d_TS_countFree_11 rfl (lv_at hl 2 rfl) ?_
  refine lv_iload_n hx hb d_TS_countFree_12 rfl (lv_at hl 0 rfl) ?_
  refine px_go (va_runV (C := "TapeSealer") (As := [.int 1]) (rest := [.int 1]) ⟨hx, hb, hml, hown, hts⟩ (p_TS_ownerOf l dC dI h0 q ci 1) (cwV 1 hts (gx_goodV hw_565 hw_567 hw_14 hw_66 k_TS_ownerOf) rfl rfl rfl (by decide +kernel) ⟨(Nat.le_of_ble_eq_true rfl), (Nat.le_of_ble_eq_true rfl)⟩) ⟨fun a U g mk q => by obtain ⟨q0, qP, qK⟩ := q; exact ⟨q0, qP, va_K.moved (u := U) (U := U.calling g mk a) (Vm.Alike.refl U.vm) qK⟩, va_recv hK hP rfl (q0 := 0) rfl, fun U hU hW => ⟨rfl, by rw [hU]; exact hP, va_K.moved hW.alike (hK)⟩⟩ rfl rfl hl.1 rfl (lv_room (Nat.le_of_ble_eq_true rfl)) d_TS_countFree_13 ⟨(Nat.le_of_ble_eq_true rfl), (Nat.le_of_ble_eq_true rfl)⟩) ?_
  refine W.eq (g2 := F0 m 16 ls [.int (-1), .int 1]) rfl ?_
  refine lv_iconst (v := (-1)) hx hb d_TS_countFree_16 (by decide) ?_
  refine lv_icmp_ne (tgt := 24) hx hb d_TS_countFree_17 (by decide) (fun h9 => absurd (by decide) h9) (fun _ => ?_)
  refine lv_iconst (v := 1) hx hb d_TS_countFree_20 (by decide) ?_
  refine lv_goto (tgt := 25) hx hb d_TS_countFree_21 (by decide) ?_
  refine lv_iadd hx hb d_TS_countFree_25 ?_
  refine lv_topi (fun z2 z2_e => ?_)
  obtain rfl : z2 = 2 := z2_e.trans (by decide)
  refine lv_istore_n hx hb d_TS_countFree_26 rfl hl (by decide) rfl (fun ls hl => ?_)
  have hl : lv_has ls 3 [(1, .int 2), (2, .int 1), (0, .ref h0)] := hl
  refine lv_iinc (k := 1) (v := 2) hx hb d_TS_countFree_27 hl rfl (by decide) (by decide) rfl (fun ls hl => ?_)
  have hl : lv_has ls 3 [(2, .int 2), (1, .int 2), (0, .ref h0)] := hl
  refine lv_goto (tgt := 4) hx hb d_TS_countFree_30 (by decide) ?_
  refine lv_iload_n hx hb d_TS_countFree_4 rfl (lv_at hl 0 rfl) ?_
  refine lv_bipush (v := 6) hx hb d_TS_countFree_5 (by decide) ?_
  refine lv_icmp_ge (tgt := 33) hx hb d_TS_countFree_7 (by decide) (fun h9 => absurd h9 (by decide)) (fun _ => ?_)
  refine lv_iload_n hx hb d_TS_countFree_10 rfl (lv_at hl 1 rfl) ?_
  refine lv_aload_n hx hb d_TS_countFree_11 rfl (lv_at hl 2 rfl) ?_
  refine lv_iload_n hx hb d_TS_countFree_12 rfl (lv_at hl 0 rfl) ?_
  refine px_go (va_runV (C := "TapeSealer") (As := [.int 2]) (rest := [.int 2]) ⟨hx, hb, hml, hown, hts⟩ (p_TS_ownerOf l dC dI h0 q ci 2) (cwV 1 hts (gx_goodV hw_565 hw_567 hw_14 hw_66 k_TS_ownerOf) rfl rfl rfl (by decide +kernel) ⟨(Nat.le_of_ble_eq_true rfl), (Nat.le_of_ble_eq_true rfl)⟩) ⟨fun a U g mk q => by obtain ⟨q0, qP, qK⟩ := q; exact ⟨q0, qP, va_K.moved (u := U) (U := U.calling g mk a) (Vm.Alike.refl U.vm) qK⟩, va_recv hK hP rfl (q0 := 0) rfl, fun U hU hW => ⟨rfl, by rw [hU]; exact hP, va_K.moved hW.alike (hK)⟩⟩ rfl rfl hl.1 rfl (lv_room (Nat.le_of_ble_eq_true rfl)) d_TS_countFree_13 ⟨(Nat.le_of_ble_eq_true rfl), (Nat.le_of_ble_eq_true rfl)⟩) ?_
  refine W.eq (g2 := F0 m 16 ls [.int (-1), .int 2]) rfl ?_
  refine lv_iconst (v := (-1)) hx hb d_TS_countFree_16 (by decide) ?_
  refine lv_icmp_ne (tgt := 24) hx hb d_TS_countFree_17 (by decide) (fun h9 => absurd (by decide) h9) (fun _ => ?_)
  refine lv_iconst (v := 1) hx hb d_TS_countFree_20 (by decide) ?_
  refine lv_goto (tgt := 25) hx hb d_TS_countFree_21 (by decide) ?_
  refine lv_iadd hx hb d_TS_countFree_25 ?_
  refine lv_topi (fun z3 z3_e => ?_)
  obtain rfl : z3 = 3 := z3_e.trans (by decide)
  refine lv_istore_n hx hb d_TS_countFree_26 rfl hl (by decide) rfl (fun ls hl => ?_)
  have hl : lv_has ls 3 [(1, .int 3), (2, .int 2), (0, .ref h0)] := hl
  refine lv_iinc (k := 1) (v := 3) hx hb d_TS_countFree_27 hl rfl (by decide) (by decide) rfl (fun ls hl => ?_)
  have hl : lv_has ls 3 [(2, .int 3), (1, .int 3), (0, .ref h0)] := hl
  refine lv_goto (tgt := 4) hx hb d_TS_countFree_30 (by decide) ?_
  refine lv_iload_n hx hb d_TS_countFree_4 rfl (lv_at hl 0 rfl) ?_
  refine lv_bipush (v := 6) hx hb d_TS_countFree_5 (by decide) ?_
  refine lv_icmp_ge (tgt := 33) hx hb d_TS_countFree_7 (by decide) (fun h9 => absurd h9 (by decide)) (fun _ => ?_)
  refine lv_iload_n hx hb d_TS_countFree_10 rfl (lv_at hl 1 rfl) ?_
  refine lv_aload_n hx hb d_TS_countFree_11 rfl (lv_at hl 2 rfl) ?_
  refine lv_iload_n hx hb d_TS_countFree_12 rfl (lv_at hl 0 rfl) ?_
  refine px_go (va_runV (C := "TapeSealer") (As := [.int 3]) (rest := [.int 3]) ⟨hx, hb, hml, hown, hts⟩ (p_TS_ownerOf l dC dI h0 q ci 3) (cwV 1 hts (gx_goodV hw_565 hw_567 hw_14 hw_66 k_TS_ownerOf) rfl rfl rfl (by decide +kernel) ⟨(Nat.le_of_ble_eq_true rfl), (Nat.le_of_ble_eq_true rfl)⟩) ⟨fun a U g mk q => by obtain ⟨q0, qP, qK⟩ := q; exact ⟨q0, qP, va_K.moved (u := U) (U := U.calling g mk a) (Vm.Alike.refl U.vm) qK⟩, va_recv hK hP rfl (q0 := 0) rfl, fun U hU hW => ⟨rfl, by rw [hU]; exact hP, va_K.moved hW.alike (hK)⟩⟩ rfl rfl hl.1 rfl (lv_room (Nat.le_of_ble_eq_true rfl)) d_TS_countFree_13 ⟨(Nat.le_of_ble_eq_true rfl), (Nat.le_of_ble_eq_true rfl)⟩) ?_
  refine W.eq (g2 := F0 m 16 ls [.int (-1), .int 3]) rfl ?_
  refine lv_iconst (v := (-1)) hx hb d_TS_countFree_16 (by decide) ?_
  refine lv_icmp_ne (tgt := 24) hx hb d_TS_countFree_17 (by decide) (fun h9 => absurd (by decide) h9) (fun _ => ?_)
  refine lv_iconst (v := 1) hx hb d_TS_countFree_20 (by decide) ?_
  refine lv_goto (tgt := 25) hx hb d_TS_countFree_21 (by decide) ?_
  refine lv_iadd hx hb d_TS_countFree_25 ?_
  refine lv_topi (fun z4 z4_e => ?_)
  obtain rfl : z4 = 4 := z4_e.trans (by decide)
  refine lv_istore_n hx hb d_TS_countFree_26 rfl hl (by decide) rfl (fun ls hl => ?_)
  have hl : lv_has ls 3 [(1, .int 4), (2, .int 3), (0, .ref h0)] := hl
  refine lv_iinc (k := 1) (v := 4) hx hb d_TS_countFree_27 hl rfl (by decide) (by decide) rfl (fun ls hl => ?_)
  have hl : lv_has ls 3 [(2, .int 4), (1, .int 4), (0, .ref h0)] := hl
  refine lv_goto (tgt := 4) hx hb d_TS_countFree_30 (by decide) ?_
  refine lv_iload_n hx hb d_TS_countFree_4 rfl (lv_at hl 0 rfl) ?_
  refine lv_bipush (v := 6) hx hb d_TS_countFree_5 (by decide) ?_
  refine lv_icmp_ge (tgt := 33) hx hb d_TS_countFree_7 (by decide) (fun h9 => absurd h9 (by decide)) (fun _ => ?_)
  refine lv_iload_n hx hb d_TS_countFree_10 rfl (lv_at hl 1 rfl) ?_
  refine lv_aload_n hx hb d_TS_countFree_11 rfl (lv_at hl 2 rfl) ?_
  refine lv_iload_n hx hb d_TS_countFree_12 rfl (lv_at hl 0 rfl) ?_
  refine px_go (va_runV (C := "TapeSealer") (As := [.int 4]) (rest := [.int 4]) ⟨hx, hb, hml, hown, hts⟩ (p_TS_ownerOf l dC dI h0 q ci 4) (cwV 1 hts (gx_goodV hw_565 hw_567 hw_14 hw_66 k_TS_ownerOf) rfl rfl rfl (by decide +kernel) ⟨(Nat.le_of_ble_eq_true rfl), (Nat.le_of_ble_eq_true rfl)⟩) ⟨fun a U g mk q => by obtain ⟨q0, qP, qK⟩ := q; exact ⟨q0, qP, va_K.moved (u := U) (U := U.calling g mk a) (Vm.Alike.refl U.vm) qK⟩, va_recv hK hP rfl (q0 := 0) rfl, fun U hU hW => ⟨rfl, by rw [hU]; exact hP, va_K.moved hW.alike (hK)⟩⟩ rfl rfl hl.1 rfl (lv_room (Nat.le_of_ble_eq_true rfl)) d_TS_countFree_13 ⟨(Nat.le_of_ble_eq_true rfl), (Nat.le_of_ble_eq_true rfl)⟩) ?_
  refine W.eq (g2 := F0 m 16 ls [.int (-1), .int 4]) rfl ?_
  refine lv_iconst (v := (-1)) hx hb d_TS_countFree_16 (by decide) ?_
  refine lv_icmp_ne (tgt := 24) hx hb d_TS_countFree_17 (by decide) (fun h9 => absurd (by decide) h9) (fun _ => ?_)
  refine lv_iconst (v := 1) hx hb d_TS_countFree_20 (by decide) ?_
  refine lv_goto (tgt := 25) hx hb d_TS_countFree_21 (by decide) ?_
  refine lv_iadd hx hb d_TS_countFree_25 ?_
  refine lv_topi (fun z5 z5_e => ?_)
  obtain rfl : z5 = 5 := z5_e.trans (by decide)
  refine lv_istore_n hx hb d_TS_countFree_26 rfl hl (by decide) rfl (fun ls hl => ?_)
  have hl : lv_has ls 3 [(1, .int 5), (2, .int 4), (0, .ref h0)] := hl
  refine lv_iinc (k := 1) (v := 5) hx hb d_TS_countFree_27 hl rfl (by decide) (by decide) rfl (fun ls hl => ?_)
  have hl : lv_has ls 3 [(2, .int 5), (1, .int 5), (0, .ref h0)] := hl
  refine lv_goto (tgt := 4) hx hb d_TS_countFree_30 (by decide) ?_
  refine lv_iload_n hx hb d_TS_countFree_4 rfl (lv_at hl 0 rfl) ?_
  refine lv_bipush (v := 6) hx hb d_TS_countFree_5 (by decide) ?_
  refine lv_icmp_ge (tgt := 33) hx hb d_TS_countFree_7 (by decide) (fun h9 => absurd h9 (by decide)) (fun _ => ?_)
  refine lv_iload_n hx hb d_TS_countFree_10 rfl (lv_at hl 1 rfl) ?_
  refine lv_aload_n hx hb d_TS_countFree_11 rfl (lv_at hl 2 rfl) ?_
  refine lv_iload_n hx hb d_TS_countFree_12 rfl (lv_at hl 0 rfl) ?_
  refine px_go (va_runV (C := "TapeSealer") (As := [.int 5]) (rest := [.int 5]) ⟨hx, hb, hml, hown, hts⟩ (p_TS_ownerOf l dC dI h0 q ci 5) (cwV 1 hts (gx_goodV hw_565 hw_567 hw_14 hw_66 k_TS_ownerOf) rfl rfl rfl (by decide +kernel) ⟨(Nat.le_of_ble_eq_true rfl), (Nat.le_of_ble_eq_true rfl)⟩) ⟨fun a U g mk q => by obtain ⟨q0, qP, qK⟩ := q; exact ⟨q0, qP, va_K.moved (u := U) (U := U.calling g mk a) (Vm.Alike.refl U.vm) qK⟩, va_recv hK hP rfl (q0 := 0) rfl, fun U hU hW => ⟨rfl, by rw [hU]; exact hP, va_K.moved hW.alike (hK)⟩⟩ rfl rfl hl.1 rfl (lv_room (Nat.le_of_ble_eq_true rfl)) d_TS_countFree_13 ⟨(Nat.le_of_ble_eq_true rfl), (Nat.le_of_ble_eq_true rfl)⟩) ?_
  refine W.eq (g2 := F0 m 16 ls [.int (-1), .int 5]) rfl ?_
  refine lv_iconst (v := (-1)) hx hb d_TS_countFree_16 (by decide) ?_
  refine lv_icmp_ne (tgt := 24) hx hb d_TS_countFree_17 (by decide) (fun h9 => absurd (by decide) h9) (fun _ => ?_)
  refine lv_iconst (v := 1) hx hb d_TS_countFree_20 (by decide) ?_
  refine lv_goto (tgt := 25) hx hb d_TS_countFree_21 (by decide) ?_
  refine lv_iadd hx hb d_TS_countFree_25 ?_
  refine lv_topi (fun z6 z6_e => ?_)
  obtain rfl : z6 = 6 := z6_e.trans (by decide)
  refine lv_istore_n hx hb d_TS_countFree_26 rfl hl (by decide) rfl (fun ls hl => ?_)
  have hl : lv_has ls 3 [(1, .int 6), (2, .int 5), (0, .ref h0)] := hl
  refine lv_iinc (k := 1) (v := 6) hx hb d_TS_countFree_27 hl rfl (by decide) (by decide) rfl (fun ls hl => ?_)
  have hl : lv_has ls 3 [(2, .int 6), (1, .int 6), (0, .ref h0)] := hl
  refine lv_goto (tgt := 4) hx hb d_TS_countFree_30 (by decide) ?_
  refine lv_iload_n hx hb d_TS_countFree_4 rfl (lv_at hl 0 rfl) ?_
  refine lv_bipush (v := 6) hx hb d_TS_countFree_5 (by decide) ?_
  refine lv_icmp_ge (tgt := 33) hx hb d_TS_countFree_7 (by decide) (fun _ => ?_) (fun h9 => absurd (by decide) h9)
  refine lv_iload_n hx hb d_TS_countFree_33 rfl (lv_at hl 1 rfl) ?_
  exact W.iret (v := 6) hx hb hr (fun t ht _ => ⟨rfl, ht⟩) (fun _ h => nomatch h) d_TS_countFree_34
end
section
abbrev b_TS_isByte : ByteArray := prog_1_method_21_code
def y_TS_isByte : MethodName := ⟨"TapeSealer", "isByte", "(II)Z"⟩
abbrev w_TS_isByte : List Cond := .code y_TS_isByte b_TS_isByte 2 (some .boolean) :: gx_B
theorem k_TS_isByte : (.code y_TS_isByte b_TS_isByte 2 (some .boolean) : Cond) ∈ gx_B := gx_mem 843 (by decide +kernel) rfl
abbrev b_TS_epoch : ByteArray := prog_1_method_3_code
def y_TS_epoch : MethodName := ⟨"TapeSealer", "epoch", "()I"⟩
abbrev w_TS_epoch : List Cond := .code y_TS_epoch b_TS_epoch 1 (some .int) :: gx_B
theorem k_TS_epoch : (.code y_TS_epoch b_TS_epoch 1 (some .int) : Cond) ∈ gx_B := gx_mem 469 (by decide +kernel) rfl
abbrev b_TS_create : ByteArray := prog_1_method_4_code
def y_TS_create : MethodName := ⟨"TapeSealer", "create", "(I)I"⟩
abbrev w_TS_create : List Cond := .code y_TS_create b_TS_create 3 (some .int) :: gx_B
theorem k_TS_create : (.code y_TS_create b_TS_create 3 (some .int) : Cond) ∈ gx_B := gx_mem 546 (by decide +kernel) rfl
abbrev b_TS_append : ByteArray := prog_1_method_5_code
def y_TS_append : MethodName := ⟨"TapeSealer", "append", "()I"⟩
abbrev w_TS_append : List Cond := .code y_TS_append b_TS_append 2 (some .int) :: gx_B
theorem k_TS_append : (.code y_TS_append b_TS_append 2 (some .int) : Cond) ∈ gx_B := gx_mem 557 (by decide +kernel) rfl
abbrev b_TS_finish : ByteArray := prog_1_method_6_code
def y_TS_finish : MethodName := ⟨"TapeSealer", "finish", "()I"⟩
abbrev w_TS_finish : List Cond := .code y_TS_finish b_TS_finish 3 (some .int) :: gx_B
theorem k_TS_finish : (.code y_TS_finish b_TS_finish 3 (some .int) : Cond) ∈ gx_B := gx_mem 580 (by decide +kernel) rfl
abbrev b_TS_read : ByteArray := prog_1_method_7_code
def y_TS_read : MethodName := ⟨"TapeSealer", "read", "(III)I"⟩
abbrev w_TS_read : List Cond := .code y_TS_read b_TS_read 7 (some .int) :: gx_B
theorem k_TS_read : (.code y_TS_read b_TS_read 7 (some .int) : Cond) ∈ gx_B := gx_mem 663 (by decide +kernel) rfl
abbrev b_TS_output : ByteArray := prog_1_method_8_code
def y_TS_output : MethodName := ⟨"TapeSealer", "output", "(I)I"⟩
abbrev w_TS_output : List Cond := .code y_TS_output b_TS_output 2 (some .int) :: gx_B
theorem k_TS_output : (.code y_TS_output b_TS_output 2 (some .int) : Cond) ∈ gx_B := gx_mem 765 (by decide +kernel) rfl
abbrev b_TS_verify : ByteArray := prog_1_method_9_code
def y_TS_verify : MethodName := ⟨"TapeSealer", "verify", "(I)I"⟩
abbrev w_TS_verify : List Cond := .code y_TS_verify b_TS_verify 5 (some .int) :: gx_B
theorem k_TS_verify : (.code y_TS_verify b_TS_verify 5 (some .int) : Cond) ∈ gx_B := gx_mem 787 (by decide +kernel) rfl
abbrev b_TS_rewrap : ByteArray := prog_1_method_10_code
def y_TS_rewrap : MethodName := ⟨"TapeSealer", "rewrap", "(I)Z"⟩
abbrev w_TS_rewrap : List Cond := .code y_TS_rewrap b_TS_rewrap 3 (some .boolean) :: gx_B
theorem k_TS_rewrap : (.code y_TS_rewrap b_TS_rewrap 3 (some .boolean) : Cond) ∈ gx_B := gx_mem 794 (by decide +kernel) rfl
abbrev b_TS_delete : ByteArray := prog_1_method_12_code
def y_TS_delete : MethodName := ⟨"TapeSealer", "delete", "(I)V"⟩
abbrev w_TS_delete : List Cond := .code y_TS_delete b_TS_delete 2 none :: gx_B
theorem k_TS_delete : (.code y_TS_delete b_TS_delete 2 none : Cond) ∈ gx_B := gx_mem 817 (by decide +kernel) rfl
abbrev b_TS_file : ByteArray := prog_1_method_18_code
def y_TS_file : MethodName := ⟨"TapeSealer", "file", "(II)I"⟩
abbrev w_TS_file : List Cond := .code y_TS_file b_TS_file 4 (some .int) :: gx_B
theorem k_TS_file : (.code y_TS_file b_TS_file 4 (some .int) : Cond) ∈ gx_B := gx_mem 865 (by decide +kernel) rfl
abbrev b_TS_dropEpoch : ByteArray := prog_1_method_11_code
def y_TS_dropEpoch : MethodName := ⟨"TapeSealer", "dropEpoch", "(I)V"⟩
abbrev w_TS_dropEpoch : List Cond := .code y_TS_dropEpoch b_TS_dropEpoch 2 none :: gx_B
theorem k_TS_dropEpoch : (.code y_TS_dropEpoch b_TS_dropEpoch 2 none : Cond) ∈ gx_B := gx_mem 801 (by decide +kernel) rfl
abbrev b_TS_scrub : ByteArray := prog_1_method_13_code
def y_TS_scrub : MethodName := ⟨"TapeSealer", "scrub", "(I)I"⟩
abbrev w_TS_scrub : List Cond := .code y_TS_scrub b_TS_scrub 6 (some .int) :: gx_B
theorem k_TS_scrub : (.code y_TS_scrub b_TS_scrub 6 (some .int) : Cond) ∈ gx_B := gx_mem 824 (by decide +kernel) rfl
abbrev b_TS_damage : ByteArray := prog_1_method_14_code
def y_TS_damage : MethodName := ⟨"TapeSealer", "damage", "(III)V"⟩
abbrev w_TS_damage : List Cond := .code y_TS_damage b_TS_damage 4 none :: gx_B
theorem k_TS_damage : (.code y_TS_damage b_TS_damage 4 none : Cond) ∈ gx_B := gx_mem 840 (by decide +kernel) rfl
abbrev b_TS_spoil : ByteArray := prog_1_method_15_code
def y_TS_spoil : MethodName := ⟨"TapeSealer", "spoil", "(I)V"⟩
abbrev w_TS_spoil : List Cond := .code y_TS_spoil b_TS_spoil 2 none :: gx_B
theorem k_TS_spoil : (.code y_TS_spoil b_TS_spoil 2 none : Cond) ∈ gx_B := gx_mem 851 (by decide +kernel) rfl
abbrev b_TS_stopAfter : ByteArray := prog_1_method_16_code
def y_TS_stopAfter : MethodName := ⟨"TapeSealer", "stopAfter", "(I)V"⟩
abbrev w_TS_stopAfter : List Cond := .code y_TS_stopAfter b_TS_stopAfter 2 none :: gx_B
theorem k_TS_stopAfter : (.code y_TS_stopAfter b_TS_stopAfter 2 none : Cond) ∈ gx_B := gx_mem 858 (by decide +kernel) rfl
abbrev b_TS_block : ByteArray := prog_1_method_19_code
def y_TS_block : MethodName := ⟨"TapeSealer", "block", "(II)I"⟩
abbrev w_TS_block : List Cond := .code y_TS_block b_TS_block 3 (some .int) :: gx_B
theorem k_TS_block : (.code y_TS_block b_TS_block 3 (some .int) : Cond) ∈ gx_B := gx_mem 872 (by decide +kernel) rfl
abbrev b_TS_state : ByteArray := prog_1_method_20_code
def y_TS_state : MethodName := ⟨"TapeSealer", "state", "(I)I"⟩
abbrev w_TS_state : List Cond := .code y_TS_state b_TS_state 2 (some .int) :: gx_B
theorem k_TS_state : (.code y_TS_state b_TS_state 2 (some .int) : Cond) ∈ gx_B := gx_mem 879 (by decide +kernel) rfl
theorem hw_0 : (.selects "TapeSealer" ⟨"TapeSealer", "lookAtHeaders", "()V"⟩ ⟨"TapeSealer", "lookAtHeaders", "()V"⟩ : Cond) ∈ gx_B := gx_mem 0 (by decide +kernel) rfl
theorem hw_10 : (.selects "TapeSealer" ⟨"TapeSealer", "countFiles", "()I"⟩ ⟨"TapeSealer", "countFiles", "()I"⟩ : Cond) ∈ gx_B := gx_mem 10 (by decide +kernel) rfl
theorem hw_12 : (.selects "TapeSealer" ⟨"TapeSealer", "leastMissing", "()I"⟩ ⟨"TapeSealer", "leastMissing", "()I"⟩ : Cond) ∈ gx_B := gx_mem 12 (by decide +kernel) rfl
theorem hw_22 : (.selects "TapeSealer" ⟨"TapeSealer", "exists", "(I)Z"⟩ ⟨"TapeSealer", "exists", "(I)Z"⟩ : Cond) ∈ gx_B := gx_mem 22 (by decide +kernel) rfl
theorem hw_30 : (.selects "TapeSealer" ⟨"TapeSealer", "countFree", "()I"⟩ ⟨"TapeSealer", "countFree", "()I"⟩ : Cond) ∈ gx_B := gx_mem 30 (by decide +kernel) rfl
theorem hw_79 : (.initialized "java/lang/IllegalStateException" : Cond) ∈ gx_B := gx_mem 79 (by decide +kernel) rfl
theorem hw_84 : (.initialized "java/util/NoSuchElementException" : Cond) ∈ gx_B := gx_mem 84 (by decide +kernel) rfl
theorem hw_85 : (.initialized "java/lang/IllegalArgumentException" : Cond) ∈ gx_B := gx_mem 85 (by decide +kernel) rfl
theorem hw_87 : (.initialized "java/lang/IndexOutOfBoundsException" : Cond) ∈ gx_B := gx_mem 87 (by decide +kernel) rfl
theorem hw_111 : (.fieldLink "TapeSealer" 240 "TapeSealer$Cartridge" "writesDone" "I" : Cond) ∈ gx_B := gx_mem 111 (by decide +kernel) rfl
theorem hw_115 : (.fieldLink "TapeSealer" 85 "TapeSealer$Cartridge" "stopped" "Z" : Cond) ∈ gx_B := gx_mem 115 (by decide +kernel) rfl
theorem hw_144 : (.fieldLink "TapeSealer" 82 "TapeSealer$Epochs" "present" "I" : Cond) ∈ gx_B := gx_mem 144 (by decide +kernel) rfl
theorem hw_295 : (.fieldLink "TapeSealer" 106 "TapeSealer$Draft" "file" "I" : Cond) ∈ gx_B := gx_mem 295 (by decide +kernel) rfl
theorem hw_297 : (.fieldLink "TapeSealer" 112 "TapeSealer$Draft" "length" "I" : Cond) ∈ gx_B := gx_mem 297 (by decide +kernel) rfl
theorem hw_318 : (.fieldLink "TapeSealer" 78 "TapeSealer" "buffered" "I" : Cond) ∈ gx_B := gx_mem 318 (by decide +kernel) rfl
theorem hw_321 : (.fieldLink "TapeSealer" 166 "TapeSealer" "toldLength" "I" : Cond) ∈ gx_B := gx_mem 321 (by decide +kernel) rfl
theorem hw_361 : (.methodLink "TapeSealer" 99 ⟨"TapeSealer", "lookAtHeaders", "()V"⟩ : Cond) ∈ gx_B := gx_mem 361 (by decide +kernel) rfl
theorem hw_363 : (.instanceMethod ⟨"TapeSealer", "lookAtHeaders", "()V"⟩ : Cond) ∈ gx_B := gx_mem 363 (by decide +kernel) rfl
theorem hw_369 : (.methodLink "TapeSealer" 186 ⟨"TapeSealer$Epochs", "known", "(I)Z"⟩ : Cond) ∈ gx_B := gx_mem 369 (by decide +kernel) rfl
theorem hw_370 : (.instanceMethod ⟨"TapeSealer$Epochs", "known", "(I)Z"⟩ : Cond) ∈ gx_B := gx_mem 370 (by decide +kernel) rfl
theorem hw_371 : (.selects "TapeSealer$Epochs" ⟨"TapeSealer$Epochs", "known", "(I)Z"⟩ ⟨"TapeSealer$Epochs", "known", "(I)Z"⟩ : Cond) ∈ gx_B := gx_mem 371 (by decide +kernel) rfl
theorem hw_458 : (.methodLink "TapeSealer" 231 ⟨"TapeSealer", "countFiles", "()I"⟩ : Cond) ∈ gx_B := gx_mem 458 (by decide +kernel) rfl
theorem hw_460 : (.instanceMethod ⟨"TapeSealer", "countFiles", "()I"⟩ : Cond) ∈ gx_B := gx_mem 460 (by decide +kernel) rfl
theorem hw_470 : (.classLink "TapeSealer" 89 "java/lang/IllegalStateException" : Cond) ∈ gx_B := gx_mem 470 (by decide +kernel) rfl
theorem hw_547 : (.methodLink "TapeSealer" 102 ⟨"TapeSealer", "leastMissing", "()I"⟩ : Cond) ∈ gx_B := gx_mem 547 (by decide +kernel) rfl
theorem hw_549 : (.instanceMethod ⟨"TapeSealer", "leastMissing", "()I"⟩ : Cond) ∈ gx_B := gx_mem 549 (by decide +kernel) rfl
theorem hw_664 : (.methodLink "TapeSealer" 142 ⟨"TapeSealer", "exists", "(I)Z"⟩ : Cond) ∈ gx_B := gx_mem 664 (by decide +kernel) rfl
theorem hw_666 : (.instanceMethod ⟨"TapeSealer", "exists", "(I)Z"⟩ : Cond) ∈ gx_B := gx_mem 666 (by decide +kernel) rfl
theorem hw_668 : (.classLink "TapeSealer" 146 "java/util/NoSuchElementException" : Cond) ∈ gx_B := gx_mem 668 (by decide +kernel) rfl
theorem hw_683 : (.classLink "TapeSealer" 150 "java/lang/IllegalArgumentException" : Cond) ∈ gx_B := gx_mem 683 (by decide +kernel) rfl
theorem hw_766 : (.classLink "TapeSealer" 169 "java/lang/IndexOutOfBoundsException" : Cond) ∈ gx_B := gx_mem 766 (by decide +kernel) rfl
theorem hw_841 : (.methodLink "TapeSealer" 211 ⟨"TapeSealer", "isByte", "(II)Z"⟩ : Cond) ∈ gx_B := gx_mem 841 (by decide +kernel) rfl
theorem hw_842 : (.static ⟨"TapeSealer", "isByte", "(II)Z"⟩ : Cond) ∈ gx_B := gx_mem 842 (by decide +kernel) rfl
theorem hw_880 : (.methodLink "TapeSealer" 237 ⟨"TapeSealer", "countFree", "()I"⟩ : Cond) ∈ gx_B := gx_mem 880 (by decide +kernel) rfl
theorem hw_882 : (.instanceMethod ⟨"TapeSealer", "countFree", "()I"⟩ : Cond) ∈ gx_B := gx_mem 882 (by decide +kernel) rfl
end
section
theorem d_TS_append_0 : decode b_TS_append 0 = .ok (.aload_n 0, 1) := by decide +kernel
theorem d_TS_append_1 : decode b_TS_append 1 = .ok (.invokevirtual 99, 3) := by decide +kernel
theorem d_TS_append_11 : decode b_TS_append 11 = .ok (.aload_n 0, 1) := by decide +kernel
theorem d_TS_append_12 : decode b_TS_append 12 = .ok (.getfield 78, 3) := by decide +kernel
theorem d_TS_append_15 : decode b_TS_append 15 = .ok (.iadd, 1) := by decide +kernel
theorem d_TS_append_16 : decode b_TS_append 16 = .ok (.istore_n 1, 1) := by decide +kernel
theorem d_TS_append_17 : decode b_TS_append 17 = .ok (.aload_n 0, 1) := by decide +kernel
theorem d_TS_append_18 : decode b_TS_append 18 = .ok (.getfield 65, 3) := by decide +kernel
theorem d_TS_append_21 : decode b_TS_append 21 = .ok (.getfield 106, 3) := by decide +kernel
theorem d_TS_append_24 : decode b_TS_append 24 = .ok (.iconst (-1), 1) := by decide +kernel
theorem d_TS_append_25 : decode b_TS_append 25 = .ok (.if_icmp .eq 32, 3) := by decide +kernel
theorem d_TS_append_4 : decode b_TS_append 4 = .ok (.aload_n 0, 1) := by decide +kernel
theorem d_TS_append_5 : decode b_TS_append 5 = .ok (.getfield 65, 3) := by decide +kernel
theorem d_TS_append_57 : decode b_TS_append 57 = .ok (.new 89, 3) := by decide +kernel
theorem d_TS_append_60 : decode b_TS_append 60 = .ok (.dup, 1) := by decide +kernel
theorem d_TS_append_61 : decode b_TS_append 61 = .ok (.invokespecial 91, 3) := by decide +kernel
theorem d_TS_append_64 : decode b_TS_append 64 = .ok (.athrow, 1) := by decide +kernel
theorem d_TS_append_8 : decode b_TS_append 8 = .ok (.getfield 112, 3) := by decide +kernel
theorem d_TS_block_0 : decode b_TS_block 0 = .ok (.iload_n 1, 1) := by decide +kernel
theorem d_TS_block_1 : decode b_TS_block 1 = .ok (.iload_n 2, 1) := by decide +kernel
theorem d_TS_block_11 : decode b_TS_block 11 = .ok (.dup, 1) := by decide +kernel
theorem d_TS_block_12 : decode b_TS_block 12 = .ok (.invokespecial 152, 3) := by decide +kernel
theorem d_TS_block_15 : decode b_TS_block 15 = .ok (.athrow, 1) := by decide +kernel
theorem d_TS_block_2 : decode b_TS_block 2 = .ok (.invokestatic 211, 3) := by decide +kernel
theorem d_TS_block_5 : decode b_TS_block 5 = .ok (.ifCond .ne 11, 3) := by decide +kernel
theorem d_TS_block_8 : decode b_TS_block 8 = .ok (.new 150, 3) := by decide +kernel
theorem d_TS_create_0 : decode b_TS_create 0 = .ok (.aload_n 0, 1) := by decide +kernel
theorem d_TS_create_1 : decode b_TS_create 1 = .ok (.invokevirtual 99, 3) := by decide +kernel
theorem d_TS_create_10 : decode b_TS_create 10 = .ok (.getfield 19, 3) := by decide +kernel
theorem d_TS_create_13 : decode b_TS_create 13 = .ok (.getfield 82, 3) := by decide +kernel
theorem d_TS_create_16 : decode b_TS_create 16 = .ok (.ifCond .eq 29, 3) := by decide +kernel
theorem d_TS_create_4 : decode b_TS_create 4 = .ok (.aload_n 0, 1) := by decide +kernel
theorem d_TS_create_45 : decode b_TS_create 45 = .ok (.new 89, 3) := by decide +kernel
theorem d_TS_create_48 : decode b_TS_create 48 = .ok (.dup, 1) := by decide +kernel
theorem d_TS_create_49 : decode b_TS_create 49 = .ok (.invokespecial 91, 3) := by decide +kernel
theorem d_TS_create_5 : decode b_TS_create 5 = .ok (.invokevirtual 102, 3) := by decide +kernel
theorem d_TS_create_52 : decode b_TS_create 52 = .ok (.athrow, 1) := by decide +kernel
theorem d_TS_create_8 : decode b_TS_create 8 = .ok (.istore_n 2, 1) := by decide +kernel
theorem d_TS_create_9 : decode b_TS_create 9 = .ok (.aload_n 0, 1) := by decide +kernel
theorem d_TS_damage_0 : decode b_TS_damage 0 = .ok (.iload_n 1, 1) := by decide +kernel
theorem d_TS_damage_1 : decode b_TS_damage 1 = .ok (.iload_n 2, 1) := by decide +kernel
theorem d_TS_damage_12 : decode b_TS_damage 12 = .ok (.iload_n 3, 1) := by decide +kernel
theorem d_TS_damage_13 : decode b_TS_damage 13 = .ok (.sipush 255, 3) := by decide +kernel
theorem d_TS_damage_16 : decode b_TS_damage 16 = .ok (.if_icmp .le 11, 3) := by decide +kernel
theorem d_TS_damage_19 : decode b_TS_damage 19 = .ok (.new 150, 3) := by decide +kernel
theorem d_TS_damage_2 : decode b_TS_damage 2 = .ok (.invokestatic 211, 3) := by decide +kernel
theorem d_TS_damage_22 : decode b_TS_damage 22 = .ok (.dup, 1) := by decide +kernel
theorem d_TS_damage_23 : decode b_TS_damage 23 = .ok (.invokespecial 152, 3) := by decide +kernel
theorem d_TS_damage_26 : decode b_TS_damage 26 = .ok (.athrow, 1) := by decide +kernel
theorem d_TS_damage_5 : decode b_TS_damage 5 = .ok (.ifCond .eq 14, 3) := by decide +kernel
theorem d_TS_damage_8 : decode b_TS_damage 8 = .ok (.iload_n 3, 1) := by decide +kernel
theorem d_TS_damage_9 : decode b_TS_damage 9 = .ok (.ifCond .lt 10, 3) := by decide +kernel
theorem d_TS_delete_0 : decode b_TS_delete 0 = .ok (.aload_n 0, 1) := by decide +kernel
theorem d_TS_delete_1 : decode b_TS_delete 1 = .ok (.invokevirtual 99, 3) := by decide +kernel
theorem d_TS_delete_12 : decode b_TS_delete 12 = .ok (.new 146, 3) := by decide +kernel
theorem d_TS_delete_15 : decode b_TS_delete 15 = .ok (.dup, 1) := by decide +kernel
theorem d_TS_delete_16 : decode b_TS_delete 16 = .ok (.invokespecial 148, 3) := by decide +kernel
theorem d_TS_delete_19 : decode b_TS_delete 19 = .ok (.athrow, 1) := by decide +kernel
theorem d_TS_delete_4 : decode b_TS_delete 4 = .ok (.aload_n 0, 1) := by decide +kernel
theorem d_TS_delete_5 : decode b_TS_delete 5 = .ok (.iload_n 1, 1) := by decide +kernel
end
section
theorem d_TS_delete_6 : decode b_TS_delete 6 = .ok (.invokevirtual 142, 3) := by decide +kernel
theorem d_TS_delete_9 : decode b_TS_delete 9 = .ok (.ifCond .ne 11, 3) := by decide +kernel
theorem d_TS_dropEpoch_0 : decode b_TS_dropEpoch 0 = .ok (.aload_n 0, 1) := by decide +kernel
theorem d_TS_dropEpoch_1 : decode b_TS_dropEpoch 1 = .ok (.getfield 19, 3) := by decide +kernel
theorem d_TS_dropEpoch_22 : decode b_TS_dropEpoch 22 = .ok (.new 150, 3) := by decide +kernel
theorem d_TS_dropEpoch_25 : decode b_TS_dropEpoch 25 = .ok (.dup, 1) := by decide +kernel
theorem d_TS_dropEpoch_26 : decode b_TS_dropEpoch 26 = .ok (.invokespecial 152, 3) := by decide +kernel
theorem d_TS_dropEpoch_29 : decode b_TS_dropEpoch 29 = .ok (.athrow, 1) := by decide +kernel
theorem d_TS_dropEpoch_4 : decode b_TS_dropEpoch 4 = .ok (.iload_n 1, 1) := by decide +kernel
theorem d_TS_dropEpoch_5 : decode b_TS_dropEpoch 5 = .ok (.invokevirtual 186, 3) := by decide +kernel
theorem d_TS_dropEpoch_8 : decode b_TS_dropEpoch 8 = .ok (.ifCond .eq 14, 3) := by decide +kernel
theorem d_TS_epoch_0 : decode b_TS_epoch 0 = .ok (.aload_n 0, 1) := by decide +kernel
theorem d_TS_epoch_1 : decode b_TS_epoch 1 = .ok (.getfield 78, 3) := by decide +kernel
theorem d_TS_epoch_31 : decode b_TS_epoch 31 = .ok (.new 89, 3) := by decide +kernel
theorem d_TS_epoch_34 : decode b_TS_epoch 34 = .ok (.dup, 1) := by decide +kernel
theorem d_TS_epoch_35 : decode b_TS_epoch 35 = .ok (.invokespecial 91, 3) := by decide +kernel
theorem d_TS_epoch_38 : decode b_TS_epoch 38 = .ok (.athrow, 1) := by decide +kernel
theorem d_TS_epoch_4 : decode b_TS_epoch 4 = .ok (.bipush 32, 2) := by decide +kernel
theorem d_TS_epoch_6 : decode b_TS_epoch 6 = .ok (.if_icmp .ne 25, 3) := by decide +kernel
theorem d_TS_file_0 : decode b_TS_file 0 = .ok (.aload_n 0, 1) := by decide +kernel
theorem d_TS_file_1 : decode b_TS_file 1 = .ok (.invokevirtual 99, 3) := by decide +kernel
theorem d_TS_file_12 : decode b_TS_file 12 = .ok (.new 146, 3) := by decide +kernel
theorem d_TS_file_15 : decode b_TS_file 15 = .ok (.dup, 1) := by decide +kernel
theorem d_TS_file_16 : decode b_TS_file 16 = .ok (.invokespecial 148, 3) := by decide +kernel
theorem d_TS_file_19 : decode b_TS_file 19 = .ok (.athrow, 1) := by decide +kernel
theorem d_TS_file_4 : decode b_TS_file 4 = .ok (.aload_n 0, 1) := by decide +kernel
theorem d_TS_file_5 : decode b_TS_file 5 = .ok (.iload_n 1, 1) := by decide +kernel
theorem d_TS_file_6 : decode b_TS_file 6 = .ok (.invokevirtual 142, 3) := by decide +kernel
theorem d_TS_file_9 : decode b_TS_file 9 = .ok (.ifCond .ne 11, 3) := by decide +kernel
theorem d_TS_finish_0 : decode b_TS_finish 0 = .ok (.aload_n 0, 1) := by decide +kernel
theorem d_TS_finish_1 : decode b_TS_finish 1 = .ok (.getfield 65, 3) := by decide +kernel
theorem d_TS_finish_21 : decode b_TS_finish 21 = .ok (.new 89, 3) := by decide +kernel
theorem d_TS_finish_24 : decode b_TS_finish 24 = .ok (.dup, 1) := by decide +kernel
theorem d_TS_finish_25 : decode b_TS_finish 25 = .ok (.invokespecial 91, 3) := by decide +kernel
theorem d_TS_finish_28 : decode b_TS_finish 28 = .ok (.athrow, 1) := by decide +kernel
theorem d_TS_finish_4 : decode b_TS_finish 4 = .ok (.getfield 106, 3) := by decide +kernel
theorem d_TS_finish_7 : decode b_TS_finish 7 = .ok (.iconst (-1), 1) := by decide +kernel
theorem d_TS_finish_8 : decode b_TS_finish 8 = .ok (.if_icmp .eq 13, 3) := by decide +kernel
theorem d_TS_isByte_0 : decode b_TS_isByte 0 = .ok (.iload_n 0, 1) := by decide +kernel
theorem d_TS_isByte_1 : decode b_TS_isByte 1 = .ok (.ifCond .lt 23, 3) := by decide +kernel
theorem d_TS_isByte_10 : decode b_TS_isByte 10 = .ok (.iload_n 1, 1) := by decide +kernel
theorem d_TS_isByte_11 : decode b_TS_isByte 11 = .ok (.ifCond .lt 13, 3) := by decide +kernel
theorem d_TS_isByte_14 : decode b_TS_isByte 14 = .ok (.iload_n 1, 1) := by decide +kernel
theorem d_TS_isByte_15 : decode b_TS_isByte 15 = .ok (.bipush 64, 2) := by decide +kernel
theorem d_TS_isByte_17 : decode b_TS_isByte 17 = .ok (.if_icmp .ge 7, 3) := by decide +kernel
theorem d_TS_isByte_20 : decode b_TS_isByte 20 = .ok (.iconst 1, 1) := by decide +kernel
theorem d_TS_isByte_21 : decode b_TS_isByte 21 = .ok (.goto 4, 3) := by decide +kernel
theorem d_TS_isByte_24 : decode b_TS_isByte 24 = .ok (.iconst 0, 1) := by decide +kernel
theorem d_TS_isByte_25 : decode b_TS_isByte 25 = .ok (.ireturn, 1) := by decide +kernel
theorem d_TS_isByte_4 : decode b_TS_isByte 4 = .ok (.iload_n 0, 1) := by decide +kernel
theorem d_TS_isByte_5 : decode b_TS_isByte 5 = .ok (.bipush 44, 2) := by decide +kernel
theorem d_TS_isByte_7 : decode b_TS_isByte 7 = .ok (.if_icmp .ge 17, 3) := by decide +kernel
theorem d_TS_output_0 : decode b_TS_output 0 = .ok (.iload_n 1, 1) := by decide +kernel
theorem d_TS_output_1 : decode b_TS_output 1 = .ok (.ifCond .lt 11, 3) := by decide +kernel
theorem d_TS_output_12 : decode b_TS_output 12 = .ok (.new 169, 3) := by decide +kernel
theorem d_TS_output_15 : decode b_TS_output 15 = .ok (.dup, 1) := by decide +kernel
theorem d_TS_output_16 : decode b_TS_output 16 = .ok (.invokespecial 171, 3) := by decide +kernel
theorem d_TS_output_19 : decode b_TS_output 19 = .ok (.athrow, 1) := by decide +kernel
theorem d_TS_output_4 : decode b_TS_output 4 = .ok (.iload_n 1, 1) := by decide +kernel
theorem d_TS_output_5 : decode b_TS_output 5 = .ok (.aload_n 0, 1) := by decide +kernel
end
section
theorem d_TS_output_6 : decode b_TS_output 6 = .ok (.getfield 166, 3) := by decide +kernel
theorem d_TS_output_9 : decode b_TS_output 9 = .ok (.if_icmp .lt 11, 3) := by decide +kernel
theorem d_TS_read_0 : decode b_TS_read 0 = .ok (.aload_n 0, 1) := by decide +kernel
theorem d_TS_read_1 : decode b_TS_read 1 = .ok (.invokevirtual 99, 3) := by decide +kernel
theorem d_TS_read_12 : decode b_TS_read 12 = .ok (.new 146, 3) := by decide +kernel
theorem d_TS_read_15 : decode b_TS_read 15 = .ok (.dup, 1) := by decide +kernel
theorem d_TS_read_16 : decode b_TS_read 16 = .ok (.invokespecial 148, 3) := by decide +kernel
theorem d_TS_read_19 : decode b_TS_read 19 = .ok (.athrow, 1) := by decide +kernel
theorem d_TS_read_4 : decode b_TS_read 4 = .ok (.aload_n 0, 1) := by decide +kernel
theorem d_TS_read_5 : decode b_TS_read 5 = .ok (.iload_n 1, 1) := by decide +kernel
theorem d_TS_read_6 : decode b_TS_read 6 = .ok (.invokevirtual 142, 3) := by decide +kernel
theorem d_TS_read_9 : decode b_TS_read 9 = .ok (.ifCond .ne 11, 3) := by decide +kernel
theorem d_TS_rewrap_0 : decode b_TS_rewrap 0 = .ok (.aload_n 0, 1) := by decide +kernel
theorem d_TS_rewrap_1 : decode b_TS_rewrap 1 = .ok (.invokevirtual 99, 3) := by decide +kernel
theorem d_TS_rewrap_12 : decode b_TS_rewrap 12 = .ok (.new 146, 3) := by decide +kernel
theorem d_TS_rewrap_15 : decode b_TS_rewrap 15 = .ok (.dup, 1) := by decide +kernel
theorem d_TS_rewrap_16 : decode b_TS_rewrap 16 = .ok (.invokespecial 148, 3) := by decide +kernel
theorem d_TS_rewrap_19 : decode b_TS_rewrap 19 = .ok (.athrow, 1) := by decide +kernel
theorem d_TS_rewrap_4 : decode b_TS_rewrap 4 = .ok (.aload_n 0, 1) := by decide +kernel
theorem d_TS_rewrap_5 : decode b_TS_rewrap 5 = .ok (.iload_n 1, 1) := by decide +kernel
theorem d_TS_rewrap_6 : decode b_TS_rewrap 6 = .ok (.invokevirtual 142, 3) := by decide +kernel
theorem d_TS_rewrap_9 : decode b_TS_rewrap 9 = .ok (.ifCond .ne 11, 3) := by decide +kernel
theorem d_TS_scrub_0 : decode b_TS_scrub 0 = .ok (.iload_n 1, 1) := by decide +kernel
theorem d_TS_scrub_1 : decode b_TS_scrub 1 = .ok (.ifCond .lt 9, 3) := by decide +kernel
theorem d_TS_scrub_10 : decode b_TS_scrub 10 = .ok (.new 150, 3) := by decide +kernel
theorem d_TS_scrub_13 : decode b_TS_scrub 13 = .ok (.dup, 1) := by decide +kernel
theorem d_TS_scrub_14 : decode b_TS_scrub 14 = .ok (.invokespecial 152, 3) := by decide +kernel
theorem d_TS_scrub_17 : decode b_TS_scrub 17 = .ok (.athrow, 1) := by decide +kernel
theorem d_TS_scrub_18 : decode b_TS_scrub 18 = .ok (.aload_n 0, 1) := by decide +kernel
theorem d_TS_scrub_19 : decode b_TS_scrub 19 = .ok (.getfield 10, 3) := by decide +kernel
theorem d_TS_scrub_22 : decode b_TS_scrub 22 = .ok (.getfield 85, 3) := by decide +kernel
theorem d_TS_scrub_25 : decode b_TS_scrub 25 = .ok (.ifCond .eq 11, 3) := by decide +kernel
theorem d_TS_scrub_36 : decode b_TS_scrub 36 = .ok (.aload_n 0, 1) := by decide +kernel
theorem d_TS_scrub_37 : decode b_TS_scrub 37 = .ok (.invokevirtual 99, 3) := by decide +kernel
theorem d_TS_scrub_4 : decode b_TS_scrub 4 = .ok (.iload_n 1, 1) := by decide +kernel
theorem d_TS_scrub_40 : decode b_TS_scrub 40 = .ok (.aload_n 0, 1) := by decide +kernel
theorem d_TS_scrub_41 : decode b_TS_scrub 41 = .ok (.iload_n 1, 1) := by decide +kernel
theorem d_TS_scrub_42 : decode b_TS_scrub 42 = .ok (.invokevirtual 199, 3) := by decide +kernel
theorem d_TS_scrub_45 : decode b_TS_scrub 45 = .ok (.istore_n 2, 1) := by decide +kernel
theorem d_TS_scrub_46 : decode b_TS_scrub 46 = .ok (.iload_n 2, 1) := by decide +kernel
theorem d_TS_scrub_47 : decode b_TS_scrub 47 = .ok (.iconst (-1), 1) := by decide +kernel
theorem d_TS_scrub_48 : decode b_TS_scrub 48 = .ok (.if_icmp .ne 5, 3) := by decide +kernel
theorem d_TS_scrub_5 : decode b_TS_scrub 5 = .ok (.bipush 6, 2) := by decide +kernel
theorem d_TS_scrub_51 : decode b_TS_scrub 51 = .ok (.iconst (-1), 1) := by decide +kernel
theorem d_TS_scrub_52 : decode b_TS_scrub 52 = .ok (.ireturn, 1) := by decide +kernel
theorem d_TS_scrub_7 : decode b_TS_scrub 7 = .ok (.if_icmp .lt 11, 3) := by decide +kernel
theorem d_TS_spoil_0 : decode b_TS_spoil 0 = .ok (.iload_n 1, 1) := by decide +kernel
theorem d_TS_spoil_1 : decode b_TS_spoil 1 = .ok (.iconst 0, 1) := by decide +kernel
theorem d_TS_spoil_11 : decode b_TS_spoil 11 = .ok (.dup, 1) := by decide +kernel
theorem d_TS_spoil_12 : decode b_TS_spoil 12 = .ok (.invokespecial 152, 3) := by decide +kernel
theorem d_TS_spoil_15 : decode b_TS_spoil 15 = .ok (.athrow, 1) := by decide +kernel
theorem d_TS_spoil_2 : decode b_TS_spoil 2 = .ok (.invokestatic 211, 3) := by decide +kernel
theorem d_TS_spoil_5 : decode b_TS_spoil 5 = .ok (.ifCond .ne 11, 3) := by decide +kernel
theorem d_TS_spoil_8 : decode b_TS_spoil 8 = .ok (.new 150, 3) := by decide +kernel
theorem d_TS_state_0 : decode b_TS_state 0 = .ok (.aload_n 0, 1) := by decide +kernel
theorem d_TS_state_1 : decode b_TS_state 1 = .ok (.invokevirtual 99, 3) := by decide +kernel
theorem d_TS_state_4 : decode b_TS_state 4 = .ok (.iload_n 1, 1) := by decide +kernel
theorem d_TS_state_44 : decode b_TS_state 44 = .ok (.aload_n 0, 1) := by decide +kernel
theorem d_TS_state_45 : decode b_TS_state 45 = .ok (.invokevirtual 231, 3) := by decide +kernel
theorem d_TS_state_48 : decode b_TS_state 48 = .ok (.ireturn, 1) := by decide +kernel
end
section
theorem d_TS_state_49 : decode b_TS_state 49 = .ok (.aload_n 0, 1) := by decide +kernel
theorem d_TS_state_5 : decode b_TS_state 5 = .ok (.tableswitch 86 0 5 #[39, 44, 49, 57, 65, 81], 39) := by decide +kernel
theorem d_TS_state_50 : decode b_TS_state 50 = .ok (.invokevirtual 237, 3) := by decide +kernel
theorem d_TS_state_53 : decode b_TS_state 53 = .ok (.ireturn, 1) := by decide +kernel
theorem d_TS_state_54 : decode b_TS_state 54 = .ok (.aload_n 0, 1) := by decide +kernel
theorem d_TS_state_55 : decode b_TS_state 55 = .ok (.getfield 19, 3) := by decide +kernel
theorem d_TS_state_58 : decode b_TS_state 58 = .ok (.getfield 82, 3) := by decide +kernel
theorem d_TS_state_61 : decode b_TS_state 61 = .ok (.ireturn, 1) := by decide +kernel
theorem d_TS_state_62 : decode b_TS_state 62 = .ok (.aload_n 0, 1) := by decide +kernel
theorem d_TS_state_63 : decode b_TS_state 63 = .ok (.getfield 10, 3) := by decide +kernel
theorem d_TS_state_66 : decode b_TS_state 66 = .ok (.getfield 240, 3) := by decide +kernel
theorem d_TS_state_69 : decode b_TS_state 69 = .ok (.ireturn, 1) := by decide +kernel
theorem d_TS_state_70 : decode b_TS_state 70 = .ok (.aload_n 0, 1) := by decide +kernel
theorem d_TS_state_71 : decode b_TS_state 71 = .ok (.getfield 10, 3) := by decide +kernel
theorem d_TS_state_74 : decode b_TS_state 74 = .ok (.getfield 85, 3) := by decide +kernel
theorem d_TS_state_77 : decode b_TS_state 77 = .ok (.ifCond .eq 7, 3) := by decide +kernel
theorem d_TS_state_84 : decode b_TS_state 84 = .ok (.iconst 0, 1) := by decide +kernel
theorem d_TS_state_85 : decode b_TS_state 85 = .ok (.ireturn, 1) := by decide +kernel
theorem d_TS_state_86 : decode b_TS_state 86 = .ok (.aload_n 0, 1) := by decide +kernel
theorem d_TS_state_87 : decode b_TS_state 87 = .ok (.getfield 78, 3) := by decide +kernel
theorem d_TS_state_90 : decode b_TS_state 90 = .ok (.ireturn, 1) := by decide +kernel
theorem d_TS_state_91 : decode b_TS_state 91 = .ok (.new 150, 3) := by decide +kernel
theorem d_TS_state_94 : decode b_TS_state 94 = .ok (.dup, 1) := by decide +kernel
theorem d_TS_state_95 : decode b_TS_state 95 = .ok (.invokespecial 152, 3) := by decide +kernel
theorem d_TS_state_98 : decode b_TS_state 98 = .ok (.athrow, 1) := by decide +kernel
theorem d_TS_stopAfter_0 : decode b_TS_stopAfter 0 = .ok (.iload_n 1, 1) := by decide +kernel
theorem d_TS_stopAfter_1 : decode b_TS_stopAfter 1 = .ok (.bipush 100, 2) := by decide +kernel
theorem d_TS_stopAfter_10 : decode b_TS_stopAfter 10 = .ok (.invokespecial 152, 3) := by decide +kernel
theorem d_TS_stopAfter_13 : decode b_TS_stopAfter 13 = .ok (.athrow, 1) := by decide +kernel
theorem d_TS_stopAfter_3 : decode b_TS_stopAfter 3 = .ok (.if_icmp .le 11, 3) := by decide +kernel
theorem d_TS_stopAfter_6 : decode b_TS_stopAfter 6 = .ok (.new 150, 3) := by decide +kernel
theorem d_TS_stopAfter_9 : decode b_TS_stopAfter 9 = .ok (.dup, 1) := by decide +kernel
theorem d_TS_verify_0 : decode b_TS_verify 0 = .ok (.aload_n 0, 1) := by decide +kernel
theorem d_TS_verify_1 : decode b_TS_verify 1 = .ok (.invokevirtual 99, 3) := by decide +kernel
theorem d_TS_verify_12 : decode b_TS_verify 12 = .ok (.new 146, 3) := by decide +kernel
theorem d_TS_verify_15 : decode b_TS_verify 15 = .ok (.dup, 1) := by decide +kernel
theorem d_TS_verify_16 : decode b_TS_verify 16 = .ok (.invokespecial 148, 3) := by decide +kernel
theorem d_TS_verify_19 : decode b_TS_verify 19 = .ok (.athrow, 1) := by decide +kernel
theorem d_TS_verify_4 : decode b_TS_verify 4 = .ok (.aload_n 0, 1) := by decide +kernel
theorem d_TS_verify_5 : decode b_TS_verify 5 = .ok (.iload_n 1, 1) := by decide +kernel
theorem d_TS_verify_6 : decode b_TS_verify 6 = .ok (.invokevirtual 142, 3) := by decide +kernel
theorem d_TS_verify_9 : decode b_TS_verify 9 = .ok (.ifCond .ne 11, 3) := by decide +kernel
end
section
theorem gx_o4 {A B C D : Prop} (h : A ∨ B ∨ C ∨ D) : A ∨ (¬ A ∧ B) ∨ (¬ A ∧ ¬ B ∧ C) ∨ (¬ A ∧ ¬ B ∧ ¬ C ∧ D) := by
  by_cases a : A
  · exact Or.inl a
  · by_cases b : B
    · exact Or.inr (Or.inl ⟨a, b⟩)
    · by_cases c : C
      · exact Or.inr (Or.inr (Or.inl ⟨a, b, c⟩))
      · rcases h with h | h | h | h
        · exact absurd h a
        · exact absurd h b
        · exact absurd h c
        · exact Or.inr (Or.inr (Or.inr ⟨a, b, c, h⟩))
theorem gx_o2 {A B C D : Prop} (h : A ∨ B) : A ∨ B ∨ C ∨ D := h.elim Or.inl (fun h => Or.inr (Or.inl h))
theorem gx_n6 : (6 : Int32).toInt = 6 ∧ (0 : Int32).toInt = 0 ∧ (255 : Int32).toInt = 255 := by decide
theorem gx_nlt6 {g : Int32} (h : 6 ≤ g) : ¬ g < 0 := by
  rw [Int32.le_iff_toInt_le] at h; rw [Int32.lt_iff_toInt_lt]; have := gx_n6; omega
theorem gx_nlt6b {g : Int32} (h : 6 ≤ g) : ¬ g < 6 := by
  rw [Int32.le_iff_toInt_le] at h; rw [Int32.lt_iff_toInt_lt]; omega
theorem gx_nlt255 {g : Int32} (h : 255 < g) : ¬ g < 0 := by
  rw [Int32.lt_iff_toInt_lt] at h; rw [Int32.lt_iff_toInt_lt]; have := gx_n6; omega
theorem gx_nle255 {g : Int32} (h : 255 < g) : ¬ g ≤ 255 := by
  rw [Int32.lt_iff_toInt_lt] at h; rw [Int32.le_iff_toInt_le]; omega
set_option maxHeartbeats 4000000 in
set_option maxRecDepth 100000 in
theorem p_TS_isByte1 (l : Launch) (b i : Int32) (h1 : ¬ b < 0) (h2 : ¬ 44 ≤ b) (h3 : ¬ i < 0) (h4 : ¬ 64 ≤ i) : Met l y_TS_isByte w_TS_isByte ({ frames := 0, cells := 0, slots := 0, locals := 0 }) (va_Pc [.int b, .int i] (fun U => True)) (px_Q (some (.int 1))) 0 0 (fun _ => False) := by
  refine Met.ofW (cc := b_TS_isByte) (maxL := 2) (ret := (some .boolean)) (by decide) rfl ?_
  intro p e s m args below meth c s₁ B hml hv
  obtain ⟨rfl, -⟩ := hv
  have hx := B.exec
  have hb := B.bytes
  have hr := B.returns
  have hts := atoms_spec (ws := w_TS_isByte) B.pre
  have hB : ∀ w ∈ gx_B, w.before _ s = true := fun w h => hts w (List.mem_cons_of_mem _ h)
  have hown : s.vm.findClass "TapeSealer" = some m.cls := findClass_of_methodNamed B.named
  have hlocks := B.notSynchronized
  have hl := lv_entry ([.int b, .int i]) (n := 2) (Nat.le_of_ble_eq_true rfl)
  rw [lg_entry_eq]
  generalize (lg_sl ([.int b, .int i]) ++ List.replicate (2 - (lg_sl ([.int b, .int i])).length) Slot.unset).toArray = ls at hl ⊢
  have hl : lv_has ls 2 [(0, .int b), (1, .int i)] := hl
  refine lv_iload_n hx hb d_TS_isByte_0 rfl (lv_at hl 0 rfl) ?_
  refine lv_if_lt (tgt := 24) hx hb d_TS_isByte_1 (by decide) (fun h9 => absurd h9 h1) (fun _ => ?_)
  refine lv_iload_n hx hb d_TS_isByte_4 rfl (lv_at hl 0 rfl) ?_
  refine lv_bipush (v := 44) hx hb d_TS_isByte_5 (by decide) ?_
  refine lv_icmp_ge (tgt := 24) hx hb d_TS_isByte_7 (by decide) (fun h9 => absurd h9 h2) (fun _ => ?_)
  refine lv_iload_n hx hb d_TS_isByte_10 rfl (lv_at hl 1 rfl) ?_
  refine lv_if_lt (tgt := 24) hx hb d_TS_isByte_11 (by decide) (fun h9 => absurd h9 h3) (fun _ => ?_)
  refine lv_iload_n hx hb d_TS_isByte_14 rfl (lv_at hl 1 rfl) ?_
  refine lv_bipush (v := 64) hx hb d_TS_isByte_15 (by decide) ?_
  refine lv_icmp_ge (tgt := 24) hx hb d_TS_isByte_17 (by decide) (fun h9 => absurd h9 h4) (fun _ => ?_)
  refine lv_iconst (v := 1) hx hb d_TS_isByte_20 (by decide) ?_
  refine lv_goto (tgt := 25) hx hb d_TS_isByte_21 (by decide) ?_
  exact W.zret (v := 1) hx hb hr rfl (fun t ht _ => ⟨rfl, ht⟩) (fun _ h => nomatch h) d_TS_isByte_25
set_option maxHeartbeats 4000000 in
set_option maxRecDepth 100000 in
theorem p_TS_isByte0 (l : Launch) (b i : Int32) (h : b < 0 ∨ 44 ≤ b ∨ i < 0 ∨ 64 ≤ i) : Met l y_TS_isByte w_TS_isByte ({ frames := 0, cells := 0, slots := 0, locals := 0 }) (va_Pc [.int b, .int i] (fun U => True)) (px_Q (some (.int 0))) 0 0 (fun _ => False) := by
  refine Met.ofW (cc := b_TS_isByte) (maxL := 2) (ret := (some .boolean)) (by decide) rfl ?_
  intro p e s m args below meth c s₁ B hml hv
  obtain ⟨rfl, -⟩ := hv
  have hx := B.exec
  have hb := B.bytes
  have hr := B.returns
  have hts := atoms_spec (ws := w_TS_isByte) B.pre
  have hB : ∀ w ∈ gx_B, w.before _ s = true := fun w h => hts w (List.mem_cons_of_mem _ h)
  have hown : s.vm.findClass "TapeSealer" = some m.cls := findClass_of_methodNamed B.named
  have hlocks := B.notSynchronized
  have hl := lv_entry ([.int b, .int i]) (n := 2) (Nat.le_of_ble_eq_true rfl)
  rw [lg_entry_eq]
  generalize (lg_sl ([.int b, .int i]) ++ List.replicate (2 - (lg_sl ([.int b, .int i])).length) Slot.unset).toArray = ls at hl ⊢
  have hl : lv_has ls 2 [(0, .int b), (1, .int i)] := hl
  rcases gx_o4 h with h1 | ⟨h1, h2⟩ | ⟨h1, h2, h3⟩ | ⟨h1, h2, h3, h4⟩
  · refine lv_iload_n hx hb d_TS_isByte_0 rfl (lv_at hl 0 rfl) ?_
    refine lv_if_lt (tgt := 24) hx hb d_TS_isByte_1 (by decide) (fun _ => ?_) (fun h9 => absurd h1 h9)
    refine lv_iconst (v := 0) hx hb d_TS_isByte_24 (by decide) ?_
    exact W.zret (v := 0) hx hb hr rfl (fun t ht _ => ⟨rfl, ht⟩) (fun _ h => nomatch h) d_TS_isByte_25
  · refine lv_iload_n hx hb d_TS_isByte_0 rfl (lv_at hl 0 rfl) ?_
    refine lv_if_lt (tgt := 24) hx hb d_TS_isByte_1 (by decide) (fun h9 => absurd h9 h1) (fun _ => ?_)
    refine lv_iload_n hx hb d_TS_isByte_4 rfl (lv_at hl 0 rfl) ?_
    refine lv_bipush (v := 44) hx hb d_TS_isByte_5 (by decide) ?_
    refine lv_icmp_ge (tgt := 24) hx hb d_TS_isByte_7 (by decide) (fun _ => ?_) (fun h9 => absurd h2 h9)
    refine lv_iconst (v := 0) hx hb d_TS_isByte_24 (by decide) ?_
    exact W.zret (v := 0) hx hb hr rfl (fun t ht _ => ⟨rfl, ht⟩) (fun _ h => nomatch h) d_TS_isByte_25
  · refine lv_iload_n hx hb d_TS_isByte_0 rfl (lv_at hl 0 rfl) ?_
    refine lv_if_lt (tgt := 24) hx hb d_TS_isByte_1 (by decide) (fun h9 => absurd h9 h1) (fun _ => ?_)
    refine lv_iload_n hx hb d_TS_isByte_4 rfl (lv_at hl 0 rfl) ?_
    refine lv_bipush (v := 44) hx hb d_TS_isByte_5 (by decide) ?_
    refine lv_icmp_ge (tgt := 24) hx hb d_TS_isByte_7 (by decide) (fun h9 => absurd h9 h2) (fun _ => ?_)
    refine lv_iload_n hx hb d_TS_isByte_10 rfl (lv_at hl 1 rfl) ?_
    refine lv_if_lt (tgt := 24) hx hb d_TS_isByte_11 (by decide) (fun _ => ?_) (fun h9 => absurd h3 h9)
    refine lv_iconst (v := 0) hx hb d_TS_isByte_24 (by decide) ?_
    exact W.zret (v := 0) hx hb hr rfl (fun t ht _ => ⟨rfl, ht⟩) (fun _ h => nomatch h) d_TS_isByte_25
  · refine lv_iload_n hx hb d_TS_isByte_0 rfl (lv_at hl 0 rfl) ?_
    refine lv_if_lt (tgt := 24) hx hb d_TS_isByte_1 (by decide) (fun h9 => absurd h9 h1) (fun _ => ?_)
    refine lv_iload_n hx hb d_TS_isByte_4 rfl (lv_at hl 0 rfl) ?_
    refine lv_bipush (v := 44) hx hb d_TS_isByte_5 (by decide) ?_
    refine lv_icmp_ge (tgt := 24) hx hb d_TS_isByte_7 (by decide) (fun h9 => absurd h9 h2) (fun _ => ?_)
    refine lv_iload_n hx hb d_TS_isByte_10 rfl (lv_at hl 1 rfl) ?_
    refine lv_if_lt (tgt := 24) hx hb d_TS_isByte_11 (by decide) (fun h9 => absurd h9 h3) (fun _ => ?_)
    refine lv_iload_n hx hb d_TS_isByte_14 rfl (lv_at hl 1 rfl) ?_
    refine lv_bipush (v := 64) hx hb d_TS_isByte_15 (by decide) ?_
    refine lv_icmp_ge (tgt := 24) hx hb d_TS_isByte_17 (by decide) (fun _ => ?_) (fun h9 => absurd h4 h9)
    refine lv_iconst (v := 0) hx hb d_TS_isByte_24 (by decide) ?_
    exact W.zret (v := 0) hx hb hr rfl (fun t ht _ => ⟨rfl, ht⟩) (fun _ h => nomatch h) d_TS_isByte_25
set_option maxHeartbeats 4000000 in
set_option maxRecDepth 100000 in
theorem t_TS_epoch (l : Launch) (hl0 : l.stackTraces = false) (dC : Nat → ClassId) (dI : Nat → Nat → Nat) (aS aT : Nat) (cS cT : Cell) (h0 : Nat) (q : Nat → Nat) (ci : Nat → ClassId) : tx_Met l y_TS_epoch w_TS_epoch ({ frames := 6, cells := 1, slots := 6, locals := 120 }) (va_Pc [.ref h0] (fun U => va_P (dC, dI) gx_cl (wTS h0 q ci) U.heap ∧ va_K (dC, dI) gx_cl (kTS ci) U ∧ jx aS aT cS cT U)) "java/lang/IllegalStateException" 1 6 := by
  refine tx_ofW (cc := b_TS_epoch) (maxL := 1) (ret := (some .int)) (by decide) rfl ?_
  intro p e s m args below meth c s₁ B hml hv
  obtain ⟨rfl, hP, hK, hJ⟩ := hv
  have hx := B.exec
  have hb := B.bytes
  have hr := B.returns
  have hts := atoms_spec (ws := w_TS_epoch) B.pre
  have hB : ∀ w ∈ gx_B, w.before _ s = true := fun w h => hts w (List.mem_cons_of_mem _ h)
  have hown : s.vm.findClass "TapeSealer" = some m.cls := findClass_of_methodNamed B.named
  have hlocks := B.notSynchronized
  have hl := lv_entry ([.ref h0]) (n := 1) (Nat.le_of_ble_eq_true rfl)
  rw [lg_entry_eq]
  generalize (lg_sl ([.ref h0]) ++ List.replicate (1 - (lg_sl ([.ref h0])).length) Slot.unset).toArray = ls at hl ⊢
  have hl : lv_has ls 1 [(0, .ref h0)] := hl
  refine lv_aload_n hx hb d_TS_epoch_0 rfl (lv_at hl 0 rfl) ?_
  refine va_get (D := (dC, dI)) (ci := 8) (v := .int 0) (C := RTS) (T := FTS) (N := 15) hx hb hB in_TS hown hK hP 0 rfl rfl 11 (by decide) (hB _ hw_318) (fun _ h9 => h9) rfl d_TS_epoch_1 ?_
  refine lv_bipush (v := 32) hx hb d_TS_epoch_4 (by decide) ?_
  refine lv_icmp_ne (tgt := 31) hx hb d_TS_epoch_6 (by decide) (fun _ => ?_) (fun h9 => absurd h9 (by decide))
  refine W.eq (g2 := F0 m 31 ls []) rfl ?_
  exact tx_throw (own := "TapeSealer") (cls := "java/lang/IllegalStateException") (names := own_n) hx hb hl0 hown (by decide +kernel) (by decide +kernel) (hB _ hw_470) (hB _ hw_79) (hJ.own hB own_ISE own_ISEk) (hl.1.trans hml.symm) d_TS_epoch_31 d_TS_epoch_34 d_TS_epoch_35 d_TS_epoch_38 (tx_none (B.noHandlers (hts _ List.mem_cons_self)) _) (Nat.le_of_ble_eq_true rfl) (Nat.le_of_ble_eq_true rfl) (Nat.le_of_ble_eq_true rfl) (Nat.le_of_ble_eq_true rfl) hlocks (Nat.le_of_ble_eq_true rfl) (Nat.le_of_ble_eq_true rfl)
set_option maxHeartbeats 4000000 in
set_option maxRecDepth 100000 in
theorem t_TS_create (l : Launch) (hl0 : l.stackTraces = false) (dC : Nat → ClassId) (dI : Nat → Nat → Nat) (aS aT : Nat) (cS cT : Cell) (h0 : Nat) (q : Nat → Nat) (ci : Nat → ClassId) (p0 : Int32) : tx_Met l y_TS_create w_TS_create ({ frames := 6, cells := 1, slots := 6, locals := 120 }) (va_Pc [.ref h0, .int p0] (fun U => va_P (dC, dI) gx_cl (wTS h0 q ci) U.heap ∧ va_K (dC, dI) gx_cl (kTS ci) U ∧ jx aS aT cS cT U)) "java/lang/IllegalStateException" 1 6 := by
  refine tx_ofW (cc := b_TS_create) (maxL := 3) (ret := (some .int)) (by decide) rfl ?_
  intro p e s m args below meth c s₁ B hml hv
  obtain ⟨rfl, hP, hK, hJ⟩ := hv
  have hx := B.exec
  have hb := B.bytes
  have hr := B.returns
  have hts := atoms_spec (ws := w_TS_create) B.pre
  have hB : ∀ w ∈ gx_B, w.before _ s = true := fun w h => hts w (List.mem_cons_of_mem _ h)
  have hown : s.vm.findClass "TapeSealer" = some m.cls := findClass_of_methodNamed B.named
  have hlocks := B.notSynchronized
  have hl := lv_entry ([.ref h0, .int p0]) (n := 3) (Nat.le_of_ble_eq_true rfl)
  rw [lg_entry_eq]
  generalize (lg_sl ([.ref h0, .int p0]) ++ List.replicate (3 - (lg_sl ([.ref h0, .int p0])).length) Slot.unset).toArray = ls at hl ⊢
  have hl : lv_has ls 3 [(0, .ref h0), (1, .int p0)] := hl
  refine lv_aload_n hx hb d_TS_create_0 rfl (lv_at hl 0 rfl) ?_
  refine px_go (va_runV (C := "TapeSealer") (As := []) (rest := []) ⟨hx, hb, hml, hown, hts⟩ (p_TS_lookAtHeaders l dC dI h0 q ci) (cwV 0 hts (gx_goodV hw_361 hw_363 hw_0 hw_66 k_TS_lookAtHeaders) rfl rfl rfl (by decide +kernel) ⟨(Nat.le_of_ble_eq_true rfl), (Nat.le_of_ble_eq_true rfl)⟩) ⟨fun a U g mk q => by obtain ⟨q0, qP, qK⟩ := q; exact ⟨q0, qP, va_K.moved (u := U) (U := U.calling g mk a) (Vm.Alike.refl U.vm) qK⟩, va_recv hK hP rfl (q0 := 0) rfl, fun U hU hW => ⟨rfl, by rw [hU]; exact hP, va_K.moved hW.alike (hK)⟩⟩ rfl rfl hl.1 rfl (lv_room (Nat.le_of_ble_eq_true rfl)) d_TS_create_1 ⟨(Nat.le_of_ble_eq_true rfl), (Nat.le_of_ble_eq_true rfl)⟩) ?_
  refine W.eq (g2 := F0 m 4 ls []) rfl ?_
  refine lv_aload_n hx hb d_TS_create_4 rfl (lv_at hl 0 rfl) ?_
  refine px_go (va_runV (C := "TapeSealer") (As := []) (rest := []) ⟨hx, hb, hml, hown, hts⟩ (p_TS_leastMissing l dC dI h0 q ci) (cwV 0 hts (gx_goodV hw_547 hw_549 hw_12 hw_66 k_TS_leastMissing) rfl rfl rfl (by decide +kernel) ⟨(Nat.le_of_ble_eq_true rfl), (Nat.le_of_ble_eq_true rfl)⟩) ⟨fun a U g mk q => by obtain ⟨q0, qP, qK⟩ := q; exact ⟨q0, qP, va_K.moved (u := U) (U := U.calling g mk a) (Vm.Alike.refl U.vm) qK⟩, va_recv hK hP rfl (q0 := 0) rfl, fun U hU hW => ⟨rfl, by rw [hU]; exact hP, va_K.moved hW.alike (hK)⟩⟩ rfl rfl hl.1 rfl (lv_room (Nat.le_of_ble_eq_true rfl)) d_TS_create_5 ⟨(Nat.le_of_ble_eq_true rfl), (Nat.le_of_ble_eq_true rfl)⟩) ?_
  refine W.eq (g2 := F0 m 8 ls [.int 0]) rfl ?_
  refine lv_istore_n hx hb d_TS_create_8 rfl hl (by decide) rfl (fun ls hl => ?_)
  have hl : lv_has ls 3 [(2, .int 0), (0, .ref h0), (1, .int p0)] := hl
  refine lv_aload_n hx hb d_TS_create_9 rfl (lv_at hl 1 rfl) ?_
  refine va_get (D := (dC, dI)) (ci := 8) (v := .ref (q 3)) (C := RTS) (T := FTS) (N := 15) hx hb hB in_TS hown hK hP 0 rfl rfl 1 (by decide) (hB _ hw_308) (fun _ h9 => h9) rfl d_TS_create_10 ?_
  refine va_get (D := (dC, dI)) (ci := 3) (v := .int 0) (C := REp) (T := FEp) (N := 3) hx hb hB in_Ep hown hK hP 4 rfl rfl 2 (by decide) (hB _ hw_144) (fun _ h9 => h9) rfl d_TS_create_13 ?_
  refine lv_if_eq (tgt := 45) hx hb d_TS_create_16 (by decide) (fun _ => ?_) (fun h9 => absurd (by decide) h9)
  refine W.eq (g2 := F0 m 45 ls []) rfl ?_
  exact tx_throw (own := "TapeSealer") (cls := "java/lang/IllegalStateException") (names := own_n) hx hb hl0 hown (by decide +kernel) (by decide +kernel) (hB _ hw_470) (hB _ hw_79) (hJ.own hB own_ISE own_ISEk) (hl.1.trans hml.symm) d_TS_create_45 d_TS_create_48 d_TS_create_49 d_TS_create_52 (tx_none (B.noHandlers (hts _ List.mem_cons_self)) _) (Nat.le_of_ble_eq_true rfl) (Nat.le_of_ble_eq_true rfl) (Nat.le_of_ble_eq_true rfl) (Nat.le_of_ble_eq_true rfl) hlocks (Nat.le_of_ble_eq_true rfl) (Nat.le_of_ble_eq_true rfl)
set_option maxHeartbeats 4000000 in
set_option maxRecDepth 100000 in
theorem t_TS_append (l : Launch) (hl0 : l.stackTraces = false) (dC : Nat → ClassId) (dI : Nat → Nat → Nat) (aS aT : Nat) (cS cT : Cell) (h0 : Nat) (q : Nat → Nat) (ci : Nat → ClassId) : tx_Met l y_TS_append w_TS_append ({ frames := 6, cells := 1, slots := 6, locals := 120 }) (va_Pc [.ref h0] (fun U => va_P (dC, dI) gx_cl (wTS h0 q ci) U.heap ∧ va_K (dC, dI) gx_cl (kTS ci) U ∧ jx aS aT cS cT U)) "java/lang/IllegalStateException" 1 6 := by
  refine tx_ofW (cc := b_TS_append) (maxL := 2) (ret := (some .int)) (by decide) rfl ?_
  intro p e s m args below meth c s₁ B hml hv
  obtain ⟨rfl, hP, hK, hJ⟩ := hv
  have hx := B.exec
  have hb := B.bytes
  have hr := B.returns
  have hts := atoms_spec (ws := w_TS_append) B.pre
  have hB : ∀ w ∈ gx_B, w.before _ s = true := fun w h => hts w (List.mem_cons_of_mem _ h)
  have hown : s.vm.findClass "TapeSealer" = some m.cls := findClass_of_methodNamed B.named
  have hlocks := B.notSynchronized
  have hl := lv_entry ([.ref h0]) (n := 2) (Nat.le_of_ble_eq_true rfl)
  rw [lg_entry_eq]
  generalize (lg_sl ([.ref h0]) ++ List.replicate (2 - (lg_sl ([.ref h0])).length) Slot.unset).toArray = ls at hl ⊢
  have hl : lv_has ls 2 [(0, .ref h0)] := hl
  refine lv_aload_n hx hb d_TS_append_0 rfl (lv_at hl 0 rfl) ?_
  refine px_go (va_runV (C := "TapeSealer") (As := []) (rest := []) ⟨hx, hb, hml, hown, hts⟩ (p_TS_lookAtHeaders l dC dI h0 q ci) (cwV 0 hts (gx_goodV hw_361 hw_363 hw_0 hw_66 k_TS_lookAtHeaders) rfl rfl rfl (by decide +kernel) ⟨(Nat.le_of_ble_eq_true rfl), (Nat.le_of_ble_eq_true rfl)⟩) ⟨fun a U g mk q => by obtain ⟨q0, qP, qK⟩ := q; exact ⟨q0, qP, va_K.moved (u := U) (U := U.calling g mk a) (Vm.Alike.refl U.vm) qK⟩, va_recv hK hP rfl (q0 := 0) rfl, fun U hU hW => ⟨rfl, by rw [hU]; exact hP, va_K.moved hW.alike (hK)⟩⟩ rfl rfl hl.1 rfl (lv_room (Nat.le_of_ble_eq_true rfl)) d_TS_append_1 ⟨(Nat.le_of_ble_eq_true rfl), (Nat.le_of_ble_eq_true rfl)⟩) ?_
  refine W.eq (g2 := F0 m 4 ls []) rfl ?_
  refine lv_aload_n hx hb d_TS_append_4 rfl (lv_at hl 0 rfl) ?_
  refine va_get (D := (dC, dI)) (ci := 8) (v := .ref (q 15)) (C := RTS) (T := FTS) (N := 15) hx hb hB in_TS hown hK hP 0 rfl rfl 9 (by decide) (hB _ hw_316) (fun _ h9 => h9) rfl d_TS_append_5 ?_
  refine va_get (D := (dC, dI)) (ci := 2) (v := .int 0) (C := RDr) (T := FDr) (N := 4) hx hb hB in_Dr hown hK hP 10 rfl rfl 3 (by decide) (hB _ hw_297) (fun _ h9 => h9) rfl d_TS_append_8 ?_
  refine lv_aload_n hx hb d_TS_append_11 rfl (lv_at hl 0 rfl) ?_
  refine va_get (D := (dC, dI)) (ci := 8) (v := .int 0) (C := RTS) (T := FTS) (N := 15) hx hb hB in_TS hown hK hP 0 rfl rfl 11 (by decide) (hB _ hw_318) (fun _ h9 => h9) rfl d_TS_append_12 ?_
  refine lv_iadd hx hb d_TS_append_15 ?_
  refine lv_topi (fun z1 z1_e => ?_)
  obtain rfl : z1 = 0 := z1_e.trans (by decide)
  refine lv_istore_n hx hb d_TS_append_16 rfl hl (by decide) rfl (fun ls hl => ?_)
  have hl : lv_has ls 2 [(1, .int 0), (0, .ref h0)] := hl
  refine lv_aload_n hx hb d_TS_append_17 rfl (lv_at hl 1 rfl) ?_
  refine va_get (D := (dC, dI)) (ci := 8) (v := .ref (q 15)) (C := RTS) (T := FTS) (N := 15) hx hb hB in_TS hown hK hP 0 rfl rfl 9 (by decide) (hB _ hw_316) (fun _ h9 => h9) rfl d_TS_append_18 ?_
  refine va_get (D := (dC, dI)) (ci := 2) (v := .int (-1)) (C := RDr) (T := FDr) (N := 4) hx hb hB in_Dr hown hK hP 10 rfl rfl 1 (by decide) (hB _ hw_295) (fun _ h9 => h9) rfl d_TS_append_21 ?_
  refine lv_iconst (v := (-1)) hx hb d_TS_append_24 (by decide) ?_
  refine lv_icmp_eq (tgt := 57) hx hb d_TS_append_25 (by decide) (fun _ => ?_) (fun h9 => absurd (by decide) h9)
  refine W.eq (g2 := F0 m 57 ls []) rfl ?_
  exact tx_throw (own := "TapeSealer") (cls := "java/lang/IllegalStateException") (names := own_n) hx hb hl0 hown (by decide +kernel) (by decide +kernel) (hB _ hw_470) (hB _ hw_79) (hJ.own hB own_ISE own_ISEk) (hl.1.trans hml.symm) d_TS_append_57 d_TS_append_60 d_TS_append_61 d_TS_append_64 (tx_none (B.noHandlers (hts _ List.mem_cons_self)) _) (Nat.le_of_ble_eq_true rfl) (Nat.le_of_ble_eq_true rfl) (Nat.le_of_ble_eq_true rfl) (Nat.le_of_ble_eq_true rfl) hlocks (Nat.le_of_ble_eq_true rfl) (Nat.le_of_ble_eq_true rfl)
set_option maxHeartbeats 4000000 in
set_option maxRecDepth 100000 in
theorem t_TS_finish (l : Launch) (hl0 : l.stackTraces = false) (dC : Nat → ClassId) (dI : Nat → Nat → Nat) (aS aT : Nat) (cS cT : Cell) (h0 : Nat) (q : Nat → Nat) (ci : Nat → ClassId) : tx_Met l y_TS_finish w_TS_finish ({ frames := 6, cells := 1, slots := 6, locals := 120 }) (va_Pc [.ref h0] (fun U => va_P (dC, dI) gx_cl (wTS h0 q ci) U.heap ∧ va_K (dC, dI) gx_cl (kTS ci) U ∧ jx aS aT cS cT U)) "java/lang/IllegalStateException" 1 6 := by
  refine tx_ofW (cc := b_TS_finish) (maxL := 3) (ret := (some .int)) (by decide) rfl ?_
  intro p e s m args below meth c s₁ B hml hv
  obtain ⟨rfl, hP, hK, hJ⟩ := hv
  have hx := B.exec
  have hb := B.bytes
  have hr := B.returns
  have hts := atoms_spec (ws := w_TS_finish) B.pre
  have hB : ∀ w ∈ gx_B, w.before _ s = true := fun w h => hts w (List.mem_cons_of_mem _ h)
  have hown : s.vm.findClass "TapeSealer" = some m.cls := findClass_of_methodNamed B.named
  have hlocks := B.notSynchronized
  have hl := lv_entry ([.ref h0]) (n := 3) (Nat.le_of_ble_eq_true rfl)
  rw [lg_entry_eq]
  generalize (lg_sl ([.ref h0]) ++ List.replicate (3 - (lg_sl ([.ref h0])).length) Slot.unset).toArray = ls at hl ⊢
  have hl : lv_has ls 3 [(0, .ref h0)] := hl
  refine lv_aload_n hx hb d_TS_finish_0 rfl (lv_at hl 0 rfl) ?_
  refine va_get (D := (dC, dI)) (ci := 8) (v := .ref (q 15)) (C := RTS) (T := FTS) (N := 15) hx hb hB in_TS hown hK hP 0 rfl rfl 9 (by decide) (hB _ hw_316) (fun _ h9 => h9) rfl d_TS_finish_1 ?_
  refine va_get (D := (dC, dI)) (ci := 2) (v := .int (-1)) (C := RDr) (T := FDr) (N := 4) hx hb hB in_Dr hown hK hP 10 rfl rfl 1 (by decide) (hB _ hw_295) (fun _ h9 => h9) rfl d_TS_finish_4 ?_
  refine lv_iconst (v := (-1)) hx hb d_TS_finish_7 (by decide) ?_
  refine lv_icmp_eq (tgt := 21) hx hb d_TS_finish_8 (by decide) (fun _ => ?_) (fun h9 => absurd (by decide) h9)
  refine W.eq (g2 := F0 m 21 ls []) rfl ?_
  exact tx_throw (own := "TapeSealer") (cls := "java/lang/IllegalStateException") (names := own_n) hx hb hl0 hown (by decide +kernel) (by decide +kernel) (hB _ hw_470) (hB _ hw_79) (hJ.own hB own_ISE own_ISEk) (hl.1.trans hml.symm) d_TS_finish_21 d_TS_finish_24 d_TS_finish_25 d_TS_finish_28 (tx_none (B.noHandlers (hts _ List.mem_cons_self)) _) (Nat.le_of_ble_eq_true rfl) (Nat.le_of_ble_eq_true rfl) (Nat.le_of_ble_eq_true rfl) (Nat.le_of_ble_eq_true rfl) hlocks (Nat.le_of_ble_eq_true rfl) (Nat.le_of_ble_eq_true rfl)
set_option maxHeartbeats 4000000 in
set_option maxRecDepth 100000 in
theorem t_TS_read (l : Launch) (hl0 : l.stackTraces = false) (dC : Nat → ClassId) (dI : Nat → Nat → Nat) (aS aT : Nat) (cS cT : Cell) (h0 : Nat) (q : Nat → Nat) (ci : Nat → ClassId) (p0 p1 p2 : Int32) : tx_Met l y_TS_read w_TS_read ({ frames := 6, cells := 1, slots := 6, locals := 120 }) (va_Pc [.ref h0, .int p0, .int p1, .int p2] (fun U => va_P (dC, dI) gx_cl (wTS h0 q ci) U.heap ∧ va_K (dC, dI) gx_cl (kTS ci) U ∧ jx aS aT cS cT U)) "java/util/NoSuchElementException" 1 6 := by
  refine tx_ofW (cc := b_TS_read) (maxL := 7) (ret := (some .int)) (by decide) rfl ?_
  intro p e s m args below meth c s₁ B hml hv
  obtain ⟨rfl, hP, hK, hJ⟩ := hv
  have hx := B.exec
  have hb := B.bytes
  have hr := B.returns
  have hts := atoms_spec (ws := w_TS_read) B.pre
  have hB : ∀ w ∈ gx_B, w.before _ s = true := fun w h => hts w (List.mem_cons_of_mem _ h)
  have hown : s.vm.findClass "TapeSealer" = some m.cls := findClass_of_methodNamed B.named
  have hlocks := B.notSynchronized
  have hl := lv_entry ([.ref h0, .int p0, .int p1, .int p2]) (n := 7) (Nat.le_of_ble_eq_true rfl)
  rw [lg_entry_eq]
  generalize (lg_sl ([.ref h0, .int p0, .int p1, .int p2]) ++ List.replicate (7 - (lg_sl ([.ref h0, .int p0, .int p1, .int p2])).length) Slot.unset).toArray = ls at hl ⊢
  have hl : lv_has ls 7 [(0, .ref h0), (1, .int p0), (2, .int p1), (3, .int p2)] := hl
  refine lv_aload_n hx hb d_TS_read_0 rfl (lv_at hl 0 rfl) ?_
  refine px_go (va_runV (C := "TapeSealer") (As := []) (rest := []) ⟨hx, hb, hml, hown, hts⟩ (p_TS_lookAtHeaders l dC dI h0 q ci) (cwV 0 hts (gx_goodV hw_361 hw_363 hw_0 hw_66 k_TS_lookAtHeaders) rfl rfl rfl (by decide +kernel) ⟨(Nat.le_of_ble_eq_true rfl), (Nat.le_of_ble_eq_true rfl)⟩) ⟨fun a U g mk q => by obtain ⟨q0, qP, qK⟩ := q; exact ⟨q0, qP, va_K.moved (u := U) (U := U.calling g mk a) (Vm.Alike.refl U.vm) qK⟩, va_recv hK hP rfl (q0 := 0) rfl, fun U hU hW => ⟨rfl, by rw [hU]; exact hP, va_K.moved hW.alike (hK)⟩⟩ rfl rfl hl.1 rfl (lv_room (Nat.le_of_ble_eq_true rfl)) d_TS_read_1 ⟨(Nat.le_of_ble_eq_true rfl), (Nat.le_of_ble_eq_true rfl)⟩) ?_
  refine W.eq (g2 := F0 m 4 ls []) rfl ?_
  refine lv_aload_n hx hb d_TS_read_4 rfl (lv_at hl 0 rfl) ?_
  refine lv_iload_n hx hb d_TS_read_5 rfl (lv_at hl 1 rfl) ?_
  refine px_go (va_runV (C := "TapeSealer") (As := [.int p0]) (rest := []) ⟨hx, hb, hml, hown, hts⟩ (p_TS_exists l dC dI h0 q ci p0) (cwV 1 hts (gx_goodV hw_664 hw_666 hw_22 hw_66 k_TS_exists) rfl rfl rfl (by decide +kernel) ⟨(Nat.le_of_ble_eq_true rfl), (Nat.le_of_ble_eq_true rfl)⟩) ⟨fun a U g mk q => by obtain ⟨q0, qP, qK⟩ := q; exact ⟨q0, qP, va_K.moved (u := U) (U := U.calling g mk a) (Vm.Alike.refl U.vm) qK⟩, va_recv hK hP rfl (q0 := 0) rfl, fun U hU hW => ⟨rfl, by rw [hU]; exact hP, va_K.moved hW.alike (hK)⟩⟩ rfl rfl hl.1 rfl (lv_room (Nat.le_of_ble_eq_true rfl)) d_TS_read_6 ⟨(Nat.le_of_ble_eq_true rfl), (Nat.le_of_ble_eq_true rfl)⟩) ?_
  refine W.eq (g2 := F0 m 9 ls [.int 0]) rfl ?_
  refine lv_if_ne (tgt := 20) hx hb d_TS_read_9 (by decide) (fun h9 => absurd (by decide) h9) (fun _ => ?_)
  refine W.eq (g2 := F0 m 12 ls []) rfl ?_
  exact tx_throw (own := "TapeSealer") (cls := "java/util/NoSuchElementException") (names := own_n) hx hb hl0 hown (by decide +kernel) (by decide +kernel) (hB _ hw_668) (hB _ hw_84) (hJ.own hB own_NSE own_NSEk) (hl.1.trans hml.symm) d_TS_read_12 d_TS_read_15 d_TS_read_16 d_TS_read_19 (tx_none (B.noHandlers (hts _ List.mem_cons_self)) _) (Nat.le_of_ble_eq_true rfl) (Nat.le_of_ble_eq_true rfl) (Nat.le_of_ble_eq_true rfl) (Nat.le_of_ble_eq_true rfl) hlocks (Nat.le_of_ble_eq_true rfl) (Nat.le_of_ble_eq_true rfl)
set_option maxHeartbeats 4000000 in
set_option maxRecDepth 100000 in
theorem t_TS_output (l : Launch) (hl0 : l.stackTraces = false) (dC : Nat → ClassId) (dI : Nat → Nat → Nat) (aS aT : Nat) (cS cT : Cell) (h0 : Nat) (q : Nat → Nat) (ci : Nat → ClassId) (p0 : Int32) : tx_Met l y_TS_output w_TS_output ({ frames := 6, cells := 1, slots := 6, locals := 120 }) (va_Pc [.ref h0, .int p0] (fun U => va_P (dC, dI) gx_cl (wTS h0 q ci) U.heap ∧ va_K (dC, dI) gx_cl (kTS ci) U ∧ jx aS aT cS cT U)) "java/lang/IndexOutOfBoundsException" 1 6 := by
  refine tx_ofW (cc := b_TS_output) (maxL := 2) (ret := (some .int)) (by decide) rfl ?_
  intro p e s m args below meth c s₁ B hml hv
  obtain ⟨rfl, hP, hK, hJ⟩ := hv
  have hx := B.exec
  have hb := B.bytes
  have hr := B.returns
  have hts := atoms_spec (ws := w_TS_output) B.pre
  have hB : ∀ w ∈ gx_B, w.before _ s = true := fun w h => hts w (List.mem_cons_of_mem _ h)
  have hown : s.vm.findClass "TapeSealer" = some m.cls := findClass_of_methodNamed B.named
  have hlocks := B.notSynchronized
  have hl := lv_entry ([.ref h0, .int p0]) (n := 2) (Nat.le_of_ble_eq_true rfl)
  rw [lg_entry_eq]
  generalize (lg_sl ([.ref h0, .int p0]) ++ List.replicate (2 - (lg_sl ([.ref h0, .int p0])).length) Slot.unset).toArray = ls at hl ⊢
  have hl : lv_has ls 2 [(0, .ref h0), (1, .int p0)] := hl
  by_cases hi : p0 < 0
  · refine lv_iload_n hx hb d_TS_output_0 rfl (lv_at hl 1 rfl) ?_
    refine lv_if_lt (tgt := 12) hx hb d_TS_output_1 (by decide) (fun _ => ?_) (fun h9 => absurd hi h9)
    refine W.eq (g2 := F0 m 12 ls []) rfl ?_
    exact tx_throw (own := "TapeSealer") (cls := "java/lang/IndexOutOfBoundsException") (names := own_n) hx hb hl0 hown (by decide +kernel) (by decide +kernel) (hB _ hw_766) (hB _ hw_87) (hJ.own hB own_IOB own_IOBk) (hl.1.trans hml.symm) d_TS_output_12 d_TS_output_15 d_TS_output_16 d_TS_output_19 (tx_none (B.noHandlers (hts _ List.mem_cons_self)) _) (Nat.le_of_ble_eq_true rfl) (Nat.le_of_ble_eq_true rfl) (Nat.le_of_ble_eq_true rfl) (Nat.le_of_ble_eq_true rfl) hlocks (Nat.le_of_ble_eq_true rfl) (Nat.le_of_ble_eq_true rfl)
  · refine lv_iload_n hx hb d_TS_output_0 rfl (lv_at hl 1 rfl) ?_
    refine lv_if_lt (tgt := 12) hx hb d_TS_output_1 (by decide) (fun h9 => absurd h9 hi) (fun _ => ?_)
    refine lv_iload_n hx hb d_TS_output_4 rfl (lv_at hl 1 rfl) ?_
    refine lv_aload_n hx hb d_TS_output_5 rfl (lv_at hl 0 rfl) ?_
    refine va_get (D := (dC, dI)) (ci := 8) (v := .int 0) (C := RTS) (T := FTS) (N := 15) hx hb hB in_TS hown hK hP 0 rfl rfl 14 (by decide) (hB _ hw_321) (fun _ h9 => h9) rfl d_TS_output_6 ?_
    refine lv_icmp_lt (tgt := 20) hx hb d_TS_output_9 (by decide) (fun h9 => absurd h9 hi) (fun _ => ?_)
    refine W.eq (g2 := F0 m 12 ls []) rfl ?_
    exact tx_throw (own := "TapeSealer") (cls := "java/lang/IndexOutOfBoundsException") (names := own_n) hx hb hl0 hown (by decide +kernel) (by decide +kernel) (hB _ hw_766) (hB _ hw_87) (hJ.own hB own_IOB own_IOBk) (hl.1.trans hml.symm) d_TS_output_12 d_TS_output_15 d_TS_output_16 d_TS_output_19 (tx_none (B.noHandlers (hts _ List.mem_cons_self)) _) (Nat.le_of_ble_eq_true rfl) (Nat.le_of_ble_eq_true rfl) (Nat.le_of_ble_eq_true rfl) (Nat.le_of_ble_eq_true rfl) hlocks (Nat.le_of_ble_eq_true rfl) (Nat.le_of_ble_eq_true rfl)
set_option maxHeartbeats 4000000 in
set_option maxRecDepth 100000 in
theorem t_TS_verify (l : Launch) (hl0 : l.stackTraces = false) (dC : Nat → ClassId) (dI : Nat → Nat → Nat) (aS aT : Nat) (cS cT : Cell) (h0 : Nat) (q : Nat → Nat) (ci : Nat → ClassId) (p0 : Int32) : tx_Met l y_TS_verify w_TS_verify ({ frames := 6, cells := 1, slots := 6, locals := 120 }) (va_Pc [.ref h0, .int p0] (fun U => va_P (dC, dI) gx_cl (wTS h0 q ci) U.heap ∧ va_K (dC, dI) gx_cl (kTS ci) U ∧ jx aS aT cS cT U)) "java/util/NoSuchElementException" 1 6 := by
  refine tx_ofW (cc := b_TS_verify) (maxL := 5) (ret := (some .int)) (by decide) rfl ?_
  intro p e s m args below meth c s₁ B hml hv
  obtain ⟨rfl, hP, hK, hJ⟩ := hv
  have hx := B.exec
  have hb := B.bytes
  have hr := B.returns
  have hts := atoms_spec (ws := w_TS_verify) B.pre
  have hB : ∀ w ∈ gx_B, w.before _ s = true := fun w h => hts w (List.mem_cons_of_mem _ h)
  have hown : s.vm.findClass "TapeSealer" = some m.cls := findClass_of_methodNamed B.named
  have hlocks := B.notSynchronized
  have hl := lv_entry ([.ref h0, .int p0]) (n := 5) (Nat.le_of_ble_eq_true rfl)
  rw [lg_entry_eq]
  generalize (lg_sl ([.ref h0, .int p0]) ++ List.replicate (5 - (lg_sl ([.ref h0, .int p0])).length) Slot.unset).toArray = ls at hl ⊢
  have hl : lv_has ls 5 [(0, .ref h0), (1, .int p0)] := hl
  refine lv_aload_n hx hb d_TS_verify_0 rfl (lv_at hl 0 rfl) ?_
  refine px_go (va_runV (C := "TapeSealer") (As := []) (rest := []) ⟨hx, hb, hml, hown, hts⟩ (p_TS_lookAtHeaders l dC dI h0 q ci) (cwV 0 hts (gx_goodV hw_361 hw_363 hw_0 hw_66 k_TS_lookAtHeaders) rfl rfl rfl (by decide +kernel) ⟨(Nat.le_of_ble_eq_true rfl), (Nat.le_of_ble_eq_true rfl)⟩) ⟨fun a U g mk q => by obtain ⟨q0, qP, qK⟩ := q; exact ⟨q0, qP, va_K.moved (u := U) (U := U.calling g mk a) (Vm.Alike.refl U.vm) qK⟩, va_recv hK hP rfl (q0 := 0) rfl, fun U hU hW => ⟨rfl, by rw [hU]; exact hP, va_K.moved hW.alike (hK)⟩⟩ rfl rfl hl.1 rfl (lv_room (Nat.le_of_ble_eq_true rfl)) d_TS_verify_1 ⟨(Nat.le_of_ble_eq_true rfl), (Nat.le_of_ble_eq_true rfl)⟩) ?_
  refine W.eq (g2 := F0 m 4 ls []) rfl ?_
  refine lv_aload_n hx hb d_TS_verify_4 rfl (lv_at hl 0 rfl) ?_
  refine lv_iload_n hx hb d_TS_verify_5 rfl (lv_at hl 1 rfl) ?_
  refine px_go (va_runV (C := "TapeSealer") (As := [.int p0]) (rest := []) ⟨hx, hb, hml, hown, hts⟩ (p_TS_exists l dC dI h0 q ci p0) (cwV 1 hts (gx_goodV hw_664 hw_666 hw_22 hw_66 k_TS_exists) rfl rfl rfl (by decide +kernel) ⟨(Nat.le_of_ble_eq_true rfl), (Nat.le_of_ble_eq_true rfl)⟩) ⟨fun a U g mk q => by obtain ⟨q0, qP, qK⟩ := q; exact ⟨q0, qP, va_K.moved (u := U) (U := U.calling g mk a) (Vm.Alike.refl U.vm) qK⟩, va_recv hK hP rfl (q0 := 0) rfl, fun U hU hW => ⟨rfl, by rw [hU]; exact hP, va_K.moved hW.alike (hK)⟩⟩ rfl rfl hl.1 rfl (lv_room (Nat.le_of_ble_eq_true rfl)) d_TS_verify_6 ⟨(Nat.le_of_ble_eq_true rfl), (Nat.le_of_ble_eq_true rfl)⟩) ?_
  refine W.eq (g2 := F0 m 9 ls [.int 0]) rfl ?_
  refine lv_if_ne (tgt := 20) hx hb d_TS_verify_9 (by decide) (fun h9 => absurd (by decide) h9) (fun _ => ?_)
  refine W.eq (g2 := F0 m 12 ls []) rfl ?_
  exact tx_throw (own := "TapeSealer") (cls := "java/util/NoSuchElementException") (names := own_n) hx hb hl0 hown (by decide +kernel) (by decide +kernel) (hB _ hw_668) (hB _ hw_84) (hJ.own hB own_NSE own_NSEk) (hl.1.trans hml.symm) d_TS_verify_12 d_TS_verify_15 d_TS_verify_16 d_TS_verify_19 (tx_none (B.noHandlers (hts _ List.mem_cons_self)) _) (Nat.le_of_ble_eq_true rfl) (Nat.le_of_ble_eq_true rfl) (Nat.le_of_ble_eq_true rfl) (Nat.le_of_ble_eq_true rfl) hlocks (Nat.le_of_ble_eq_true rfl) (Nat.le_of_ble_eq_true rfl)
set_option maxHeartbeats 4000000 in
set_option maxRecDepth 100000 in
theorem t_TS_rewrap (l : Launch) (hl0 : l.stackTraces = false) (dC : Nat → ClassId) (dI : Nat → Nat → Nat) (aS aT : Nat) (cS cT : Cell) (h0 : Nat) (q : Nat → Nat) (ci : Nat → ClassId) (p0 : Int32) : tx_Met l y_TS_rewrap w_TS_rewrap ({ frames := 6, cells := 1, slots := 6, locals := 120 }) (va_Pc [.ref h0, .int p0] (fun U => va_P (dC, dI) gx_cl (wTS h0 q ci) U.heap ∧ va_K (dC, dI) gx_cl (kTS ci) U ∧ jx aS aT cS cT U)) "java/util/NoSuchElementException" 1 6 := by
  refine tx_ofW (cc := b_TS_rewrap) (maxL := 3) (ret := (some .boolean)) (by decide) rfl ?_
  intro p e s m args below meth c s₁ B hml hv
  obtain ⟨rfl, hP, hK, hJ⟩ := hv
  have hx := B.exec
  have hb := B.bytes
  have hr := B.returns
  have hts := atoms_spec (ws := w_TS_rewrap) B.pre
  have hB : ∀ w ∈ gx_B, w.before _ s = true := fun w h => hts w (List.mem_cons_of_mem _ h)
  have hown : s.vm.findClass "TapeSealer" = some m.cls := findClass_of_methodNamed B.named
  have hlocks := B.notSynchronized
  have hl := lv_entry ([.ref h0, .int p0]) (n := 3) (Nat.le_of_ble_eq_true rfl)
  rw [lg_entry_eq]
  generalize (lg_sl ([.ref h0, .int p0]) ++ List.replicate (3 - (lg_sl ([.ref h0, .int p0])).length) Slot.unset).toArray = ls at hl ⊢
  have hl : lv_has ls 3 [(0, .ref h0), (1, .int p0)] := hl
  refine lv_aload_n hx hb d_TS_rewrap_0 rfl (lv_at hl 0 rfl) ?_
  refine px_go (va_runV (C := "TapeSealer") (As := []) (rest := []) ⟨hx, hb, hml, hown, hts⟩ (p_TS_lookAtHeaders l dC dI h0 q ci) (cwV 0 hts (gx_goodV hw_361 hw_363 hw_0 hw_66 k_TS_lookAtHeaders) rfl rfl rfl (by decide +kernel) ⟨(Nat.le_of_ble_eq_true rfl), (Nat.le_of_ble_eq_true rfl)⟩) ⟨fun a U g mk q => by obtain ⟨q0, qP, qK⟩ := q; exact ⟨q0, qP, va_K.moved (u := U) (U := U.calling g mk a) (Vm.Alike.refl U.vm) qK⟩, va_recv hK hP rfl (q0 := 0) rfl, fun U hU hW => ⟨rfl, by rw [hU]; exact hP, va_K.moved hW.alike (hK)⟩⟩ rfl rfl hl.1 rfl (lv_room (Nat.le_of_ble_eq_true rfl)) d_TS_rewrap_1 ⟨(Nat.le_of_ble_eq_true rfl), (Nat.le_of_ble_eq_true rfl)⟩) ?_
  refine W.eq (g2 := F0 m 4 ls []) rfl ?_
  refine lv_aload_n hx hb d_TS_rewrap_4 rfl (lv_at hl 0 rfl) ?_
  refine lv_iload_n hx hb d_TS_rewrap_5 rfl (lv_at hl 1 rfl) ?_
  refine px_go (va_runV (C := "TapeSealer") (As := [.int p0]) (rest := []) ⟨hx, hb, hml, hown, hts⟩ (p_TS_exists l dC dI h0 q ci p0) (cwV 1 hts (gx_goodV hw_664 hw_666 hw_22 hw_66 k_TS_exists) rfl rfl rfl (by decide +kernel) ⟨(Nat.le_of_ble_eq_true rfl), (Nat.le_of_ble_eq_true rfl)⟩) ⟨fun a U g mk q => by obtain ⟨q0, qP, qK⟩ := q; exact ⟨q0, qP, va_K.moved (u := U) (U := U.calling g mk a) (Vm.Alike.refl U.vm) qK⟩, va_recv hK hP rfl (q0 := 0) rfl, fun U hU hW => ⟨rfl, by rw [hU]; exact hP, va_K.moved hW.alike (hK)⟩⟩ rfl rfl hl.1 rfl (lv_room (Nat.le_of_ble_eq_true rfl)) d_TS_rewrap_6 ⟨(Nat.le_of_ble_eq_true rfl), (Nat.le_of_ble_eq_true rfl)⟩) ?_
  refine W.eq (g2 := F0 m 9 ls [.int 0]) rfl ?_
  refine lv_if_ne (tgt := 20) hx hb d_TS_rewrap_9 (by decide) (fun h9 => absurd (by decide) h9) (fun _ => ?_)
  refine W.eq (g2 := F0 m 12 ls []) rfl ?_
  exact tx_throw (own := "TapeSealer") (cls := "java/util/NoSuchElementException") (names := own_n) hx hb hl0 hown (by decide +kernel) (by decide +kernel) (hB _ hw_668) (hB _ hw_84) (hJ.own hB own_NSE own_NSEk) (hl.1.trans hml.symm) d_TS_rewrap_12 d_TS_rewrap_15 d_TS_rewrap_16 d_TS_rewrap_19 (tx_none (B.noHandlers (hts _ List.mem_cons_self)) _) (Nat.le_of_ble_eq_true rfl) (Nat.le_of_ble_eq_true rfl) (Nat.le_of_ble_eq_true rfl) (Nat.le_of_ble_eq_true rfl) hlocks (Nat.le_of_ble_eq_true rfl) (Nat.le_of_ble_eq_true rfl)
set_option maxHeartbeats 4000000 in
set_option maxRecDepth 100000 in
theorem t_TS_delete (l : Launch) (hl0 : l.stackTraces = false) (dC : Nat → ClassId) (dI : Nat → Nat → Nat) (aS aT : Nat) (cS cT : Cell) (h0 : Nat) (q : Nat → Nat) (ci : Nat → ClassId) (p0 : Int32) : tx_Met l y_TS_delete w_TS_delete ({ frames := 6, cells := 1, slots := 6, locals := 120 }) (va_Pc [.ref h0, .int p0] (fun U => va_P (dC, dI) gx_cl (wTS h0 q ci) U.heap ∧ va_K (dC, dI) gx_cl (kTS ci) U ∧ jx aS aT cS cT U)) "java/util/NoSuchElementException" 1 6 := by
  refine tx_ofW (cc := b_TS_delete) (maxL := 2) (ret := none) (by decide) rfl ?_
  intro p e s m args below meth c s₁ B hml hv
  obtain ⟨rfl, hP, hK, hJ⟩ := hv
  have hx := B.exec
  have hb := B.bytes
  have hr := B.returns
  have hts := atoms_spec (ws := w_TS_delete) B.pre
  have hB : ∀ w ∈ gx_B, w.before _ s = true := fun w h => hts w (List.mem_cons_of_mem _ h)
  have hown : s.vm.findClass "TapeSealer" = some m.cls := findClass_of_methodNamed B.named
  have hlocks := B.notSynchronized
  have hl := lv_entry ([.ref h0, .int p0]) (n := 2) (Nat.le_of_ble_eq_true rfl)
  rw [lg_entry_eq]
  generalize (lg_sl ([.ref h0, .int p0]) ++ List.replicate (2 - (lg_sl ([.ref h0, .int p0])).length) Slot.unset).toArray = ls at hl ⊢
  have hl : lv_has ls 2 [(0, .ref h0), (1, .int p0)] := hl
  refine lv_aload_n hx hb d_TS_delete_0 rfl (lv_at hl 0 rfl) ?_
  refine px_go (va_runV (C := "TapeSealer") (As := []) (rest := []) ⟨hx, hb, hml, hown, hts⟩ (p_TS_lookAtHeaders l dC dI h0 q ci) (cwV 0 hts (gx_goodV hw_361 hw_363 hw_0 hw_66 k_TS_lookAtHeaders) rfl rfl rfl (by decide +kernel) ⟨(Nat.le_of_ble_eq_true rfl), (Nat.le_of_ble_eq_true rfl)⟩) ⟨fun a U g mk q => by obtain ⟨q0, qP, qK⟩ := q; exact ⟨q0, qP, va_K.moved (u := U) (U := U.calling g mk a) (Vm.Alike.refl U.vm) qK⟩, va_recv hK hP rfl (q0 := 0) rfl, fun U hU hW => ⟨rfl, by rw [hU]; exact hP, va_K.moved hW.alike (hK)⟩⟩ rfl rfl hl.1 rfl (lv_room (Nat.le_of_ble_eq_true rfl)) d_TS_delete_1 ⟨(Nat.le_of_ble_eq_true rfl), (Nat.le_of_ble_eq_true rfl)⟩) ?_
  refine W.eq (g2 := F0 m 4 ls []) rfl ?_
  refine lv_aload_n hx hb d_TS_delete_4 rfl (lv_at hl 0 rfl) ?_
  refine lv_iload_n hx hb d_TS_delete_5 rfl (lv_at hl 1 rfl) ?_
  refine px_go (va_runV (C := "TapeSealer") (As := [.int p0]) (rest := []) ⟨hx, hb, hml, hown, hts⟩ (p_TS_exists l dC dI h0 q ci p0) (cwV 1 hts (gx_goodV hw_664 hw_666 hw_22 hw_66 k_TS_exists) rfl rfl rfl (by decide +kernel) ⟨(Nat.le_of_ble_eq_true rfl), (Nat.le_of_ble_eq_true rfl)⟩) ⟨fun a U g mk q => by obtain ⟨q0, qP, qK⟩ := q; exact ⟨q0, qP, va_K.moved (u := U) (U := U.calling g mk a) (Vm.Alike.refl U.vm) qK⟩, va_recv hK hP rfl (q0 := 0) rfl, fun U hU hW => ⟨rfl, by rw [hU]; exact hP, va_K.moved hW.alike (hK)⟩⟩ rfl rfl hl.1 rfl (lv_room (Nat.le_of_ble_eq_true rfl)) d_TS_delete_6 ⟨(Nat.le_of_ble_eq_true rfl), (Nat.le_of_ble_eq_true rfl)⟩) ?_
  refine W.eq (g2 := F0 m 9 ls [.int 0]) rfl ?_
  refine lv_if_ne (tgt := 20) hx hb d_TS_delete_9 (by decide) (fun h9 => absurd (by decide) h9) (fun _ => ?_)
  refine W.eq (g2 := F0 m 12 ls []) rfl ?_
  exact tx_throw (own := "TapeSealer") (cls := "java/util/NoSuchElementException") (names := own_n) hx hb hl0 hown (by decide +kernel) (by decide +kernel) (hB _ hw_668) (hB _ hw_84) (hJ.own hB own_NSE own_NSEk) (hl.1.trans hml.symm) d_TS_delete_12 d_TS_delete_15 d_TS_delete_16 d_TS_delete_19 (tx_none (B.noHandlers (hts _ List.mem_cons_self)) _) (Nat.le_of_ble_eq_true rfl) (Nat.le_of_ble_eq_true rfl) (Nat.le_of_ble_eq_true rfl) (Nat.le_of_ble_eq_true rfl) hlocks (Nat.le_of_ble_eq_true rfl) (Nat.le_of_ble_eq_true rfl)
set_option maxHeartbeats 4000000 in
set_option maxRecDepth 100000 in
theorem t_TS_file (l : Launch) (hl0 : l.stackTraces = false) (dC : Nat → ClassId) (dI : Nat → Nat → Nat) (aS aT : Nat) (cS cT : Cell) (h0 : Nat) (q : Nat → Nat) (ci : Nat → ClassId) (p0 p1 : Int32) : tx_Met l y_TS_file w_TS_file ({ frames := 6, cells := 1, slots := 6, locals := 120 }) (va_Pc [.ref h0, .int p0, .int p1] (fun U => va_P (dC, dI) gx_cl (wTS h0 q ci) U.heap ∧ va_K (dC, dI) gx_cl (kTS ci) U ∧ jx aS aT cS cT U)) "java/util/NoSuchElementException" 1 6 := by
  refine tx_ofW (cc := b_TS_file) (maxL := 4) (ret := (some .int)) (by decide) rfl ?_
  intro p e s m args below meth c s₁ B hml hv
  obtain ⟨rfl, hP, hK, hJ⟩ := hv
  have hx := B.exec
  have hb := B.bytes
  have hr := B.returns
  have hts := atoms_spec (ws := w_TS_file) B.pre
  have hB : ∀ w ∈ gx_B, w.before _ s = true := fun w h => hts w (List.mem_cons_of_mem _ h)
  have hown : s.vm.findClass "TapeSealer" = some m.cls := findClass_of_methodNamed B.named
  have hlocks := B.notSynchronized
  have hl := lv_entry ([.ref h0, .int p0, .int p1]) (n := 4) (Nat.le_of_ble_eq_true rfl)
  rw [lg_entry_eq]
  generalize (lg_sl ([.ref h0, .int p0, .int p1]) ++ List.replicate (4 - (lg_sl ([.ref h0, .int p0, .int p1])).length) Slot.unset).toArray = ls at hl ⊢
  have hl : lv_has ls 4 [(0, .ref h0), (1, .int p0), (2, .int p1)] := hl
  refine lv_aload_n hx hb d_TS_file_0 rfl (lv_at hl 0 rfl) ?_
  refine px_go (va_runV (C := "TapeSealer") (As := []) (rest := []) ⟨hx, hb, hml, hown, hts⟩ (p_TS_lookAtHeaders l dC dI h0 q ci) (cwV 0 hts (gx_goodV hw_361 hw_363 hw_0 hw_66 k_TS_lookAtHeaders) rfl rfl rfl (by decide +kernel) ⟨(Nat.le_of_ble_eq_true rfl), (Nat.le_of_ble_eq_true rfl)⟩) ⟨fun a U g mk q => by obtain ⟨q0, qP, qK⟩ := q; exact ⟨q0, qP, va_K.moved (u := U) (U := U.calling g mk a) (Vm.Alike.refl U.vm) qK⟩, va_recv hK hP rfl (q0 := 0) rfl, fun U hU hW => ⟨rfl, by rw [hU]; exact hP, va_K.moved hW.alike (hK)⟩⟩ rfl rfl hl.1 rfl (lv_room (Nat.le_of_ble_eq_true rfl)) d_TS_file_1 ⟨(Nat.le_of_ble_eq_true rfl), (Nat.le_of_ble_eq_true rfl)⟩) ?_
  refine W.eq (g2 := F0 m 4 ls []) rfl ?_
  refine lv_aload_n hx hb d_TS_file_4 rfl (lv_at hl 0 rfl) ?_
  refine lv_iload_n hx hb d_TS_file_5 rfl (lv_at hl 1 rfl) ?_
  refine px_go (va_runV (C := "TapeSealer") (As := [.int p0]) (rest := []) ⟨hx, hb, hml, hown, hts⟩ (p_TS_exists l dC dI h0 q ci p0) (cwV 1 hts (gx_goodV hw_664 hw_666 hw_22 hw_66 k_TS_exists) rfl rfl rfl (by decide +kernel) ⟨(Nat.le_of_ble_eq_true rfl), (Nat.le_of_ble_eq_true rfl)⟩) ⟨fun a U g mk q => by obtain ⟨q0, qP, qK⟩ := q; exact ⟨q0, qP, va_K.moved (u := U) (U := U.calling g mk a) (Vm.Alike.refl U.vm) qK⟩, va_recv hK hP rfl (q0 := 0) rfl, fun U hU hW => ⟨rfl, by rw [hU]; exact hP, va_K.moved hW.alike (hK)⟩⟩ rfl rfl hl.1 rfl (lv_room (Nat.le_of_ble_eq_true rfl)) d_TS_file_6 ⟨(Nat.le_of_ble_eq_true rfl), (Nat.le_of_ble_eq_true rfl)⟩) ?_
  refine W.eq (g2 := F0 m 9 ls [.int 0]) rfl ?_
  refine lv_if_ne (tgt := 20) hx hb d_TS_file_9 (by decide) (fun h9 => absurd (by decide) h9) (fun _ => ?_)
  refine W.eq (g2 := F0 m 12 ls []) rfl ?_
  exact tx_throw (own := "TapeSealer") (cls := "java/util/NoSuchElementException") (names := own_n) hx hb hl0 hown (by decide +kernel) (by decide +kernel) (hB _ hw_668) (hB _ hw_84) (hJ.own hB own_NSE own_NSEk) (hl.1.trans hml.symm) d_TS_file_12 d_TS_file_15 d_TS_file_16 d_TS_file_19 (tx_none (B.noHandlers (hts _ List.mem_cons_self)) _) (Nat.le_of_ble_eq_true rfl) (Nat.le_of_ble_eq_true rfl) (Nat.le_of_ble_eq_true rfl) (Nat.le_of_ble_eq_true rfl) hlocks (Nat.le_of_ble_eq_true rfl) (Nat.le_of_ble_eq_true rfl)
set_option maxHeartbeats 4000000 in
set_option maxRecDepth 100000 in
theorem t_TS_dropEpoch (l : Launch) (hl0 : l.stackTraces = false) (dC : Nat → ClassId) (dI : Nat → Nat → Nat) (aS aT : Nat) (cS cT : Cell) (h0 : Nat) (q : Nat → Nat) (ci : Nat → ClassId) (p0 : Int32) : tx_Met l y_TS_dropEpoch w_TS_dropEpoch ({ frames := 6, cells := 1, slots := 6, locals := 120 }) (va_Pc [.ref h0, .int p0] (fun U => va_P (dC, dI) gx_cl (wTS h0 q ci) U.heap ∧ va_K (dC, dI) gx_cl (kTS ci) U ∧ jx aS aT cS cT U)) "java/lang/IllegalArgumentException" 1 6 := by
  refine tx_ofW (cc := b_TS_dropEpoch) (maxL := 2) (ret := none) (by decide) rfl ?_
  intro p e s m args below meth c s₁ B hml hv
  obtain ⟨rfl, hP, hK, hJ⟩ := hv
  have hx := B.exec
  have hb := B.bytes
  have hr := B.returns
  have hts := atoms_spec (ws := w_TS_dropEpoch) B.pre
  have hB : ∀ w ∈ gx_B, w.before _ s = true := fun w h => hts w (List.mem_cons_of_mem _ h)
  have hown : s.vm.findClass "TapeSealer" = some m.cls := findClass_of_methodNamed B.named
  have hlocks := B.notSynchronized
  have hl := lv_entry ([.ref h0, .int p0]) (n := 2) (Nat.le_of_ble_eq_true rfl)
  rw [lg_entry_eq]
  generalize (lg_sl ([.ref h0, .int p0]) ++ List.replicate (2 - (lg_sl ([.ref h0, .int p0])).length) Slot.unset).toArray = ls at hl ⊢
  have hl : lv_has ls 2 [(0, .ref h0), (1, .int p0)] := hl
  refine lv_aload_n hx hb d_TS_dropEpoch_0 rfl (lv_at hl 0 rfl) ?_
  refine va_get (D := (dC, dI)) (ci := 8) (v := .ref (q 3)) (C := RTS) (T := FTS) (N := 15) hx hb hB in_TS hown hK hP 0 rfl rfl 1 (by decide) (hB _ hw_308) (fun _ h9 => h9) rfl d_TS_dropEpoch_1 ?_
  refine lv_iload_n hx hb d_TS_dropEpoch_4 rfl (lv_at hl 1 rfl) ?_
  refine px_go (va_runV (C := "TapeSealer$Epochs") (As := [.int p0]) (rest := []) ⟨hx, hb, hml, hown, hts⟩ (p_Ep_known l dC dI (q 3) (q 4) (q 5) p0) (cwV 1 hts (gx_goodV hw_369 hw_370 hw_371 hw_68 k_Ep_known) rfl rfl rfl (by decide +kernel) ⟨(Nat.le_of_ble_eq_true rfl), (Nat.le_of_ble_eq_true rfl)⟩) ⟨fun a U g mk q => by obtain ⟨q0, qP, qK⟩ := q; exact ⟨q0, qP, va_K.moved (u := U) (U := U.calling g mk a) (Vm.Alike.refl U.vm) qK⟩, va_recv hK hP rfl (q0 := 4) rfl, fun U hU hW => ⟨rfl, by rw [hU]; exact hP.sub (ws' := [((q 3), .inr (3, [.ref (q 4), .ref (q 5), .int 0]))]) [4] rfl, va_K.moved hW.alike (hK.sub (tys' := []) [] rfl)⟩⟩ rfl rfl hl.1 rfl (lv_room (Nat.le_of_ble_eq_true rfl)) d_TS_dropEpoch_5 ⟨(Nat.le_of_ble_eq_true rfl), (Nat.le_of_ble_eq_true rfl)⟩) ?_
  refine W.eq (g2 := F0 m 8 ls [.int 0]) rfl ?_
  refine lv_if_eq (tgt := 22) hx hb d_TS_dropEpoch_8 (by decide) (fun _ => ?_) (fun h9 => absurd (by decide) h9)
  refine W.eq (g2 := F0 m 22 ls []) rfl ?_
  exact tx_throw (own := "TapeSealer") (cls := "java/lang/IllegalArgumentException") (names := own_n) hx hb hl0 hown (by decide +kernel) (by decide +kernel) (hB _ hw_683) (hB _ hw_85) (hJ.own hB own_IAE own_IAEk) (hl.1.trans hml.symm) d_TS_dropEpoch_22 d_TS_dropEpoch_25 d_TS_dropEpoch_26 d_TS_dropEpoch_29 (tx_none (B.noHandlers (hts _ List.mem_cons_self)) _) (Nat.le_of_ble_eq_true rfl) (Nat.le_of_ble_eq_true rfl) (Nat.le_of_ble_eq_true rfl) (Nat.le_of_ble_eq_true rfl) hlocks (Nat.le_of_ble_eq_true rfl) (Nat.le_of_ble_eq_true rfl)
set_option maxHeartbeats 4000000 in
set_option maxRecDepth 100000 in
theorem t_TS_scrub (l : Launch) (hl0 : l.stackTraces = false) (dC : Nat → ClassId) (dI : Nat → Nat → Nat) (aS aT : Nat) (cS cT : Cell) (h0 : Nat) (q : Nat → Nat) (ci : Nat → ClassId) (p0 : Int32) (h : p0 < 0 ∨ 6 ≤ p0) : tx_Met l y_TS_scrub w_TS_scrub ({ frames := 6, cells := 1, slots := 6, locals := 120 }) (va_Pc [.ref h0, .int p0] (fun U => va_P (dC, dI) gx_cl (wTS h0 q ci) U.heap ∧ va_K (dC, dI) gx_cl (kTS ci) U ∧ jx aS aT cS cT U)) "java/lang/IllegalArgumentException" 1 6 := by
  refine tx_ofW (cc := b_TS_scrub) (maxL := 6) (ret := (some .int)) (by decide) rfl ?_
  intro p e s m args below meth c s₁ B hml hv
  obtain ⟨rfl, hP, hK, hJ⟩ := hv
  have hx := B.exec
  have hb := B.bytes
  have hr := B.returns
  have hts := atoms_spec (ws := w_TS_scrub) B.pre
  have hB : ∀ w ∈ gx_B, w.before _ s = true := fun w h => hts w (List.mem_cons_of_mem _ h)
  have hown : s.vm.findClass "TapeSealer" = some m.cls := findClass_of_methodNamed B.named
  have hlocks := B.notSynchronized
  have hl := lv_entry ([.ref h0, .int p0]) (n := 6) (Nat.le_of_ble_eq_true rfl)
  rw [lg_entry_eq]
  generalize (lg_sl ([.ref h0, .int p0]) ++ List.replicate (6 - (lg_sl ([.ref h0, .int p0])).length) Slot.unset).toArray = ls at hl ⊢
  have hl : lv_has ls 6 [(0, .ref h0), (1, .int p0)] := hl
  rcases h with hi | hi
  · refine lv_iload_n hx hb d_TS_scrub_0 rfl (lv_at hl 1 rfl) ?_
    refine lv_if_lt (tgt := 10) hx hb d_TS_scrub_1 (by decide) (fun _ => ?_) (fun h9 => absurd hi h9)
    refine W.eq (g2 := F0 m 10 ls []) rfl ?_
    exact tx_throw (own := "TapeSealer") (cls := "java/lang/IllegalArgumentException") (names := own_n) hx hb hl0 hown (by decide +kernel) (by decide +kernel) (hB _ hw_683) (hB _ hw_85) (hJ.own hB own_IAE own_IAEk) (hl.1.trans hml.symm) d_TS_scrub_10 d_TS_scrub_13 d_TS_scrub_14 d_TS_scrub_17 (tx_none (B.noHandlers (hts _ List.mem_cons_self)) _) (Nat.le_of_ble_eq_true rfl) (Nat.le_of_ble_eq_true rfl) (Nat.le_of_ble_eq_true rfl) (Nat.le_of_ble_eq_true rfl) hlocks (Nat.le_of_ble_eq_true rfl) (Nat.le_of_ble_eq_true rfl)
  · refine lv_iload_n hx hb d_TS_scrub_0 rfl (lv_at hl 1 rfl) ?_
    refine lv_if_lt (tgt := 10) hx hb d_TS_scrub_1 (by decide) (fun h9 => absurd h9 (gx_nlt6 hi)) (fun _ => ?_)
    refine lv_iload_n hx hb d_TS_scrub_4 rfl (lv_at hl 1 rfl) ?_
    refine lv_bipush (v := 6) hx hb d_TS_scrub_5 (by decide) ?_
    refine lv_icmp_lt (tgt := 18) hx hb d_TS_scrub_7 (by decide) (fun h9 => absurd h9 (gx_nlt6b hi)) (fun _ => ?_)
    refine W.eq (g2 := F0 m 10 ls []) rfl ?_
    exact tx_throw (own := "TapeSealer") (cls := "java/lang/IllegalArgumentException") (names := own_n) hx hb hl0 hown (by decide +kernel) (by decide +kernel) (hB _ hw_683) (hB _ hw_85) (hJ.own hB own_IAE own_IAEk) (hl.1.trans hml.symm) d_TS_scrub_10 d_TS_scrub_13 d_TS_scrub_14 d_TS_scrub_17 (tx_none (B.noHandlers (hts _ List.mem_cons_self)) _) (Nat.le_of_ble_eq_true rfl) (Nat.le_of_ble_eq_true rfl) (Nat.le_of_ble_eq_true rfl) (Nat.le_of_ble_eq_true rfl) hlocks (Nat.le_of_ble_eq_true rfl) (Nat.le_of_ble_eq_true rfl)
set_option maxHeartbeats 4000000 in
set_option maxRecDepth 100000 in
theorem t_TS_damage_b (l : Launch) (hl0 : l.stackTraces = false) (dC : Nat → ClassId) (dI : Nat → Nat → Nat) (aS aT : Nat) (cS cT : Cell) (h0 : Nat) (q : Nat → Nat) (ci : Nat → ClassId) (p0 p1 p2 : Int32) (h : p0 < 0 ∨ 44 ≤ p0 ∨ p1 < 0 ∨ 64 ≤ p1) : tx_Met l y_TS_damage w_TS_damage ({ frames := 6, cells := 1, slots := 6, locals := 120 }) (va_Pc [.ref h0, .int p0, .int p1, .int p2] (fun U => va_P (dC, dI) gx_cl (wTS h0 q ci) U.heap ∧ va_K (dC, dI) gx_cl (kTS ci) U ∧ jx aS aT cS cT U)) "java/lang/IllegalArgumentException" 1 6 := by
  refine tx_ofW (cc := b_TS_damage) (maxL := 4) (ret := none) (by decide) rfl ?_
  intro p e s m args below meth c s₁ B hml hv
  obtain ⟨rfl, hP, hK, hJ⟩ := hv
  have hx := B.exec
  have hb := B.bytes
  have hr := B.returns
  have hts := atoms_spec (ws := w_TS_damage) B.pre
  have hB : ∀ w ∈ gx_B, w.before _ s = true := fun w h => hts w (List.mem_cons_of_mem _ h)
  have hown : s.vm.findClass "TapeSealer" = some m.cls := findClass_of_methodNamed B.named
  have hlocks := B.notSynchronized
  have hl := lv_entry ([.ref h0, .int p0, .int p1, .int p2]) (n := 4) (Nat.le_of_ble_eq_true rfl)
  rw [lg_entry_eq]
  generalize (lg_sl ([.ref h0, .int p0, .int p1, .int p2]) ++ List.replicate (4 - (lg_sl ([.ref h0, .int p0, .int p1, .int p2])).length) Slot.unset).toArray = ls at hl ⊢
  have hl : lv_has ls 4 [(0, .ref h0), (1, .int p0), (2, .int p1), (3, .int p2)] := hl
  refine lv_iload_n hx hb d_TS_damage_0 rfl (lv_at hl 1 rfl) ?_
  refine lv_iload_n hx hb d_TS_damage_1 rfl (lv_at hl 2 rfl) ?_
  refine px_go (va_runS (As := [.int p0, .int p1]) (rest := []) ⟨hx, hb, hml, hown, hts⟩ (p_TS_isByte0 l p0 p1 h) (cwS 2 hts (gx_goodS hw_841 hw_842 hw_66 k_TS_isByte) rfl rfl rfl (by decide +kernel) ⟨(Nat.le_of_ble_eq_true rfl), (Nat.le_of_ble_eq_true rfl)⟩) ⟨fun a U g mk q => q, fun U hU hW => ⟨rfl, trivial⟩⟩ rfl rfl hl.1 rfl (lv_room (Nat.le_of_ble_eq_true rfl)) d_TS_damage_2 ⟨(Nat.le_of_ble_eq_true rfl), (Nat.le_of_ble_eq_true rfl)⟩) ?_
  refine W.eq (g2 := F0 m 5 ls [.int 0]) rfl ?_
  refine lv_if_eq (tgt := 19) hx hb d_TS_damage_5 (by decide) (fun _ => ?_) (fun h9 => absurd (by decide) h9)
  refine W.eq (g2 := F0 m 19 ls []) rfl ?_
  exact tx_throw (own := "TapeSealer") (cls := "java/lang/IllegalArgumentException") (names := own_n) hx hb hl0 hown (by decide +kernel) (by decide +kernel) (hB _ hw_683) (hB _ hw_85) (hJ.own hB own_IAE own_IAEk) (hl.1.trans hml.symm) d_TS_damage_19 d_TS_damage_22 d_TS_damage_23 d_TS_damage_26 (tx_none (B.noHandlers (hts _ List.mem_cons_self)) _) (Nat.le_of_ble_eq_true rfl) (Nat.le_of_ble_eq_true rfl) (Nat.le_of_ble_eq_true rfl) (Nat.le_of_ble_eq_true rfl) hlocks (Nat.le_of_ble_eq_true rfl) (Nat.le_of_ble_eq_true rfl)
set_option maxHeartbeats 4000000 in
set_option maxRecDepth 100000 in
theorem t_TS_damage_m (l : Launch) (hl0 : l.stackTraces = false) (dC : Nat → ClassId) (dI : Nat → Nat → Nat) (aS aT : Nat) (cS cT : Cell) (h0 : Nat) (q : Nat → Nat) (ci : Nat → ClassId) (p0 p1 p2 : Int32) (h1 : ¬ p0 < 0) (h2 : ¬ 44 ≤ p0) (h3 : ¬ p1 < 0) (h4 : ¬ 64 ≤ p1) (h : p2 < 0 ∨ 255 < p2) : tx_Met l y_TS_damage w_TS_damage ({ frames := 6, cells := 1, slots := 6, locals := 120 }) (va_Pc [.ref h0, .int p0, .int p1, .int p2] (fun U => va_P (dC, dI) gx_cl (wTS h0 q ci) U.heap ∧ va_K (dC, dI) gx_cl (kTS ci) U ∧ jx aS aT cS cT U)) "java/lang/IllegalArgumentException" 1 6 := by
  refine tx_ofW (cc := b_TS_damage) (maxL := 4) (ret := none) (by decide) rfl ?_
  intro p e s m args below meth c s₁ B hml hv
  obtain ⟨rfl, hP, hK, hJ⟩ := hv
  have hx := B.exec
  have hb := B.bytes
  have hr := B.returns
  have hts := atoms_spec (ws := w_TS_damage) B.pre
  have hB : ∀ w ∈ gx_B, w.before _ s = true := fun w h => hts w (List.mem_cons_of_mem _ h)
  have hown : s.vm.findClass "TapeSealer" = some m.cls := findClass_of_methodNamed B.named
  have hlocks := B.notSynchronized
  have hl := lv_entry ([.ref h0, .int p0, .int p1, .int p2]) (n := 4) (Nat.le_of_ble_eq_true rfl)
  rw [lg_entry_eq]
  generalize (lg_sl ([.ref h0, .int p0, .int p1, .int p2]) ++ List.replicate (4 - (lg_sl ([.ref h0, .int p0, .int p1, .int p2])).length) Slot.unset).toArray = ls at hl ⊢
  have hl : lv_has ls 4 [(0, .ref h0), (1, .int p0), (2, .int p1), (3, .int p2)] := hl
  rcases h with hi | hi
  · refine lv_iload_n hx hb d_TS_damage_0 rfl (lv_at hl 1 rfl) ?_
    refine lv_iload_n hx hb d_TS_damage_1 rfl (lv_at hl 2 rfl) ?_
    refine px_go (va_runS (As := [.int p0, .int p1]) (rest := []) ⟨hx, hb, hml, hown, hts⟩ (p_TS_isByte1 l p0 p1 h1 h2 h3 h4) (cwS 2 hts (gx_goodS hw_841 hw_842 hw_66 k_TS_isByte) rfl rfl rfl (by decide +kernel) ⟨(Nat.le_of_ble_eq_true rfl), (Nat.le_of_ble_eq_true rfl)⟩) ⟨fun a U g mk q => q, fun U hU hW => ⟨rfl, trivial⟩⟩ rfl rfl hl.1 rfl (lv_room (Nat.le_of_ble_eq_true rfl)) d_TS_damage_2 ⟨(Nat.le_of_ble_eq_true rfl), (Nat.le_of_ble_eq_true rfl)⟩) ?_
    refine W.eq (g2 := F0 m 5 ls [.int 1]) rfl ?_
    refine lv_if_eq (tgt := 19) hx hb d_TS_damage_5 (by decide) (fun h9 => absurd h9 (by decide)) (fun _ => ?_)
    refine lv_iload_n hx hb d_TS_damage_8 rfl (lv_at hl 3 rfl) ?_
    refine lv_if_lt (tgt := 19) hx hb d_TS_damage_9 (by decide) (fun _ => ?_) (fun h9 => absurd hi h9)
    refine W.eq (g2 := F0 m 19 ls []) rfl ?_
    exact tx_throw (own := "TapeSealer") (cls := "java/lang/IllegalArgumentException") (names := own_n) hx hb hl0 hown (by decide +kernel) (by decide +kernel) (hB _ hw_683) (hB _ hw_85) (hJ.own hB own_IAE own_IAEk) (hl.1.trans hml.symm) d_TS_damage_19 d_TS_damage_22 d_TS_damage_23 d_TS_damage_26 (tx_none (B.noHandlers (hts _ List.mem_cons_self)) _) (Nat.le_of_ble_eq_true rfl) (Nat.le_of_ble_eq_true rfl) (Nat.le_of_ble_eq_true rfl) (Nat.le_of_ble_eq_true rfl) hlocks (Nat.le_of_ble_eq_true rfl) (Nat.le_of_ble_eq_true rfl)
  · refine lv_iload_n hx hb d_TS_damage_0 rfl (lv_at hl 1 rfl) ?_
    refine lv_iload_n hx hb d_TS_damage_1 rfl (lv_at hl 2 rfl) ?_
    refine px_go (va_runS (As := [.int p0, .int p1]) (rest := []) ⟨hx, hb, hml, hown, hts⟩ (p_TS_isByte1 l p0 p1 h1 h2 h3 h4) (cwS 2 hts (gx_goodS hw_841 hw_842 hw_66 k_TS_isByte) rfl rfl rfl (by decide +kernel) ⟨(Nat.le_of_ble_eq_true rfl), (Nat.le_of_ble_eq_true rfl)⟩) ⟨fun a U g mk q => q, fun U hU hW => ⟨rfl, trivial⟩⟩ rfl rfl hl.1 rfl (lv_room (Nat.le_of_ble_eq_true rfl)) d_TS_damage_2 ⟨(Nat.le_of_ble_eq_true rfl), (Nat.le_of_ble_eq_true rfl)⟩) ?_
    refine W.eq (g2 := F0 m 5 ls [.int 1]) rfl ?_
    refine lv_if_eq (tgt := 19) hx hb d_TS_damage_5 (by decide) (fun h9 => absurd h9 (by decide)) (fun _ => ?_)
    refine lv_iload_n hx hb d_TS_damage_8 rfl (lv_at hl 3 rfl) ?_
    refine lv_if_lt (tgt := 19) hx hb d_TS_damage_9 (by decide) (fun h9 => absurd h9 (gx_nlt255 hi)) (fun _ => ?_)
    refine lv_iload_n hx hb d_TS_damage_12 rfl (lv_at hl 3 rfl) ?_
    refine lv_sipush (v := 255) hx hb d_TS_damage_13 (by decide) ?_
    refine lv_icmp_le (tgt := 27) hx hb d_TS_damage_16 (by decide) (fun h9 => absurd h9 (gx_nle255 hi)) (fun _ => ?_)
    refine W.eq (g2 := F0 m 19 ls []) rfl ?_
    exact tx_throw (own := "TapeSealer") (cls := "java/lang/IllegalArgumentException") (names := own_n) hx hb hl0 hown (by decide +kernel) (by decide +kernel) (hB _ hw_683) (hB _ hw_85) (hJ.own hB own_IAE own_IAEk) (hl.1.trans hml.symm) d_TS_damage_19 d_TS_damage_22 d_TS_damage_23 d_TS_damage_26 (tx_none (B.noHandlers (hts _ List.mem_cons_self)) _) (Nat.le_of_ble_eq_true rfl) (Nat.le_of_ble_eq_true rfl) (Nat.le_of_ble_eq_true rfl) (Nat.le_of_ble_eq_true rfl) hlocks (Nat.le_of_ble_eq_true rfl) (Nat.le_of_ble_eq_true rfl)
set_option maxHeartbeats 4000000 in
set_option maxRecDepth 100000 in
theorem t_TS_spoil (l : Launch) (hl0 : l.stackTraces = false) (dC : Nat → ClassId) (dI : Nat → Nat → Nat) (aS aT : Nat) (cS cT : Cell) (h0 : Nat) (q : Nat → Nat) (ci : Nat → ClassId) (p0 : Int32) (h : p0 < 0 ∨ 44 ≤ p0) : tx_Met l y_TS_spoil w_TS_spoil ({ frames := 6, cells := 1, slots := 6, locals := 120 }) (va_Pc [.ref h0, .int p0] (fun U => va_P (dC, dI) gx_cl (wTS h0 q ci) U.heap ∧ va_K (dC, dI) gx_cl (kTS ci) U ∧ jx aS aT cS cT U)) "java/lang/IllegalArgumentException" 1 6 := by
  refine tx_ofW (cc := b_TS_spoil) (maxL := 2) (ret := none) (by decide) rfl ?_
  intro p e s m args below meth c s₁ B hml hv
  obtain ⟨rfl, hP, hK, hJ⟩ := hv
  have hx := B.exec
  have hb := B.bytes
  have hr := B.returns
  have hts := atoms_spec (ws := w_TS_spoil) B.pre
  have hB : ∀ w ∈ gx_B, w.before _ s = true := fun w h => hts w (List.mem_cons_of_mem _ h)
  have hown : s.vm.findClass "TapeSealer" = some m.cls := findClass_of_methodNamed B.named
  have hlocks := B.notSynchronized
  have hl := lv_entry ([.ref h0, .int p0]) (n := 2) (Nat.le_of_ble_eq_true rfl)
  rw [lg_entry_eq]
  generalize (lg_sl ([.ref h0, .int p0]) ++ List.replicate (2 - (lg_sl ([.ref h0, .int p0])).length) Slot.unset).toArray = ls at hl ⊢
  have hl : lv_has ls 2 [(0, .ref h0), (1, .int p0)] := hl
  refine lv_iload_n hx hb d_TS_spoil_0 rfl (lv_at hl 1 rfl) ?_
  refine lv_iconst (v := 0) hx hb d_TS_spoil_1 (by decide) ?_
  refine px_go (va_runS (As := [.int p0, .int 0]) (rest := []) ⟨hx, hb, hml, hown, hts⟩ (p_TS_isByte0 l p0 0 (gx_o2 h)) (cwS 2 hts (gx_goodS hw_841 hw_842 hw_66 k_TS_isByte) rfl rfl rfl (by decide +kernel) ⟨(Nat.le_of_ble_eq_true rfl), (Nat.le_of_ble_eq_true rfl)⟩) ⟨fun a U g mk q => q, fun U hU hW => ⟨rfl, trivial⟩⟩ rfl rfl hl.1 rfl (lv_room (Nat.le_of_ble_eq_true rfl)) d_TS_spoil_2 ⟨(Nat.le_of_ble_eq_true rfl), (Nat.le_of_ble_eq_true rfl)⟩) ?_
  refine W.eq (g2 := F0 m 5 ls [.int 0]) rfl ?_
  refine lv_if_ne (tgt := 16) hx hb d_TS_spoil_5 (by decide) (fun h9 => absurd (by decide) h9) (fun _ => ?_)
  refine W.eq (g2 := F0 m 8 ls []) rfl ?_
  exact tx_throw (own := "TapeSealer") (cls := "java/lang/IllegalArgumentException") (names := own_n) hx hb hl0 hown (by decide +kernel) (by decide +kernel) (hB _ hw_683) (hB _ hw_85) (hJ.own hB own_IAE own_IAEk) (hl.1.trans hml.symm) d_TS_spoil_8 d_TS_spoil_11 d_TS_spoil_12 d_TS_spoil_15 (tx_none (B.noHandlers (hts _ List.mem_cons_self)) _) (Nat.le_of_ble_eq_true rfl) (Nat.le_of_ble_eq_true rfl) (Nat.le_of_ble_eq_true rfl) (Nat.le_of_ble_eq_true rfl) hlocks (Nat.le_of_ble_eq_true rfl) (Nat.le_of_ble_eq_true rfl)
set_option maxHeartbeats 4000000 in
set_option maxRecDepth 100000 in
theorem t_TS_stopAfter (l : Launch) (hl0 : l.stackTraces = false) (dC : Nat → ClassId) (dI : Nat → Nat → Nat) (aS aT : Nat) (cS cT : Cell) (h0 : Nat) (q : Nat → Nat) (ci : Nat → ClassId) (p0 : Int32) (h : ¬ p0 ≤ 100) : tx_Met l y_TS_stopAfter w_TS_stopAfter ({ frames := 6, cells := 1, slots := 6, locals := 120 }) (va_Pc [.ref h0, .int p0] (fun U => va_P (dC, dI) gx_cl (wTS h0 q ci) U.heap ∧ va_K (dC, dI) gx_cl (kTS ci) U ∧ jx aS aT cS cT U)) "java/lang/IllegalArgumentException" 1 6 := by
  refine tx_ofW (cc := b_TS_stopAfter) (maxL := 2) (ret := none) (by decide) rfl ?_
  intro p e s m args below meth c s₁ B hml hv
  obtain ⟨rfl, hP, hK, hJ⟩ := hv
  have hx := B.exec
  have hb := B.bytes
  have hr := B.returns
  have hts := atoms_spec (ws := w_TS_stopAfter) B.pre
  have hB : ∀ w ∈ gx_B, w.before _ s = true := fun w h => hts w (List.mem_cons_of_mem _ h)
  have hown : s.vm.findClass "TapeSealer" = some m.cls := findClass_of_methodNamed B.named
  have hlocks := B.notSynchronized
  have hl := lv_entry ([.ref h0, .int p0]) (n := 2) (Nat.le_of_ble_eq_true rfl)
  rw [lg_entry_eq]
  generalize (lg_sl ([.ref h0, .int p0]) ++ List.replicate (2 - (lg_sl ([.ref h0, .int p0])).length) Slot.unset).toArray = ls at hl ⊢
  have hl : lv_has ls 2 [(0, .ref h0), (1, .int p0)] := hl
  refine lv_iload_n hx hb d_TS_stopAfter_0 rfl (lv_at hl 1 rfl) ?_
  refine lv_bipush (v := 100) hx hb d_TS_stopAfter_1 (by decide) ?_
  refine lv_icmp_le (tgt := 14) hx hb d_TS_stopAfter_3 (by decide) (fun h9 => absurd h9 h) (fun _ => ?_)
  refine W.eq (g2 := F0 m 6 ls []) rfl ?_
  exact tx_throw (own := "TapeSealer") (cls := "java/lang/IllegalArgumentException") (names := own_n) hx hb hl0 hown (by decide +kernel) (by decide +kernel) (hB _ hw_683) (hB _ hw_85) (hJ.own hB own_IAE own_IAEk) (hl.1.trans hml.symm) d_TS_stopAfter_6 d_TS_stopAfter_9 d_TS_stopAfter_10 d_TS_stopAfter_13 (tx_none (B.noHandlers (hts _ List.mem_cons_self)) _) (Nat.le_of_ble_eq_true rfl) (Nat.le_of_ble_eq_true rfl) (Nat.le_of_ble_eq_true rfl) (Nat.le_of_ble_eq_true rfl) hlocks (Nat.le_of_ble_eq_true rfl) (Nat.le_of_ble_eq_true rfl)
set_option maxHeartbeats 4000000 in
set_option maxRecDepth 100000 in
theorem t_TS_block (l : Launch) (hl0 : l.stackTraces = false) (dC : Nat → ClassId) (dI : Nat → Nat → Nat) (aS aT : Nat) (cS cT : Cell) (h0 : Nat) (q : Nat → Nat) (ci : Nat → ClassId) (p0 p1 : Int32) (h : p0 < 0 ∨ 44 ≤ p0 ∨ p1 < 0 ∨ 64 ≤ p1) : tx_Met l y_TS_block w_TS_block ({ frames := 6, cells := 1, slots := 6, locals := 120 }) (va_Pc [.ref h0, .int p0, .int p1] (fun U => va_P (dC, dI) gx_cl (wTS h0 q ci) U.heap ∧ va_K (dC, dI) gx_cl (kTS ci) U ∧ jx aS aT cS cT U)) "java/lang/IllegalArgumentException" 1 6 := by
  refine tx_ofW (cc := b_TS_block) (maxL := 3) (ret := (some .int)) (by decide) rfl ?_
  intro p e s m args below meth c s₁ B hml hv
  obtain ⟨rfl, hP, hK, hJ⟩ := hv
  have hx := B.exec
  have hb := B.bytes
  have hr := B.returns
  have hts := atoms_spec (ws := w_TS_block) B.pre
  have hB : ∀ w ∈ gx_B, w.before _ s = true := fun w h => hts w (List.mem_cons_of_mem _ h)
  have hown : s.vm.findClass "TapeSealer" = some m.cls := findClass_of_methodNamed B.named
  have hlocks := B.notSynchronized
  have hl := lv_entry ([.ref h0, .int p0, .int p1]) (n := 3) (Nat.le_of_ble_eq_true rfl)
  rw [lg_entry_eq]
  generalize (lg_sl ([.ref h0, .int p0, .int p1]) ++ List.replicate (3 - (lg_sl ([.ref h0, .int p0, .int p1])).length) Slot.unset).toArray = ls at hl ⊢
  have hl : lv_has ls 3 [(0, .ref h0), (1, .int p0), (2, .int p1)] := hl
  refine lv_iload_n hx hb d_TS_block_0 rfl (lv_at hl 1 rfl) ?_
  refine lv_iload_n hx hb d_TS_block_1 rfl (lv_at hl 2 rfl) ?_
  refine px_go (va_runS (As := [.int p0, .int p1]) (rest := []) ⟨hx, hb, hml, hown, hts⟩ (p_TS_isByte0 l p0 p1 h) (cwS 2 hts (gx_goodS hw_841 hw_842 hw_66 k_TS_isByte) rfl rfl rfl (by decide +kernel) ⟨(Nat.le_of_ble_eq_true rfl), (Nat.le_of_ble_eq_true rfl)⟩) ⟨fun a U g mk q => q, fun U hU hW => ⟨rfl, trivial⟩⟩ rfl rfl hl.1 rfl (lv_room (Nat.le_of_ble_eq_true rfl)) d_TS_block_2 ⟨(Nat.le_of_ble_eq_true rfl), (Nat.le_of_ble_eq_true rfl)⟩) ?_
  refine W.eq (g2 := F0 m 5 ls [.int 0]) rfl ?_
  refine lv_if_ne (tgt := 16) hx hb d_TS_block_5 (by decide) (fun h9 => absurd (by decide) h9) (fun _ => ?_)
  refine W.eq (g2 := F0 m 8 ls []) rfl ?_
  exact tx_throw (own := "TapeSealer") (cls := "java/lang/IllegalArgumentException") (names := own_n) hx hb hl0 hown (by decide +kernel) (by decide +kernel) (hB _ hw_683) (hB _ hw_85) (hJ.own hB own_IAE own_IAEk) (hl.1.trans hml.symm) d_TS_block_8 d_TS_block_11 d_TS_block_12 d_TS_block_15 (tx_none (B.noHandlers (hts _ List.mem_cons_self)) _) (Nat.le_of_ble_eq_true rfl) (Nat.le_of_ble_eq_true rfl) (Nat.le_of_ble_eq_true rfl) (Nat.le_of_ble_eq_true rfl) hlocks (Nat.le_of_ble_eq_true rfl) (Nat.le_of_ble_eq_true rfl)
set_option maxHeartbeats 4000000 in
set_option maxRecDepth 100000 in
theorem t_TS_state (l : Launch) (hl0 : l.stackTraces = false) (dC : Nat → ClassId) (dI : Nat → Nat → Nat) (aS aT : Nat) (cS cT : Cell) (h0 : Nat) (q : Nat → Nat) (ci : Nat → ClassId) (p0 : Int32) (h : p0.toInt < 0 ∨ 5 < p0.toInt) : tx_Met l y_TS_state w_TS_state ({ frames := 6, cells := 1, slots := 6, locals := 120 }) (va_Pc [.ref h0, .int p0] (fun U => va_P (dC, dI) gx_cl (wTS h0 q ci) U.heap ∧ va_K (dC, dI) gx_cl (kTS ci) U ∧ jx aS aT cS cT U)) "java/lang/IllegalArgumentException" 1 6 := by
  refine tx_ofW (cc := b_TS_state) (maxL := 2) (ret := (some .int)) (by decide) rfl ?_
  intro p e s m args below meth c s₁ B hml hv
  obtain ⟨rfl, hP, hK, hJ⟩ := hv
  have hx := B.exec
  have hb := B.bytes
  have hr := B.returns
  have hts := atoms_spec (ws := w_TS_state) B.pre
  have hB : ∀ w ∈ gx_B, w.before _ s = true := fun w h => hts w (List.mem_cons_of_mem _ h)
  have hown : s.vm.findClass "TapeSealer" = some m.cls := findClass_of_methodNamed B.named
  have hlocks := B.notSynchronized
  have hl := lv_entry ([.ref h0, .int p0]) (n := 2) (Nat.le_of_ble_eq_true rfl)
  rw [lg_entry_eq]
  generalize (lg_sl ([.ref h0, .int p0]) ++ List.replicate (2 - (lg_sl ([.ref h0, .int p0])).length) Slot.unset).toArray = ls at hl ⊢
  have hl : lv_has ls 2 [(0, .ref h0), (1, .int p0)] := hl
  refine lv_aload_n hx hb d_TS_state_0 rfl (lv_at hl 0 rfl) ?_
  refine px_go (va_runV (C := "TapeSealer") (As := []) (rest := []) ⟨hx, hb, hml, hown, hts⟩ (p_TS_lookAtHeaders l dC dI h0 q ci) (cwV 0 hts (gx_goodV hw_361 hw_363 hw_0 hw_66 k_TS_lookAtHeaders) rfl rfl rfl (by decide +kernel) ⟨(Nat.le_of_ble_eq_true rfl), (Nat.le_of_ble_eq_true rfl)⟩) ⟨fun a U g mk q => by obtain ⟨q0, qP, qK⟩ := q; exact ⟨q0, qP, va_K.moved (u := U) (U := U.calling g mk a) (Vm.Alike.refl U.vm) qK⟩, va_recv hK hP rfl (q0 := 0) rfl, fun U hU hW => ⟨rfl, by rw [hU]; exact hP, va_K.moved hW.alike (hK)⟩⟩ rfl rfl hl.1 rfl (lv_room (Nat.le_of_ble_eq_true rfl)) d_TS_state_1 ⟨(Nat.le_of_ble_eq_true rfl), (Nat.le_of_ble_eq_true rfl)⟩) ?_
  refine W.eq (g2 := F0 m 4 ls []) rfl ?_
  refine lv_iload_n hx hb d_TS_state_4 rfl (lv_at hl 1 rfl) ?_
  refine lv_tableOut (tgt := 91) hx hb d_TS_state_5 h (by decide) ?_
  refine W.eq (g2 := F0 m 91 ls []) rfl ?_
  exact tx_throw (own := "TapeSealer") (cls := "java/lang/IllegalArgumentException") (names := own_n) hx hb hl0 hown (by decide +kernel) (by decide +kernel) (hB _ hw_683) (hB _ hw_85) (hJ.own hB own_IAE own_IAEk) (hl.1.trans hml.symm) d_TS_state_91 d_TS_state_94 d_TS_state_95 d_TS_state_98 (tx_none (B.noHandlers (hts _ List.mem_cons_self)) _) (Nat.le_of_ble_eq_true rfl) (Nat.le_of_ble_eq_true rfl) (Nat.le_of_ble_eq_true rfl) (Nat.le_of_ble_eq_true rfl) hlocks (Nat.le_of_ble_eq_true rfl) (Nat.le_of_ble_eq_true rfl)
set_option maxHeartbeats 4000000 in
set_option maxRecDepth 100000 in
theorem p_TS_state0 (l : Launch) (dC : Nat → ClassId) (dI : Nat → Nat → Nat) (h0 : Nat) (q : Nat → Nat) (ci : Nat → ClassId) : Met l y_TS_state w_TS_state ({ frames := 1, cells := 0, slots := 0, locals := 22 }) (va_Pc [.ref h0, .int 0] (fun U => va_P (dC, dI) gx_cl (wTS h0 q ci) U.heap ∧ va_K (dC, dI) gx_cl (kTS ci) U)) (px_Q (some (.int 0))) 0 0 (fun _ => False) := by
  refine Met.ofW (cc := b_TS_state) (maxL := 2) (ret := (some .int)) (by decide) rfl ?_
  intro p e s m args below meth c s₁ B hml hv
  obtain ⟨rfl, hP, hK⟩ := hv
  have hx := B.exec
  have hb := B.bytes
  have hr := B.returns
  have hts := atoms_spec (ws := w_TS_state) B.pre
  have hB : ∀ w ∈ gx_B, w.before _ s = true := fun w h => hts w (List.mem_cons_of_mem _ h)
  have hown : s.vm.findClass "TapeSealer" = some m.cls := findClass_of_methodNamed B.named
  have hlocks := B.notSynchronized
  have hl := lv_entry ([.ref h0, .int 0]) (n := 2) (Nat.le_of_ble_eq_true rfl)
  rw [lg_entry_eq]
  generalize (lg_sl ([.ref h0, .int 0]) ++ List.replicate (2 - (lg_sl ([.ref h0, .int 0])).length) Slot.unset).toArray = ls at hl ⊢
  have hl : lv_has ls 2 [(0, .ref h0), (1, .int 0)] := hl
  refine lv_aload_n hx hb d_TS_state_0 rfl (lv_at hl 0 rfl) ?_
  refine px_go (va_runV (C := "TapeSealer") (As := []) (rest := []) ⟨hx, hb, hml, hown, hts⟩ (p_TS_lookAtHeaders l dC dI h0 q ci) (cwV 0 hts (gx_goodV hw_361 hw_363 hw_0 hw_66 k_TS_lookAtHeaders) rfl rfl rfl (by decide +kernel) ⟨(Nat.le_of_ble_eq_true rfl), (Nat.le_of_ble_eq_true rfl)⟩) ⟨fun a U g mk q => by obtain ⟨q0, qP, qK⟩ := q; exact ⟨q0, qP, va_K.moved (u := U) (U := U.calling g mk a) (Vm.Alike.refl U.vm) qK⟩, va_recv hK hP rfl (q0 := 0) rfl, fun U hU hW => ⟨rfl, by rw [hU]; exact hP, va_K.moved hW.alike (hK)⟩⟩ rfl rfl hl.1 rfl (lv_room (Nat.le_of_ble_eq_true rfl)) d_TS_state_1 ⟨(Nat.le_of_ble_eq_true rfl), (Nat.le_of_ble_eq_true rfl)⟩) ?_
  refine W.eq (g2 := F0 m 4 ls []) rfl ?_
  refine lv_iload_n hx hb d_TS_state_4 rfl (lv_at hl 1 rfl) ?_
  refine lv_tableIn (off := 39) (tgt := 44) hx hb d_TS_state_5 (by decide) (by decide) rfl (by decide) ?_
  refine lv_aload_n hx hb d_TS_state_44 rfl (lv_at hl 0 rfl) ?_
  refine px_go (va_runV (C := "TapeSealer") (As := []) (rest := []) ⟨hx, hb, hml, hown, hts⟩ (p_TS_countFiles l dC dI h0 q ci) (cwV 0 hts (gx_goodV hw_458 hw_460 hw_10 hw_66 k_TS_countFiles) rfl rfl rfl (by decide +kernel) ⟨(Nat.le_of_ble_eq_true rfl), (Nat.le_of_ble_eq_true rfl)⟩) ⟨fun a U g mk q => by obtain ⟨q0, qP, qK⟩ := q; exact ⟨q0, qP, va_K.moved (u := U) (U := U.calling g mk a) (Vm.Alike.refl U.vm) qK⟩, va_recv hK hP rfl (q0 := 0) rfl, fun U hU hW => ⟨rfl, by rw [hU]; exact hP, va_K.moved hW.alike (hK)⟩⟩ rfl rfl hl.1 rfl (lv_room (Nat.le_of_ble_eq_true rfl)) d_TS_state_45 ⟨(Nat.le_of_ble_eq_true rfl), (Nat.le_of_ble_eq_true rfl)⟩) ?_
  refine W.eq (g2 := F0 m 48 ls [.int 0]) rfl ?_
  exact W.iret (v := 0) hx hb hr (fun t ht _ => ⟨rfl, ht⟩) (fun _ h => nomatch h) d_TS_state_48
set_option maxHeartbeats 4000000 in
set_option maxRecDepth 100000 in
theorem p_TS_state1 (l : Launch) (dC : Nat → ClassId) (dI : Nat → Nat → Nat) (h0 : Nat) (q : Nat → Nat) (ci : Nat → ClassId) : Met l y_TS_state w_TS_state ({ frames := 3, cells := 0, slots := 0, locals := 65 }) (va_Pc [.ref h0, .int 1] (fun U => va_P (dC, dI) gx_cl (wTS h0 q ci) U.heap ∧ va_K (dC, dI) gx_cl (kTS ci) U)) (px_Q (some (.int 6))) 0 0 (fun _ => False) := by
  refine Met.ofW (cc := b_TS_state) (maxL := 2) (ret := (some .int)) (by decide) rfl ?_
  intro p e s m args below meth c s₁ B hml hv
  obtain ⟨rfl, hP, hK⟩ := hv
  have hx := B.exec
  have hb := B.bytes
  have hr := B.returns
  have hts := atoms_spec (ws := w_TS_state) B.pre
  have hB : ∀ w ∈ gx_B, w.before _ s = true := fun w h => hts w (List.mem_cons_of_mem _ h)
  have hown : s.vm.findClass "TapeSealer" = some m.cls := findClass_of_methodNamed B.named
  have hlocks := B.notSynchronized
  have hl := lv_entry ([.ref h0, .int 1]) (n := 2) (Nat.le_of_ble_eq_true rfl)
  rw [lg_entry_eq]
  generalize (lg_sl ([.ref h0, .int 1]) ++ List.replicate (2 - (lg_sl ([.ref h0, .int 1])).length) Slot.unset).toArray = ls at hl ⊢
  have hl : lv_has ls 2 [(0, .ref h0), (1, .int 1)] := hl
  refine lv_aload_n hx hb d_TS_state_0 rfl (lv_at hl 0 rfl) ?_
  refine px_go (va_runV (C := "TapeSealer") (As := []) (rest := []) ⟨hx, hb, hml, hown, hts⟩ (p_TS_lookAtHeaders l dC dI h0 q ci) (cwV 0 hts (gx_goodV hw_361 hw_363 hw_0 hw_66 k_TS_lookAtHeaders) rfl rfl rfl (by decide +kernel) ⟨(Nat.le_of_ble_eq_true rfl), (Nat.le_of_ble_eq_true rfl)⟩) ⟨fun a U g mk q => by obtain ⟨q0, qP, qK⟩ := q; exact ⟨q0, qP, va_K.moved (u := U) (U := U.calling g mk a) (Vm.Alike.refl U.vm) qK⟩, va_recv hK hP rfl (q0 := 0) rfl, fun U hU hW => ⟨rfl, by rw [hU]; exact hP, va_K.moved hW.alike (hK)⟩⟩ rfl rfl hl.1 rfl (lv_room (Nat.le_of_ble_eq_true rfl)) d_TS_state_1 ⟨(Nat.le_of_ble_eq_true rfl), (Nat.le_of_ble_eq_true rfl)⟩) ?_
  refine W.eq (g2 := F0 m 4 ls []) rfl ?_
  refine lv_iload_n hx hb d_TS_state_4 rfl (lv_at hl 1 rfl) ?_
  refine lv_tableIn (off := 44) (tgt := 49) hx hb d_TS_state_5 (by decide) (by decide) rfl (by decide) ?_
  refine lv_aload_n hx hb d_TS_state_49 rfl (lv_at hl 0 rfl) ?_
  refine px_go (va_runV (C := "TapeSealer") (As := []) (rest := []) ⟨hx, hb, hml, hown, hts⟩ (p_TS_countFree l dC dI h0 q ci) (cwV 0 hts (gx_goodV hw_880 hw_882 hw_30 hw_66 k_TS_countFree) rfl rfl rfl (by decide +kernel) ⟨(Nat.le_of_ble_eq_true rfl), (Nat.le_of_ble_eq_true rfl)⟩) ⟨fun a U g mk q => by obtain ⟨q0, qP, qK⟩ := q; exact ⟨q0, qP, va_K.moved (u := U) (U := U.calling g mk a) (Vm.Alike.refl U.vm) qK⟩, va_recv hK hP rfl (q0 := 0) rfl, fun U hU hW => ⟨rfl, by rw [hU]; exact hP, va_K.moved hW.alike (hK)⟩⟩ rfl rfl hl.1 rfl (lv_room (Nat.le_of_ble_eq_true rfl)) d_TS_state_50 ⟨(Nat.le_of_ble_eq_true rfl), (Nat.le_of_ble_eq_true rfl)⟩) ?_
  refine W.eq (g2 := F0 m 53 ls [.int 6]) rfl ?_
  exact W.iret (v := 6) hx hb hr (fun t ht _ => ⟨rfl, ht⟩) (fun _ h => nomatch h) d_TS_state_53
set_option maxHeartbeats 4000000 in
set_option maxRecDepth 100000 in
theorem p_TS_state2 (l : Launch) (dC : Nat → ClassId) (dI : Nat → Nat → Nat) (h0 : Nat) (q : Nat → Nat) (ci : Nat → ClassId) : Met l y_TS_state w_TS_state ({ frames := 1, cells := 0, slots := 0, locals := 21 }) (va_Pc [.ref h0, .int 2] (fun U => va_P (dC, dI) gx_cl (wTS h0 q ci) U.heap ∧ va_K (dC, dI) gx_cl (kTS ci) U)) (px_Q (some (.int 0))) 0 0 (fun _ => False) := by
  refine Met.ofW (cc := b_TS_state) (maxL := 2) (ret := (some .int)) (by decide) rfl ?_
  intro p e s m args below meth c s₁ B hml hv
  obtain ⟨rfl, hP, hK⟩ := hv
  have hx := B.exec
  have hb := B.bytes
  have hr := B.returns
  have hts := atoms_spec (ws := w_TS_state) B.pre
  have hB : ∀ w ∈ gx_B, w.before _ s = true := fun w h => hts w (List.mem_cons_of_mem _ h)
  have hown : s.vm.findClass "TapeSealer" = some m.cls := findClass_of_methodNamed B.named
  have hlocks := B.notSynchronized
  have hl := lv_entry ([.ref h0, .int 2]) (n := 2) (Nat.le_of_ble_eq_true rfl)
  rw [lg_entry_eq]
  generalize (lg_sl ([.ref h0, .int 2]) ++ List.replicate (2 - (lg_sl ([.ref h0, .int 2])).length) Slot.unset).toArray = ls at hl ⊢
  have hl : lv_has ls 2 [(0, .ref h0), (1, .int 2)] := hl
  refine lv_aload_n hx hb d_TS_state_0 rfl (lv_at hl 0 rfl) ?_
  refine px_go (va_runV (C := "TapeSealer") (As := []) (rest := []) ⟨hx, hb, hml, hown, hts⟩ (p_TS_lookAtHeaders l dC dI h0 q ci) (cwV 0 hts (gx_goodV hw_361 hw_363 hw_0 hw_66 k_TS_lookAtHeaders) rfl rfl rfl (by decide +kernel) ⟨(Nat.le_of_ble_eq_true rfl), (Nat.le_of_ble_eq_true rfl)⟩) ⟨fun a U g mk q => by obtain ⟨q0, qP, qK⟩ := q; exact ⟨q0, qP, va_K.moved (u := U) (U := U.calling g mk a) (Vm.Alike.refl U.vm) qK⟩, va_recv hK hP rfl (q0 := 0) rfl, fun U hU hW => ⟨rfl, by rw [hU]; exact hP, va_K.moved hW.alike (hK)⟩⟩ rfl rfl hl.1 rfl (lv_room (Nat.le_of_ble_eq_true rfl)) d_TS_state_1 ⟨(Nat.le_of_ble_eq_true rfl), (Nat.le_of_ble_eq_true rfl)⟩) ?_
  refine W.eq (g2 := F0 m 4 ls []) rfl ?_
  refine lv_iload_n hx hb d_TS_state_4 rfl (lv_at hl 1 rfl) ?_
  refine lv_tableIn (off := 49) (tgt := 54) hx hb d_TS_state_5 (by decide) (by decide) rfl (by decide) ?_
  refine lv_aload_n hx hb d_TS_state_54 rfl (lv_at hl 0 rfl) ?_
  refine va_get (D := (dC, dI)) (ci := 8) (v := .ref (q 3)) (C := RTS) (T := FTS) (N := 15) hx hb hB in_TS hown hK hP 0 rfl rfl 1 (by decide) (hB _ hw_308) (fun _ h9 => h9) rfl d_TS_state_55 ?_
  refine va_get (D := (dC, dI)) (ci := 3) (v := .int 0) (C := REp) (T := FEp) (N := 3) hx hb hB in_Ep hown hK hP 4 rfl rfl 2 (by decide) (hB _ hw_144) (fun _ h9 => h9) rfl d_TS_state_58 ?_
  exact W.iret (v := 0) hx hb hr (fun t ht _ => ⟨rfl, ht⟩) (fun _ h => nomatch h) d_TS_state_61
set_option maxHeartbeats 4000000 in
set_option maxRecDepth 100000 in
theorem p_TS_state3 (l : Launch) (dC : Nat → ClassId) (dI : Nat → Nat → Nat) (h0 : Nat) (q : Nat → Nat) (ci : Nat → ClassId) : Met l y_TS_state w_TS_state ({ frames := 1, cells := 0, slots := 0, locals := 21 }) (va_Pc [.ref h0, .int 3] (fun U => va_P (dC, dI) gx_cl (wTS h0 q ci) U.heap ∧ va_K (dC, dI) gx_cl (kTS ci) U)) (px_Q (some (.int 0))) 0 0 (fun _ => False) := by
  refine Met.ofW (cc := b_TS_state) (maxL := 2) (ret := (some .int)) (by decide) rfl ?_
  intro p e s m args below meth c s₁ B hml hv
  obtain ⟨rfl, hP, hK⟩ := hv
  have hx := B.exec
  have hb := B.bytes
  have hr := B.returns
  have hts := atoms_spec (ws := w_TS_state) B.pre
  have hB : ∀ w ∈ gx_B, w.before _ s = true := fun w h => hts w (List.mem_cons_of_mem _ h)
  have hown : s.vm.findClass "TapeSealer" = some m.cls := findClass_of_methodNamed B.named
  have hlocks := B.notSynchronized
  have hl := lv_entry ([.ref h0, .int 3]) (n := 2) (Nat.le_of_ble_eq_true rfl)
  rw [lg_entry_eq]
  generalize (lg_sl ([.ref h0, .int 3]) ++ List.replicate (2 - (lg_sl ([.ref h0, .int 3])).length) Slot.unset).toArray = ls at hl ⊢
  have hl : lv_has ls 2 [(0, .ref h0), (1, .int 3)] := hl
  refine lv_aload_n hx hb d_TS_state_0 rfl (lv_at hl 0 rfl) ?_
  refine px_go (va_runV (C := "TapeSealer") (As := []) (rest := []) ⟨hx, hb, hml, hown, hts⟩ (p_TS_lookAtHeaders l dC dI h0 q ci) (cwV 0 hts (gx_goodV hw_361 hw_363 hw_0 hw_66 k_TS_lookAtHeaders) rfl rfl rfl (by decide +kernel) ⟨(Nat.le_of_ble_eq_true rfl), (Nat.le_of_ble_eq_true rfl)⟩) ⟨fun a U g mk q => by obtain ⟨q0, qP, qK⟩ := q; exact ⟨q0, qP, va_K.moved (u := U) (U := U.calling g mk a) (Vm.Alike.refl U.vm) qK⟩, va_recv hK hP rfl (q0 := 0) rfl, fun U hU hW => ⟨rfl, by rw [hU]; exact hP, va_K.moved hW.alike (hK)⟩⟩ rfl rfl hl.1 rfl (lv_room (Nat.le_of_ble_eq_true rfl)) d_TS_state_1 ⟨(Nat.le_of_ble_eq_true rfl), (Nat.le_of_ble_eq_true rfl)⟩) ?_
  refine W.eq (g2 := F0 m 4 ls []) rfl ?_
  refine lv_iload_n hx hb d_TS_state_4 rfl (lv_at hl 1 rfl) ?_
  refine lv_tableIn (off := 57) (tgt := 62) hx hb d_TS_state_5 (by decide) (by decide) rfl (by decide) ?_
  refine lv_aload_n hx hb d_TS_state_62 rfl (lv_at hl 0 rfl) ?_
  refine va_get (D := (dC, dI)) (ci := 8) (v := .ref (q 0)) (C := RTS) (T := FTS) (N := 15) hx hb hB in_TS hown hK hP 0 rfl rfl 0 (by decide) (hB _ hw_307) (fun _ h9 => h9) rfl d_TS_state_63 ?_
  refine va_get (D := (dC, dI)) (ci := 1) (v := .int 0) (C := RCa) (T := FCa) (N := 6) hx hb hB in_Ca hown hK hP 1 rfl rfl 2 (by decide) (hB _ hw_111) (fun _ h9 => h9) rfl d_TS_state_66 ?_
  exact W.iret (v := 0) hx hb hr (fun t ht _ => ⟨rfl, ht⟩) (fun _ h => nomatch h) d_TS_state_69
set_option maxHeartbeats 4000000 in
set_option maxRecDepth 100000 in
theorem p_TS_state4 (l : Launch) (dC : Nat → ClassId) (dI : Nat → Nat → Nat) (h0 : Nat) (q : Nat → Nat) (ci : Nat → ClassId) : Met l y_TS_state w_TS_state ({ frames := 1, cells := 0, slots := 0, locals := 21 }) (va_Pc [.ref h0, .int 4] (fun U => va_P (dC, dI) gx_cl (wTS h0 q ci) U.heap ∧ va_K (dC, dI) gx_cl (kTS ci) U)) (px_Q (some (.int 0))) 0 0 (fun _ => False) := by
  refine Met.ofW (cc := b_TS_state) (maxL := 2) (ret := (some .int)) (by decide) rfl ?_
  intro p e s m args below meth c s₁ B hml hv
  obtain ⟨rfl, hP, hK⟩ := hv
  have hx := B.exec
  have hb := B.bytes
  have hr := B.returns
  have hts := atoms_spec (ws := w_TS_state) B.pre
  have hB : ∀ w ∈ gx_B, w.before _ s = true := fun w h => hts w (List.mem_cons_of_mem _ h)
  have hown : s.vm.findClass "TapeSealer" = some m.cls := findClass_of_methodNamed B.named
  have hlocks := B.notSynchronized
  have hl := lv_entry ([.ref h0, .int 4]) (n := 2) (Nat.le_of_ble_eq_true rfl)
  rw [lg_entry_eq]
  generalize (lg_sl ([.ref h0, .int 4]) ++ List.replicate (2 - (lg_sl ([.ref h0, .int 4])).length) Slot.unset).toArray = ls at hl ⊢
  have hl : lv_has ls 2 [(0, .ref h0), (1, .int 4)] := hl
  refine lv_aload_n hx hb d_TS_state_0 rfl (lv_at hl 0 rfl) ?_
  refine px_go (va_runV (C := "TapeSealer") (As := []) (rest := []) ⟨hx, hb, hml, hown, hts⟩ (p_TS_lookAtHeaders l dC dI h0 q ci) (cwV 0 hts (gx_goodV hw_361 hw_363 hw_0 hw_66 k_TS_lookAtHeaders) rfl rfl rfl (by decide +kernel) ⟨(Nat.le_of_ble_eq_true rfl), (Nat.le_of_ble_eq_true rfl)⟩) ⟨fun a U g mk q => by obtain ⟨q0, qP, qK⟩ := q; exact ⟨q0, qP, va_K.moved (u := U) (U := U.calling g mk a) (Vm.Alike.refl U.vm) qK⟩, va_recv hK hP rfl (q0 := 0) rfl, fun U hU hW => ⟨rfl, by rw [hU]; exact hP, va_K.moved hW.alike (hK)⟩⟩ rfl rfl hl.1 rfl (lv_room (Nat.le_of_ble_eq_true rfl)) d_TS_state_1 ⟨(Nat.le_of_ble_eq_true rfl), (Nat.le_of_ble_eq_true rfl)⟩) ?_
  refine W.eq (g2 := F0 m 4 ls []) rfl ?_
  refine lv_iload_n hx hb d_TS_state_4 rfl (lv_at hl 1 rfl) ?_
  refine lv_tableIn (off := 65) (tgt := 70) hx hb d_TS_state_5 (by decide) (by decide) rfl (by decide) ?_
  refine lv_aload_n hx hb d_TS_state_70 rfl (lv_at hl 0 rfl) ?_
  refine va_get (D := (dC, dI)) (ci := 8) (v := .ref (q 0)) (C := RTS) (T := FTS) (N := 15) hx hb hB in_TS hown hK hP 0 rfl rfl 0 (by decide) (hB _ hw_307) (fun _ h9 => h9) rfl d_TS_state_71 ?_
  refine va_get (D := (dC, dI)) (ci := 1) (v := .int 0) (C := RCa) (T := FCa) (N := 6) hx hb hB in_Ca hown hK hP 1 rfl rfl 4 (by decide) (hB _ hw_115) (fun _ h9 => h9) rfl d_TS_state_74 ?_
  refine lv_if_eq (tgt := 84) hx hb d_TS_state_77 (by decide) (fun _ => ?_) (fun h9 => absurd (by decide) h9)
  refine lv_iconst (v := 0) hx hb d_TS_state_84 (by decide) ?_
  exact W.iret (v := 0) hx hb hr (fun t ht _ => ⟨rfl, ht⟩) (fun _ h => nomatch h) d_TS_state_85
set_option maxHeartbeats 4000000 in
set_option maxRecDepth 100000 in
theorem p_TS_state5 (l : Launch) (dC : Nat → ClassId) (dI : Nat → Nat → Nat) (h0 : Nat) (q : Nat → Nat) (ci : Nat → ClassId) : Met l y_TS_state w_TS_state ({ frames := 1, cells := 0, slots := 0, locals := 21 }) (va_Pc [.ref h0, .int 5] (fun U => va_P (dC, dI) gx_cl (wTS h0 q ci) U.heap ∧ va_K (dC, dI) gx_cl (kTS ci) U)) (px_Q (some (.int 0))) 0 0 (fun _ => False) := by
  refine Met.ofW (cc := b_TS_state) (maxL := 2) (ret := (some .int)) (by decide) rfl ?_
  intro p e s m args below meth c s₁ B hml hv
  obtain ⟨rfl, hP, hK⟩ := hv
  have hx := B.exec
  have hb := B.bytes
  have hr := B.returns
  have hts := atoms_spec (ws := w_TS_state) B.pre
  have hB : ∀ w ∈ gx_B, w.before _ s = true := fun w h => hts w (List.mem_cons_of_mem _ h)
  have hown : s.vm.findClass "TapeSealer" = some m.cls := findClass_of_methodNamed B.named
  have hlocks := B.notSynchronized
  have hl := lv_entry ([.ref h0, .int 5]) (n := 2) (Nat.le_of_ble_eq_true rfl)
  rw [lg_entry_eq]
  generalize (lg_sl ([.ref h0, .int 5]) ++ List.replicate (2 - (lg_sl ([.ref h0, .int 5])).length) Slot.unset).toArray = ls at hl ⊢
  have hl : lv_has ls 2 [(0, .ref h0), (1, .int 5)] := hl
  refine lv_aload_n hx hb d_TS_state_0 rfl (lv_at hl 0 rfl) ?_
  refine px_go (va_runV (C := "TapeSealer") (As := []) (rest := []) ⟨hx, hb, hml, hown, hts⟩ (p_TS_lookAtHeaders l dC dI h0 q ci) (cwV 0 hts (gx_goodV hw_361 hw_363 hw_0 hw_66 k_TS_lookAtHeaders) rfl rfl rfl (by decide +kernel) ⟨(Nat.le_of_ble_eq_true rfl), (Nat.le_of_ble_eq_true rfl)⟩) ⟨fun a U g mk q => by obtain ⟨q0, qP, qK⟩ := q; exact ⟨q0, qP, va_K.moved (u := U) (U := U.calling g mk a) (Vm.Alike.refl U.vm) qK⟩, va_recv hK hP rfl (q0 := 0) rfl, fun U hU hW => ⟨rfl, by rw [hU]; exact hP, va_K.moved hW.alike (hK)⟩⟩ rfl rfl hl.1 rfl (lv_room (Nat.le_of_ble_eq_true rfl)) d_TS_state_1 ⟨(Nat.le_of_ble_eq_true rfl), (Nat.le_of_ble_eq_true rfl)⟩) ?_
  refine W.eq (g2 := F0 m 4 ls []) rfl ?_
  refine lv_iload_n hx hb d_TS_state_4 rfl (lv_at hl 1 rfl) ?_
  refine lv_tableIn (off := 81) (tgt := 86) hx hb d_TS_state_5 (by decide) (by decide) rfl (by decide) ?_
  refine lv_aload_n hx hb d_TS_state_86 rfl (lv_at hl 0 rfl) ?_
  refine va_get (D := (dC, dI)) (ci := 8) (v := .int 0) (C := RTS) (T := FTS) (N := 15) hx hb hB in_TS hown hK hP 0 rfl rfl 11 (by decide) (hB _ hw_318) (fun _ h9 => h9) rfl d_TS_state_87 ?_
  exact W.iret (v := 0) hx hb hr (fun t ht _ => ⟨rfl, ht⟩) (fun _ h => nomatch h) d_TS_state_90
set_option maxHeartbeats 4000000 in
set_option maxRecDepth 100000 in
theorem p_TS_scrub (l : Launch) (dC : Nat → ClassId) (dI : Nat → Nat → Nat) (h0 : Nat) (q : Nat → Nat) (ci : Nat → ClassId) (p0 : Int32) (h1 : ¬ p0 < 0) (h2 : p0 < 6) : Met l y_TS_scrub w_TS_scrub ({ frames := 2, cells := 0, slots := 0, locals := 43 }) (va_Pc [.ref h0, .int p0] (fun U => va_P (dC, dI) gx_cl (wTS h0 q ci) U.heap ∧ va_K (dC, dI) gx_cl (kTS ci) U)) (px_Q (some (.int (-1)))) 0 0 (fun _ => False) := by
  refine Met.ofW (cc := b_TS_scrub) (maxL := 6) (ret := (some .int)) (by decide) rfl ?_
  intro p e s m args below meth c s₁ B hml hv
  obtain ⟨rfl, hP, hK⟩ := hv
  have hx := B.exec
  have hb := B.bytes
  have hr := B.returns
  have hts := atoms_spec (ws := w_TS_scrub) B.pre
  have hB : ∀ w ∈ gx_B, w.before _ s = true := fun w h => hts w (List.mem_cons_of_mem _ h)
  have hown : s.vm.findClass "TapeSealer" = some m.cls := findClass_of_methodNamed B.named
  have hlocks := B.notSynchronized
  have hl := lv_entry ([.ref h0, .int p0]) (n := 6) (Nat.le_of_ble_eq_true rfl)
  rw [lg_entry_eq]
  generalize (lg_sl ([.ref h0, .int p0]) ++ List.replicate (6 - (lg_sl ([.ref h0, .int p0])).length) Slot.unset).toArray = ls at hl ⊢
  have hl : lv_has ls 6 [(0, .ref h0), (1, .int p0)] := hl
  refine lv_iload_n hx hb d_TS_scrub_0 rfl (lv_at hl 1 rfl) ?_
  refine lv_if_lt (tgt := 10) hx hb d_TS_scrub_1 (by decide) (fun h9 => absurd h9 h1) (fun _ => ?_)
  refine lv_iload_n hx hb d_TS_scrub_4 rfl (lv_at hl 1 rfl) ?_
  refine lv_bipush (v := 6) hx hb d_TS_scrub_5 (by decide) ?_
  refine lv_icmp_lt (tgt := 18) hx hb d_TS_scrub_7 (by decide) (fun _ => ?_) (fun h9 => absurd h2 h9)
  refine lv_aload_n hx hb d_TS_scrub_18 rfl (lv_at hl 0 rfl) ?_
  refine va_get (D := (dC, dI)) (ci := 8) (v := .ref (q 0)) (C := RTS) (T := FTS) (N := 15) hx hb hB in_TS hown hK hP 0 rfl rfl 0 (by decide) (hB _ hw_307) (fun _ h9 => h9) rfl d_TS_scrub_19 ?_
  refine va_get (D := (dC, dI)) (ci := 1) (v := .int 0) (C := RCa) (T := FCa) (N := 6) hx hb hB in_Ca hown hK hP 1 rfl rfl 4 (by decide) (hB _ hw_115) (fun _ h9 => h9) rfl d_TS_scrub_22 ?_
  refine lv_if_eq (tgt := 36) hx hb d_TS_scrub_25 (by decide) (fun _ => ?_) (fun h9 => absurd (by decide) h9)
  refine lv_aload_n hx hb d_TS_scrub_36 rfl (lv_at hl 0 rfl) ?_
  refine px_go (va_runV (C := "TapeSealer") (As := []) (rest := []) ⟨hx, hb, hml, hown, hts⟩ (p_TS_lookAtHeaders l dC dI h0 q ci) (cwV 0 hts (gx_goodV hw_361 hw_363 hw_0 hw_66 k_TS_lookAtHeaders) rfl rfl rfl (by decide +kernel) ⟨(Nat.le_of_ble_eq_true rfl), (Nat.le_of_ble_eq_true rfl)⟩) ⟨fun a U g mk q => by obtain ⟨q0, qP, qK⟩ := q; exact ⟨q0, qP, va_K.moved (u := U) (U := U.calling g mk a) (Vm.Alike.refl U.vm) qK⟩, va_recv hK hP rfl (q0 := 0) rfl, fun U hU hW => ⟨rfl, by rw [hU]; exact hP, va_K.moved hW.alike (hK)⟩⟩ rfl rfl hl.1 rfl (lv_room (Nat.le_of_ble_eq_true rfl)) d_TS_scrub_37 ⟨(Nat.le_of_ble_eq_true rfl), (Nat.le_of_ble_eq_true rfl)⟩) ?_
  refine W.eq (g2 := F0 m 40 ls []) rfl ?_
  refine lv_aload_n hx hb d_TS_scrub_40 rfl (lv_at hl 0 rfl) ?_
  refine lv_iload_n hx hb d_TS_scrub_41 rfl (lv_at hl 1 rfl) ?_
  refine px_go (va_runV (C := "TapeSealer") (As := [.int p0]) (rest := []) ⟨hx, hb, hml, hown, hts⟩ (p_TS_ownerOf l dC dI h0 q ci p0) (cwV 1 hts (gx_goodV hw_565 hw_567 hw_14 hw_66 k_TS_ownerOf) rfl rfl rfl (by decide +kernel) ⟨(Nat.le_of_ble_eq_true rfl), (Nat.le_of_ble_eq_true rfl)⟩) ⟨fun a U g mk q => by obtain ⟨q0, qP, qK⟩ := q; exact ⟨q0, qP, va_K.moved (u := U) (U := U.calling g mk a) (Vm.Alike.refl U.vm) qK⟩, va_recv hK hP rfl (q0 := 0) rfl, fun U hU hW => ⟨rfl, by rw [hU]; exact hP, va_K.moved hW.alike (hK)⟩⟩ rfl rfl hl.1 rfl (lv_room (Nat.le_of_ble_eq_true rfl)) d_TS_scrub_42 ⟨(Nat.le_of_ble_eq_true rfl), (Nat.le_of_ble_eq_true rfl)⟩) ?_
  refine W.eq (g2 := F0 m 45 ls [.int (-1)]) rfl ?_
  refine lv_istore_n hx hb d_TS_scrub_45 rfl hl (by decide) rfl (fun ls hl => ?_)
  have hl : lv_has ls 6 [(2, .int (-1)), (0, .ref h0), (1, .int p0)] := hl
  refine lv_iload_n hx hb d_TS_scrub_46 rfl (lv_at hl 0 rfl) ?_
  refine lv_iconst (v := (-1)) hx hb d_TS_scrub_47 (by decide) ?_
  refine lv_icmp_ne (tgt := 53) hx hb d_TS_scrub_48 (by decide) (fun h9 => absurd (by decide) h9) (fun _ => ?_)
  refine lv_iconst (v := (-1)) hx hb d_TS_scrub_51 (by decide) ?_
  exact W.iret (v := (-1)) hx hb hr (fun t ht _ => ⟨rfl, ht⟩) (fun _ h => nomatch h) d_TS_scrub_52
end
section
abbrev b_Ca_noteChange : ByteArray := prog_3_method_3_code
def y_Ca_noteChange : MethodName := ⟨"TapeSealer$Cartridge", "noteChange", "(I)V"⟩
abbrev w_Ca_noteChange : List Cond := .code y_Ca_noteChange b_Ca_noteChange 2 none :: gx_B
theorem k_Ca_noteChange : (.code y_Ca_noteChange b_Ca_noteChange 2 none : Cond) ∈ gx_B := gx_mem 640 (by decide +kernel) rfl
abbrev b_TS_put : ByteArray := prog_1_method_2_code
def y_TS_put : MethodName := ⟨"TapeSealer", "put", "(II)Z"⟩
abbrev w_TS_put : List Cond := .code y_TS_put b_TS_put 4 (some .boolean) :: gx_B
theorem k_TS_put : (.code y_TS_put b_TS_put 4 (some .boolean) : Cond) ∈ gx_B := gx_mem 356 (by decide +kernel) rfl
abbrev b_TS_mount : ByteArray := prog_1_method_17_code
def y_TS_mount : MethodName := ⟨"TapeSealer", "mount", "()I"⟩
abbrev w_TS_mount : List Cond := .code y_TS_mount b_TS_mount 1 (some .int) :: gx_B
theorem k_TS_mount : (.code y_TS_mount b_TS_mount 1 (some .int) : Cond) ∈ gx_B := gx_mem 360 (by decide +kernel) rfl
theorem hw_82 : (.initialized "java/lang/Math" : Cond) ∈ gx_B := gx_mem 82 (by decide +kernel) rfl
theorem hw_106 : (.fieldLink "TapeSealer" 215 "TapeSealer$Cartridge" "rows" "[[I" : Cond) ∈ gx_B := gx_mem 106 (by decide +kernel) rfl
theorem hw_109 : (.fieldLink "TapeSealer" 222 "TapeSealer$Cartridge" "spoiled" "[Z" : Cond) ∈ gx_B := gx_mem 109 (by decide +kernel) rfl
theorem hw_113 : (.fieldLink "TapeSealer" 228 "TapeSealer$Cartridge" "writesLeft" "I" : Cond) ∈ gx_B := gx_mem 113 (by decide +kernel) rfl
theorem hw_116 : (.fieldLink "TapeSealer$Cartridge" 41 "TapeSealer$Cartridge" "headersChanged" "Z" : Cond) ∈ gx_B := gx_mem 116 (by decide +kernel) rfl
theorem hw_638 : (.instanceMethod ⟨"TapeSealer$Cartridge", "noteChange", "(I)V"⟩ : Cond) ∈ gx_B := gx_mem 638 (by decide +kernel) rfl
theorem hw_639 : (.selects "TapeSealer$Cartridge" ⟨"TapeSealer$Cartridge", "noteChange", "(I)V"⟩ ⟨"TapeSealer$Cartridge", "noteChange", "(I)V"⟩ : Cond) ∈ gx_B := gx_mem 639 (by decide +kernel) rfl
theorem hw_716 : (.methodLink "TapeSealer" 225 ⟨"java/lang/Math", "max", "(II)I"⟩ : Cond) ∈ gx_B := gx_mem 716 (by decide +kernel) rfl
theorem hw_717 : (.static ⟨"java/lang/Math", "max", "(II)I"⟩ : Cond) ∈ gx_B := gx_mem 717 (by decide +kernel) rfl
theorem hw_844 : (.methodLink "TapeSealer" 219 ⟨"TapeSealer$Cartridge", "noteChange", "(I)V"⟩ : Cond) ∈ gx_B := gx_mem 844 (by decide +kernel) rfl
end
section
theorem d_Ca_noteChange_0 : decode b_Ca_noteChange 0 = .ok (.iload_n 1, 1) := by decide +kernel
theorem d_Ca_noteChange_1 : decode b_Ca_noteChange 1 = .ok (.bipush 8, 2) := by decide +kernel
theorem d_Ca_noteChange_11 : decode b_Ca_noteChange 11 = .ok (.return_, 1) := by decide +kernel
theorem d_Ca_noteChange_3 : decode b_Ca_noteChange 3 = .ok (.if_icmp .ge 8, 3) := by decide +kernel
theorem d_Ca_noteChange_6 : decode b_Ca_noteChange 6 = .ok (.aload_n 0, 1) := by decide +kernel
theorem d_Ca_noteChange_7 : decode b_Ca_noteChange 7 = .ok (.iconst 1, 1) := by decide +kernel
theorem d_Ca_noteChange_8 : decode b_Ca_noteChange 8 = .ok (.putfield 41, 3) := by decide +kernel
theorem d_TS_block_16 : decode b_TS_block 16 = .ok (.aload_n 0, 1) := by decide +kernel
theorem d_TS_block_17 : decode b_TS_block 17 = .ok (.getfield 10, 3) := by decide +kernel
theorem d_TS_block_20 : decode b_TS_block 20 = .ok (.getfield 222, 3) := by decide +kernel
theorem d_TS_block_23 : decode b_TS_block 23 = .ok (.iload_n 1, 1) := by decide +kernel
theorem d_TS_block_24 : decode b_TS_block 24 = .ok (.baload, 1) := by decide +kernel
theorem d_TS_block_25 : decode b_TS_block 25 = .ok (.ifCond .eq 7, 3) := by decide +kernel
theorem d_TS_block_32 : decode b_TS_block 32 = .ok (.aload_n 0, 1) := by decide +kernel
theorem d_TS_block_33 : decode b_TS_block 33 = .ok (.getfield 10, 3) := by decide +kernel
theorem d_TS_block_36 : decode b_TS_block 36 = .ok (.getfield 215, 3) := by decide +kernel
theorem d_TS_block_39 : decode b_TS_block 39 = .ok (.iload_n 1, 1) := by decide +kernel
theorem d_TS_block_40 : decode b_TS_block 40 = .ok (.aaload, 1) := by decide +kernel
theorem d_TS_block_41 : decode b_TS_block 41 = .ok (.iload_n 2, 1) := by decide +kernel
theorem d_TS_block_42 : decode b_TS_block 42 = .ok (.iaload, 1) := by decide +kernel
theorem d_TS_block_43 : decode b_TS_block 43 = .ok (.ireturn, 1) := by decide +kernel
theorem d_TS_damage_27 : decode b_TS_damage 27 = .ok (.aload_n 0, 1) := by decide +kernel
theorem d_TS_damage_28 : decode b_TS_damage 28 = .ok (.getfield 10, 3) := by decide +kernel
theorem d_TS_damage_31 : decode b_TS_damage 31 = .ok (.getfield 215, 3) := by decide +kernel
theorem d_TS_damage_34 : decode b_TS_damage 34 = .ok (.iload_n 1, 1) := by decide +kernel
theorem d_TS_damage_35 : decode b_TS_damage 35 = .ok (.aaload, 1) := by decide +kernel
theorem d_TS_damage_36 : decode b_TS_damage 36 = .ok (.iload_n 2, 1) := by decide +kernel
theorem d_TS_damage_37 : decode b_TS_damage 37 = .ok (.dup2, 1) := by decide +kernel
theorem d_TS_damage_38 : decode b_TS_damage 38 = .ok (.iaload, 1) := by decide +kernel
theorem d_TS_damage_39 : decode b_TS_damage 39 = .ok (.iload_n 3, 1) := by decide +kernel
theorem d_TS_damage_40 : decode b_TS_damage 40 = .ok (.ixor, 1) := by decide +kernel
theorem d_TS_damage_41 : decode b_TS_damage 41 = .ok (.iastore, 1) := by decide +kernel
theorem d_TS_damage_42 : decode b_TS_damage 42 = .ok (.aload_n 0, 1) := by decide +kernel
theorem d_TS_damage_43 : decode b_TS_damage 43 = .ok (.getfield 10, 3) := by decide +kernel
theorem d_TS_damage_46 : decode b_TS_damage 46 = .ok (.iload_n 1, 1) := by decide +kernel
theorem d_TS_damage_47 : decode b_TS_damage 47 = .ok (.invokevirtual 219, 3) := by decide +kernel
theorem d_TS_damage_50 : decode b_TS_damage 50 = .ok (.return_, 1) := by decide +kernel
theorem d_TS_mount_0 : decode b_TS_mount 0 = .ok (.aload_n 0, 1) := by decide +kernel
theorem d_TS_mount_1 : decode b_TS_mount 1 = .ok (.getfield 10, 3) := by decide +kernel
theorem d_TS_mount_12 : decode b_TS_mount 12 = .ok (.iconst (-1), 1) := by decide +kernel
theorem d_TS_mount_13 : decode b_TS_mount 13 = .ok (.putfield 228, 3) := by decide +kernel
theorem d_TS_mount_16 : decode b_TS_mount 16 = .ok (.aload_n 0, 1) := by decide +kernel
theorem d_TS_mount_17 : decode b_TS_mount 17 = .ok (.getfield 65, 3) := by decide +kernel
theorem d_TS_mount_20 : decode b_TS_mount 20 = .ok (.iconst (-1), 1) := by decide +kernel
theorem d_TS_mount_21 : decode b_TS_mount 21 = .ok (.putfield 106, 3) := by decide +kernel
theorem d_TS_mount_24 : decode b_TS_mount 24 = .ok (.aload_n 0, 1) := by decide +kernel
theorem d_TS_mount_25 : decode b_TS_mount 25 = .ok (.invokevirtual 99, 3) := by decide +kernel
theorem d_TS_mount_28 : decode b_TS_mount 28 = .ok (.aload_n 0, 1) := by decide +kernel
theorem d_TS_mount_29 : decode b_TS_mount 29 = .ok (.invokevirtual 231, 3) := by decide +kernel
theorem d_TS_mount_32 : decode b_TS_mount 32 = .ok (.ireturn, 1) := by decide +kernel
theorem d_TS_mount_4 : decode b_TS_mount 4 = .ok (.iconst 0, 1) := by decide +kernel
theorem d_TS_mount_5 : decode b_TS_mount 5 = .ok (.putfield 85, 3) := by decide +kernel
theorem d_TS_mount_8 : decode b_TS_mount 8 = .ok (.aload_n 0, 1) := by decide +kernel
theorem d_TS_mount_9 : decode b_TS_mount 9 = .ok (.getfield 10, 3) := by decide +kernel
theorem d_TS_put_0 : decode b_TS_put 0 = .ok (.iload_n 2, 1) := by decide +kernel
theorem d_TS_put_1 : decode b_TS_put 1 = .ok (.iconst 1, 1) := by decide +kernel
theorem d_TS_put_10 : decode b_TS_put 10 = .ok (.aload_n 0, 1) := by decide +kernel
theorem d_TS_put_11 : decode b_TS_put 11 = .ok (.getfield 78, 3) := by decide +kernel
theorem d_TS_put_14 : decode b_TS_put 14 = .ok (.iload_n 2, 1) := by decide +kernel
theorem d_TS_put_15 : decode b_TS_put 15 = .ok (.iadd, 1) := by decide +kernel
end
section
theorem d_TS_put_16 : decode b_TS_put 16 = .ok (.sipush 192, 3) := by decide +kernel
theorem d_TS_put_19 : decode b_TS_put 19 = .ok (.if_icmp .le 5, 3) := by decide +kernel
theorem d_TS_put_2 : decode b_TS_put 2 = .ok (.if_icmp .lt 20, 3) := by decide +kernel
theorem d_TS_put_22 : decode b_TS_put 22 = .ok (.iconst 0, 1) := by decide +kernel
theorem d_TS_put_23 : decode b_TS_put 23 = .ok (.ireturn, 1) := by decide +kernel
theorem d_TS_put_24 : decode b_TS_put 24 = .ok (.iload_n 2, 1) := by decide +kernel
theorem d_TS_put_25 : decode b_TS_put 25 = .ok (.iconst 1, 1) := by decide +kernel
theorem d_TS_put_26 : decode b_TS_put 26 = .ok (.isub, 1) := by decide +kernel
theorem d_TS_put_27 : decode b_TS_put 27 = .ok (.istore_n 3, 1) := by decide +kernel
theorem d_TS_put_28 : decode b_TS_put 28 = .ok (.iload_n 3, 1) := by decide +kernel
theorem d_TS_put_29 : decode b_TS_put 29 = .ok (.ifCond .lt 38, 3) := by decide +kernel
theorem d_TS_put_32 : decode b_TS_put 32 = .ok (.aload_n 0, 1) := by decide +kernel
theorem d_TS_put_33 : decode b_TS_put 33 = .ok (.getfield 69, 3) := by decide +kernel
theorem d_TS_put_36 : decode b_TS_put 36 = .ok (.aload_n 0, 1) := by decide +kernel
theorem d_TS_put_37 : decode b_TS_put 37 = .ok (.getfield 78, 3) := by decide +kernel
theorem d_TS_put_40 : decode b_TS_put 40 = .ok (.iload_n 1, 1) := by decide +kernel
theorem d_TS_put_41 : decode b_TS_put 41 = .ok (.bipush 8, 2) := by decide +kernel
theorem d_TS_put_43 : decode b_TS_put 43 = .ok (.iload_n 3, 1) := by decide +kernel
theorem d_TS_put_44 : decode b_TS_put 44 = .ok (.imul, 1) := by decide +kernel
theorem d_TS_put_45 : decode b_TS_put 45 = .ok (.iushr, 1) := by decide +kernel
theorem d_TS_put_46 : decode b_TS_put 46 = .ok (.sipush 255, 3) := by decide +kernel
theorem d_TS_put_49 : decode b_TS_put 49 = .ok (.iand, 1) := by decide +kernel
theorem d_TS_put_5 : decode b_TS_put 5 = .ok (.iload_n 2, 1) := by decide +kernel
theorem d_TS_put_50 : decode b_TS_put 50 = .ok (.iastore, 1) := by decide +kernel
theorem d_TS_put_51 : decode b_TS_put 51 = .ok (.aload_n 0, 1) := by decide +kernel
theorem d_TS_put_52 : decode b_TS_put 52 = .ok (.dup, 1) := by decide +kernel
theorem d_TS_put_53 : decode b_TS_put 53 = .ok (.getfield 78, 3) := by decide +kernel
theorem d_TS_put_56 : decode b_TS_put 56 = .ok (.iconst 1, 1) := by decide +kernel
theorem d_TS_put_57 : decode b_TS_put 57 = .ok (.iadd, 1) := by decide +kernel
theorem d_TS_put_58 : decode b_TS_put 58 = .ok (.putfield 78, 3) := by decide +kernel
theorem d_TS_put_6 : decode b_TS_put 6 = .ok (.iconst 4, 1) := by decide +kernel
theorem d_TS_put_61 : decode b_TS_put 61 = .ok (.iinc 3 (-1), 3) := by decide +kernel
theorem d_TS_put_64 : decode b_TS_put 64 = .ok (.goto (-36), 3) := by decide +kernel
theorem d_TS_put_67 : decode b_TS_put 67 = .ok (.iconst 1, 1) := by decide +kernel
theorem d_TS_put_68 : decode b_TS_put 68 = .ok (.ireturn, 1) := by decide +kernel
theorem d_TS_put_7 : decode b_TS_put 7 = .ok (.if_icmp .gt 15, 3) := by decide +kernel
theorem d_TS_spoil_16 : decode b_TS_spoil 16 = .ok (.aload_n 0, 1) := by decide +kernel
theorem d_TS_spoil_17 : decode b_TS_spoil 17 = .ok (.getfield 10, 3) := by decide +kernel
theorem d_TS_spoil_20 : decode b_TS_spoil 20 = .ok (.getfield 222, 3) := by decide +kernel
theorem d_TS_spoil_23 : decode b_TS_spoil 23 = .ok (.iload_n 1, 1) := by decide +kernel
theorem d_TS_spoil_24 : decode b_TS_spoil 24 = .ok (.iconst 1, 1) := by decide +kernel
theorem d_TS_spoil_25 : decode b_TS_spoil 25 = .ok (.bastore, 1) := by decide +kernel
theorem d_TS_spoil_26 : decode b_TS_spoil 26 = .ok (.aload_n 0, 1) := by decide +kernel
theorem d_TS_spoil_27 : decode b_TS_spoil 27 = .ok (.getfield 10, 3) := by decide +kernel
theorem d_TS_spoil_30 : decode b_TS_spoil 30 = .ok (.iload_n 1, 1) := by decide +kernel
theorem d_TS_spoil_31 : decode b_TS_spoil 31 = .ok (.invokevirtual 219, 3) := by decide +kernel
theorem d_TS_spoil_34 : decode b_TS_spoil 34 = .ok (.return_, 1) := by decide +kernel
theorem d_TS_stopAfter_14 : decode b_TS_stopAfter 14 = .ok (.aload_n 0, 1) := by decide +kernel
theorem d_TS_stopAfter_15 : decode b_TS_stopAfter 15 = .ok (.getfield 10, 3) := by decide +kernel
theorem d_TS_stopAfter_18 : decode b_TS_stopAfter 18 = .ok (.iload_n 1, 1) := by decide +kernel
theorem d_TS_stopAfter_19 : decode b_TS_stopAfter 19 = .ok (.iconst (-1), 1) := by decide +kernel
theorem d_TS_stopAfter_20 : decode b_TS_stopAfter 20 = .ok (.invokestatic 225, 3) := by decide +kernel
theorem d_TS_stopAfter_23 : decode b_TS_stopAfter 23 = .ok (.putfield 228, 3) := by decide +kernel
theorem d_TS_stopAfter_26 : decode b_TS_stopAfter 26 = .ok (.return_, 1) := by decide +kernel
end
section
section MXF
variable {p : Program} {l : Launch} {e : Env} {R : Room} {s : State} {m : MethodId} {args : Array Value} {below : List Frame} {meth : Method} {c : Code} {H : Heap} {locs : List Loc} {cells slots : Nat} {Q : State → Prop}
variable {cc : ByteArray} {pc : Nat} {ls : Array Slot} {rest : List Value} {D : va_G} {cl : List vw_C} {tys : List (ClassId × FieldType)} {ws : va_W} {a : Nat}
/-- a row of the grid: its address -/
theorem mx_ald (hexec : p.tables.exec = Jvm.exec) (hb : c.code = cc) (hK : va_K D cl tys s) (hP : va_P D cl ws H) (q0 t0 : Nat) {cA : ClassId} {q N jn : Nat} (ha : ws[q0]? = some (a, .inl (cA, N, .inr (.inr (.inr (.inr (mx_g q N))))))) (ht : tys[t0]? = some (cA, .array .int)) {i : Int32} (hj : i.toNatClampNeg = jn) (hin : vp_in i N) (hdg : decode cc pc = .ok (.aaload, 1))
    (kk : W p l e R s m args below meth c H locs cells slots Q (F0 m (pc + 1) ls (.ref (q + 1 + jn) :: rest))) : W p l e R s m args below meth c H locs cells slots Q (F0 m pc ls (.int i :: .ref a :: rest)) := by
  subst hj
  have hlt : i.toNatClampNeg < N := Nat.not_le.mp fun q => hin (Or.inr q)
  refine W.aald (v := .ref (q + 1 + i.toNatClampNeg)) (ty := .array .int) hexec hb (hP q0 _ ha) ((hK.2 t0 _ ht).1 N (fun j => va_rf (mx_g q N j))) rfl (fun q => by cases q) (by show ¬ (i < 0 ∨ (arrV _ _ _).slots.size ≤ _); rw [arrV_size]; exact hin) ?_ rfl rfl hdg kk
  show (arrV _ _ _).slots[_]? = _
  rw [arrV_read _ _ hlt]
  unfold mx_g
  rw [if_pos hlt]
  rfl
end MXF
theorem gx_in44 {b : Int32} (h1 : ¬ b < 0) (h2 : ¬ 44 ≤ b) : vp_in b 44 := by
  rw [vp_in_iff]
  rw [Int32.lt_iff_toInt_lt] at h1
  rw [Int32.le_iff_toInt_le] at h2
  have e1 : (44 : Int32).toInt = 44 := by decide
  have e0 : (0 : Int32).toInt = 0 := by decide
  omega
theorem gx_in64 {b : Int32} (h1 : ¬ b < 0) (h2 : ¬ 64 ≤ b) : vp_in b 64 := by
  rw [vp_in_iff]
  rw [Int32.lt_iff_toInt_lt] at h1
  rw [Int32.le_iff_toInt_le] at h2
  have e1 : (64 : Int32).toInt = 64 := by decide
  have e0 : (0 : Int32).toInt = 0 := by decide
  omega
theorem gx_p4 {n : Int32} (h : 4 < n) : ¬ n < 1 := by
  rw [Int32.lt_iff_toInt_lt] at h ⊢
  have e1 : (4 : Int32).toInt = 4 := by decide
  have e0 : (1 : Int32).toInt = 1 := by decide
  omega
set_option maxHeartbeats 4000000 in
set_option maxRecDepth 100000 in
theorem m_Ca_noteChange (l : Launch) (dC : Nat → ClassId) (dI : Nat → Nat → Nat) (sz : Nat) (h0 r0 r1 : Nat) (w0 w1 w2 w3 g : Int32) : Met l y_Ca_noteChange w_Ca_noteChange ({ frames := 0, cells := 0, slots := 0, locals := 0 }) (va_Pc [.ref h0, .int g] (fun U => U.heap.size = sz ∧ va_P (dC, dI) gx_cl [(h0, .inr (1, [.ref r0, .ref r1, .int w0, .int w1, .int w2, .int w3]))] U.heap ∧ va_K (dC, dI) gx_cl [] U ∧ va_D (fun _ => True) [(h0, .inr (1, [.ref r0, .ref r1, .int w0, .int w1, .int w2, .int w3]))])) (va_Qv (fun _ : Unit => True) (fun _ t => True) (va_A [(h0, .inr (1, [.ref r0, .ref r1, .int w0, .int w1, .int w2, .int w3]))] sz)) 0 0 (va_A [(h0, .inr (1, [.ref r0, .ref r1, .int w0, .int w1, .int w2, .int w3]))] sz) := by
  refine Met.ofW (cc := b_Ca_noteChange) (maxL := 2) (ret := none) (by decide) rfl ?_
  intro p e s m args below meth c s₁ B hml hv
  obtain ⟨rfl, hsz, hP, hK, hD0⟩ := hv
  have hx := B.exec
  have hb := B.bytes
  have hr := B.returns
  have hts := atoms_spec (ws := w_Ca_noteChange) B.pre
  have hB : ∀ w ∈ gx_B, w.before _ s = true := fun w h => hts w (List.mem_cons_of_mem _ h)
  have hown : s.vm.findClass "TapeSealer$Cartridge" = some m.cls := findClass_of_methodNamed B.named
  have hlocks := B.notSynchronized
  subst hsz
  have hD := hD0.self (sz := s.heap.size)
  generalize hAe : va_A [(h0, .inr (1, [.ref r0, .ref r1, .int w0, .int w1, .int w2, .int w3]))] s.heap.size = A at hD ⊢
  have hA : ∀ q : Nat, s.heap.size ≤ q → A q := fun q h => by rw [← hAe]; exact Or.inr h
  have hS : va_S A s.heap s.heap [] := va_S.rf
  have hl := lv_entry ([.ref h0, .int g]) (n := 2) (Nat.le_of_ble_eq_true rfl)
  rw [lg_entry_eq]
  generalize (lg_sl ([.ref h0, .int g]) ++ List.replicate (2 - (lg_sl ([.ref h0, .int g])).length) Slot.unset).toArray = ls at hl ⊢
  have hl : lv_has ls 2 [(0, .ref h0), (1, .int g)] := hl
  by_cases hg : 8 ≤ g
  · refine lv_iload_n hx hb d_Ca_noteChange_0 rfl (lv_at hl 1 rfl) ?_
    refine lv_bipush (v := 8) hx hb d_Ca_noteChange_1 (by decide) ?_
    refine lv_icmp_ge (tgt := 11) hx hb d_Ca_noteChange_3 (by decide) (fun _ => ?_) (fun h9 => absurd hg h9)
    refine W.widen (k := 0) (n := 0) (Nat.le_of_ble_eq_true rfl) (Nat.le_of_ble_eq_true rfl) ?_
    exact W.vret hx hb hr (fun t ht hW => ⟨⟨(), rfl, trivial, trivial⟩, hS.F ht⟩) hS.2.2 d_Ca_noteChange_11
  · refine lv_iload_n hx hb d_Ca_noteChange_0 rfl (lv_at hl 1 rfl) ?_
    refine lv_bipush (v := 8) hx hb d_Ca_noteChange_1 (by decide) ?_
    refine lv_icmp_ge (tgt := 11) hx hb d_Ca_noteChange_3 (by decide) (fun h9 => absurd h9 hg) (fun _ => ?_)
    refine lv_aload_n hx hb d_Ca_noteChange_6 rfl (lv_at hl 0 rfl) ?_
    refine lv_iconst (v := 1) hx hb d_Ca_noteChange_7 (by decide) ?_
    refine va_put (D := (dC, dI)) (ci := 1) (v := .int 1) (ty := .boolean) (C := RCa) (T := FCa) (N := 6) hx hb hB in_Ca tCa tCa_ok nCa hown hK hP hD hS 0 rfl rfl 5 (by decide) (hB _ hw_116) (fun _ h9 => h9) rfl (by decide +kernel) rfl rfl (Nat.le_of_ble_eq_true rfl) d_Ca_noteChange_8 (fun H locs hP hD hS => ?_)
    have hP : va_P (dC, dI) gx_cl [(h0, .inr (1, [.ref r0, .ref r1, .int w0, .int w1, .int w2, .int 1]))] H := hP
    have hD : va_D A [(h0, .inr (1, [.ref r0, .ref r1, .int w0, .int w1, .int w2, .int 1]))] := hD
    refine W.widen (k := 0) (n := 0) (Nat.le_of_ble_eq_true rfl) (Nat.le_of_ble_eq_true rfl) ?_
    exact W.vret hx hb hr (fun t ht hW => ⟨⟨(), rfl, trivial, trivial⟩, hS.F ht⟩) hS.2.2 d_Ca_noteChange_11
set_option maxHeartbeats 4000000 in
set_option maxRecDepth 100000 in
theorem m_TS_put1 (l : Launch) (dC : Nat → ClassId) (dI : Nat → Nat → Nat) (sz : Nat) (h0 : Nat) (q : Nat → Nat) (ci : Nat → ClassId) (p0 : Int32) : Met l y_TS_put w_TS_put ({ frames := 0, cells := 0, slots := 0, locals := 0 }) (va_Pc [.ref h0, .int p0, .int 1] (fun U => U.heap.size = sz ∧ va_P (dC, dI) gx_cl [(h0, .inr (8, [.ref (q 0), .ref (q 3), .ref (q 18), .ref (q 19), .ref (q 6), .ref (q 20), .ref (q 21), .ref (q 22), .ref (q 23), .ref (q 15), .ref (q 17), .int 0, .ref (q 24), .ref (q 25), .int 0])), ((q 17), .inl ((ci 4), 192, .inl (fun _ => 0)))] U.heap ∧ va_K (dC, dI) gx_cl (kTS ci) U ∧ va_D (fun _ => True) [(h0, .inr (8, [.ref (q 0), .ref (q 3), .ref (q 18), .ref (q 19), .ref (q 6), .ref (q 20), .ref (q 21), .ref (q 22), .ref (q 23), .ref (q 15), .ref (q 17), .int 0, .ref (q 24), .ref (q 25), .int 0])), ((q 17), .inl ((ci 4), 192, .inl (fun _ => 0)))])) (va_Qi (fun (r : Int32) (_ : Unit) => r = 1) (fun _ t => True) (va_A [(h0, .inr (8, [.ref (q 0), .ref (q 3), .ref (q 18), .ref (q 19), .ref (q 6), .ref (q 20), .ref (q 21), .ref (q 22), .ref (q 23), .ref (q 15), .ref (q 17), .int 0, .ref (q 24), .ref (q 25), .int 0])), ((q 17), .inl ((ci 4), 192, .inl (fun _ => 0)))] sz)) 0 0 (va_A [(h0, .inr (8, [.ref (q 0), .ref (q 3), .ref (q 18), .ref (q 19), .ref (q 6), .ref (q 20), .ref (q 21), .ref (q 22), .ref (q 23), .ref (q 15), .ref (q 17), .int 0, .ref (q 24), .ref (q 25), .int 0])), ((q 17), .inl ((ci 4), 192, .inl (fun _ => 0)))] sz) := by
  refine Met.ofW (cc := b_TS_put) (maxL := 4) (ret := (some .boolean)) (by decide) rfl ?_
  intro p e s m args below meth c s₁ B hml hv
  obtain ⟨rfl, hsz, hP, hK, hD0⟩ := hv
  have hx := B.exec
  have hb := B.bytes
  have hr := B.returns
  have hts := atoms_spec (ws := w_TS_put) B.pre
  have hB : ∀ w ∈ gx_B, w.before _ s = true := fun w h => hts w (List.mem_cons_of_mem _ h)
  have hown : s.vm.findClass "TapeSealer" = some m.cls := findClass_of_methodNamed B.named
  have hlocks := B.notSynchronized
  subst hsz
  have hD := hD0.self (sz := s.heap.size)
  generalize hAe : va_A [(h0, .inr (8, [.ref (q 0), .ref (q 3), .ref (q 18), .ref (q 19), .ref (q 6), .ref (q 20), .ref (q 21), .ref (q 22), .ref (q 23), .ref (q 15), .ref (q 17), .int 0, .ref (q 24), .ref (q 25), .int 0])), ((q 17), .inl ((ci 4), 192, .inl (fun _ => 0)))] s.heap.size = A at hD ⊢
  have hA : ∀ q : Nat, s.heap.size ≤ q → A q := fun q h => by rw [← hAe]; exact Or.inr h
  have hS : va_S A s.heap s.heap [] := va_S.rf
  have hl := lv_entry ([.ref h0, .int p0, .int 1]) (n := 4) (Nat.le_of_ble_eq_true rfl)
  rw [lg_entry_eq]
  generalize (lg_sl ([.ref h0, .int p0, .int 1]) ++ List.replicate (4 - (lg_sl ([.ref h0, .int p0, .int 1])).length) Slot.unset).toArray = ls at hl ⊢
  have hl : lv_has ls 4 [(0, .ref h0), (1, .int p0), (2, .int 1)] := hl
  refine lv_iload_n hx hb d_TS_put_0 rfl (lv_at hl 2 rfl) ?_
  refine lv_iconst (v := 1) hx hb d_TS_put_1 (by decide) ?_
  refine lv_icmp_lt (tgt := 22) hx hb d_TS_put_2 (by decide) (fun h9 => absurd h9 (by decide)) (fun _ => ?_)
  refine lv_iload_n hx hb d_TS_put_5 rfl (lv_at hl 2 rfl) ?_
  refine lv_iconst (v := 4) hx hb d_TS_put_6 (by decide) ?_
  refine lv_icmp_gt (tgt := 22) hx hb d_TS_put_7 (by decide) (fun h9 => absurd h9 (by decide)) (fun _ => ?_)
  refine lv_aload_n hx hb d_TS_put_10 rfl (lv_at hl 0 rfl) ?_
  refine va_get (D := (dC, dI)) (ci := 8) (v := .int 0) (C := RTS) (T := FTS) (N := 15) hx hb hB in_TS hown hK hP 0 rfl rfl 11 (by decide) (hB _ hw_318) (fun _ h9 => h9) rfl d_TS_put_11 ?_
  refine lv_iload_n hx hb d_TS_put_14 rfl (lv_at hl 2 rfl) ?_
  refine lv_iadd hx hb d_TS_put_15 ?_
  refine lv_topi (fun z1 z1_e => ?_)
  obtain rfl : z1 = 1 := z1_e.trans (by decide)
  refine lv_sipush (v := 192) hx hb d_TS_put_16 (by decide) ?_
  refine lv_icmp_le (tgt := 24) hx hb d_TS_put_19 (by decide) (fun _ => ?_) (fun h9 => absurd (by decide) h9)
  refine lv_iload_n hx hb d_TS_put_24 rfl (lv_at hl 2 rfl) ?_
  refine lv_iconst (v := 1) hx hb d_TS_put_25 (by decide) ?_
  refine lv_isub hx hb d_TS_put_26 ?_
  refine lv_topi (fun z2 z2_e => ?_)
  obtain rfl : z2 = 0 := z2_e.trans (by decide)
  refine lv_istore_n hx hb d_TS_put_27 rfl hl (by decide) rfl (fun ls hl => ?_)
  have hl : lv_has ls 4 [(3, .int 0), (0, .ref h0), (1, .int p0), (2, .int 1)] := hl
  refine lv_iload_n hx hb d_TS_put_28 rfl (lv_at hl 0 rfl) ?_
  refine lv_if_lt (tgt := 67) hx hb d_TS_put_29 (by decide) (fun h9 => absurd h9 (by decide)) (fun _ => ?_)
  refine lv_aload_n hx hb d_TS_put_32 rfl (lv_at hl 1 rfl) ?_
  refine va_get (D := (dC, dI)) (ci := 8) (v := .ref (q 17)) (C := RTS) (T := FTS) (N := 15) hx hb hB in_TS hown hK hP 0 rfl rfl 10 (by decide) (hB _ hw_317) (fun _ h9 => h9) rfl d_TS_put_33 ?_
  refine lv_aload_n hx hb d_TS_put_36 rfl (lv_at hl 1 rfl) ?_
  refine va_get (D := (dC, dI)) (ci := 8) (v := .int 0) (C := RTS) (T := FTS) (N := 15) hx hb hB in_TS hown hK hP 0 rfl rfl 11 (by decide) (hB _ hw_318) (fun _ h9 => h9) rfl d_TS_put_37 ?_
  refine lv_iload_n hx hb d_TS_put_40 rfl (lv_at hl 2 rfl) ?_
  refine lv_bipush (v := 8) hx hb d_TS_put_41 (by decide) ?_
  refine lv_iload_n hx hb d_TS_put_43 rfl (lv_at hl 0 rfl) ?_
  refine lv_imul hx hb d_TS_put_44 ?_
  refine lv_topi (fun z3 z3_e => ?_)
  obtain rfl : z3 = 0 := z3_e.trans (by decide)
  refine lv_iushr hx hb d_TS_put_45 rfl ?_
  refine lv_topi (fun z4 z4_e => ?_)
  refine lv_sipush (v := 255) hx hb d_TS_put_46 (by decide) ?_
  refine lv_iand hx hb d_TS_put_49 ?_
  refine lv_topi (fun z5 z5_e => ?_)
  refine va_iast (D := (dC, dI)) hx hb hK hP hD hS 1 4 rfl rfl (by unfold vp_in; decide) d_TS_put_50 (fun H locs hP hD hS => ?_)
  have hP : va_P (dC, dI) gx_cl [(h0, .inr (8, [.ref (q 0), .ref (q 3), .ref (q 18), .ref (q 19), .ref (q 6), .ref (q 20), .ref (q 21), .ref (q 22), .ref (q 23), .ref (q 15), .ref (q 17), .int 0, .ref (q 24), .ref (q 25), .int 0])), ((q 17), .inl ((ci 4), 192, .inl (upd (fun _ => 0) (Int32.toNatClampNeg 0) z5)))] H := hP
  have hD : va_D A [(h0, .inr (8, [.ref (q 0), .ref (q 3), .ref (q 18), .ref (q 19), .ref (q 6), .ref (q 20), .ref (q 21), .ref (q 22), .ref (q 23), .ref (q 15), .ref (q 17), .int 0, .ref (q 24), .ref (q 25), .int 0])), ((q 17), .inl ((ci 4), 192, .inl (upd (fun _ => 0) (Int32.toNatClampNeg 0) z5)))] := hD
  refine lv_aload_n hx hb d_TS_put_51 rfl (lv_at hl 1 rfl) ?_
  refine lv_dup hx hb d_TS_put_52 rfl ?_
  refine va_get (D := (dC, dI)) (ci := 8) (v := .int 0) (C := RTS) (T := FTS) (N := 15) hx hb hB in_TS hown hK hP 0 rfl rfl 11 (by decide) (hB _ hw_318) (fun _ h9 => h9) rfl d_TS_put_53 ?_
  refine lv_iconst (v := 1) hx hb d_TS_put_56 (by decide) ?_
  refine lv_iadd hx hb d_TS_put_57 ?_
  refine lv_topi (fun z6 z6_e => ?_)
  obtain rfl : z6 = 1 := z6_e.trans (by decide)
  refine va_put (D := (dC, dI)) (ci := 8) (v := .int 1) (ty := .int) (C := RTS) (T := FTS) (N := 15) hx hb hB in_TS tTS tTS_ok nTS hown hK hP hD hS 0 rfl rfl 11 (by decide) (hB _ hw_318) (fun _ h9 => h9) rfl (by decide +kernel) rfl rfl (Nat.le_of_ble_eq_true rfl) d_TS_put_58 (fun H locs hP hD hS => ?_)
  have hP : va_P (dC, dI) gx_cl [(h0, .inr (8, [.ref (q 0), .ref (q 3), .ref (q 18), .ref (q 19), .ref (q 6), .ref (q 20), .ref (q 21), .ref (q 22), .ref (q 23), .ref (q 15), .ref (q 17), .int 1, .ref (q 24), .ref (q 25), .int 0])), ((q 17), .inl ((ci 4), 192, .inl (upd (fun _ => 0) (Int32.toNatClampNeg 0) z5)))] H := hP
  have hD : va_D A [(h0, .inr (8, [.ref (q 0), .ref (q 3), .ref (q 18), .ref (q 19), .ref (q 6), .ref (q 20), .ref (q 21), .ref (q 22), .ref (q 23), .ref (q 15), .ref (q 17), .int 1, .ref (q 24), .ref (q 25), .int 0])), ((q 17), .inl ((ci 4), 192, .inl (upd (fun _ => 0) (Int32.toNatClampNeg 0) z5)))] := hD
  refine lv_iinc (k := 0) (v := (-1)) hx hb d_TS_put_61 hl rfl (by decide) (by decide) rfl (fun ls hl => ?_)
  have hl : lv_has ls 4 [(3, .int (-1)), (0, .ref h0), (1, .int p0), (2, .int 1)] := hl
  refine lv_goto (tgt := 28) hx hb d_TS_put_64 (by decide) ?_
  refine lv_iload_n hx hb d_TS_put_28 rfl (lv_at hl 0 rfl) ?_
  refine lv_if_lt (tgt := 67) hx hb d_TS_put_29 (by decide) (fun _ => ?_) (fun h9 => absurd (by decide) h9)
  refine lv_iconst (v := 1) hx hb d_TS_put_67 (by decide) ?_
  refine W.widen (k := 0) (n := 0) (Nat.le_of_ble_eq_true rfl) (Nat.le_of_ble_eq_true rfl) ?_
  exact W.zret (v := 1) hx hb hr rfl (fun t ht hW => ⟨⟨1, (), rfl, rfl, trivial⟩, hS.F ht⟩) hS.2.2 d_TS_put_68
set_option maxHeartbeats 4000000 in
set_option maxRecDepth 100000 in
theorem m_TS_put2 (l : Launch) (dC : Nat → ClassId) (dI : Nat → Nat → Nat) (sz : Nat) (h0 : Nat) (q : Nat → Nat) (ci : Nat → ClassId) (p0 : Int32) : Met l y_TS_put w_TS_put ({ frames := 0, cells := 0, slots := 0, locals := 0 }) (va_Pc [.ref h0, .int p0, .int 2] (fun U => U.heap.size = sz ∧ va_P (dC, dI) gx_cl [(h0, .inr (8, [.ref (q 0), .ref (q 3), .ref (q 18), .ref (q 19), .ref (q 6), .ref (q 20), .ref (q 21), .ref (q 22), .ref (q 23), .ref (q 15), .ref (q 17), .int 0, .ref (q 24), .ref (q 25), .int 0])), ((q 17), .inl ((ci 4), 192, .inl (fun _ => 0)))] U.heap ∧ va_K (dC, dI) gx_cl (kTS ci) U ∧ va_D (fun _ => True) [(h0, .inr (8, [.ref (q 0), .ref (q 3), .ref (q 18), .ref (q 19), .ref (q 6), .ref (q 20), .ref (q 21), .ref (q 22), .ref (q 23), .ref (q 15), .ref (q 17), .int 0, .ref (q 24), .ref (q 25), .int 0])), ((q 17), .inl ((ci 4), 192, .inl (fun _ => 0)))])) (va_Qi (fun (r : Int32) (_ : Unit) => r = 1) (fun _ t => True) (va_A [(h0, .inr (8, [.ref (q 0), .ref (q 3), .ref (q 18), .ref (q 19), .ref (q 6), .ref (q 20), .ref (q 21), .ref (q 22), .ref (q 23), .ref (q 15), .ref (q 17), .int 0, .ref (q 24), .ref (q 25), .int 0])), ((q 17), .inl ((ci 4), 192, .inl (fun _ => 0)))] sz)) 0 0 (va_A [(h0, .inr (8, [.ref (q 0), .ref (q 3), .ref (q 18), .ref (q 19), .ref (q 6), .ref (q 20), .ref (q 21), .ref (q 22), .ref (q 23), .ref (q 15), .ref (q 17), .int 0, .ref (q 24), .ref (q 25), .int 0])), ((q 17), .inl ((ci 4), 192, .inl (fun _ => 0)))] sz) := by
  refine Met.ofW (cc := b_TS_put) (maxL := 4) (ret := (some .boolean)) (by decide) rfl ?_
  intro p e s m args below meth c s₁ B hml hv
  obtain ⟨rfl, hsz, hP, hK, hD0⟩ := hv
  have hx := B.exec
  have hb := B.bytes
  have hr := B.returns
  have hts := atoms_spec (ws := w_TS_put) B.pre
  have hB : ∀ w ∈ gx_B, w.before _ s = true := fun w h => hts w (List.mem_cons_of_mem _ h)
  have hown : s.vm.findClass "TapeSealer" = some m.cls := findClass_of_methodNamed B.named
  have hlocks := B.notSynchronized
  subst hsz
  have hD := hD0.self (sz := s.heap.size)
  generalize hAe : va_A [(h0, .inr (8, [.ref (q 0), .ref (q 3), .ref (q 18), .ref (q 19), .ref (q 6), .ref (q 20), .ref (q 21), .ref (q 22), .ref (q 23), .ref (q 15), .ref (q 17), .int 0, .ref (q 24), .ref (q 25), .int 0])), ((q 17), .inl ((ci 4), 192, .inl (fun _ => 0)))] s.heap.size = A at hD ⊢
  have hA : ∀ q : Nat, s.heap.size ≤ q → A q := fun q h => by rw [← hAe]; exact Or.inr h
  have hS : va_S A s.heap s.heap [] := va_S.rf
  have hl := lv_entry ([.ref h0, .int p0, .int 2]) (n := 4) (Nat.le_of_ble_eq_true rfl)
  rw [lg_entry_eq]
  generalize (lg_sl ([.ref h0, .int p0, .int 2]) ++ List.replicate (4 - (lg_sl ([.ref h0, .int p0, .int 2])).length) Slot.unset).toArray = ls at hl ⊢
  have hl : lv_has ls 4 [(0, .ref h0), (1, .int p0), (2, .int 2)] := hl
  refine lv_iload_n hx hb d_TS_put_0 rfl (lv_at hl 2 rfl) ?_
  refine lv_iconst (v := 1) hx hb d_TS_put_1 (by decide) ?_
  refine lv_icmp_lt (tgt := 22) hx hb d_TS_put_2 (by decide) (fun h9 => absurd h9 (by decide)) (fun _ => ?_)
  refine lv_iload_n hx hb d_TS_put_5 rfl (lv_at hl 2 rfl) ?_
  refine lv_iconst (v := 4) hx hb d_TS_put_6 (by decide) ?_
  refine lv_icmp_gt (tgt := 22) hx hb d_TS_put_7 (by decide) (fun h9 => absurd h9 (by decide)) (fun _ => ?_)
  refine lv_aload_n hx hb d_TS_put_10 rfl (lv_at hl 0 rfl) ?_
  refine va_get (D := (dC, dI)) (ci := 8) (v := .int 0) (C := RTS) (T := FTS) (N := 15) hx hb hB in_TS hown hK hP 0 rfl rfl 11 (by decide) (hB _ hw_318) (fun _ h9 => h9) rfl d_TS_put_11 ?_
  refine lv_iload_n hx hb d_TS_put_14 rfl (lv_at hl 2 rfl) ?_
  refine lv_iadd hx hb d_TS_put_15 ?_
  refine lv_topi (fun z1 z1_e => ?_)
  obtain rfl : z1 = 2 := z1_e.trans (by decide)
  refine lv_sipush (v := 192) hx hb d_TS_put_16 (by decide) ?_
  refine lv_icmp_le (tgt := 24) hx hb d_TS_put_19 (by decide) (fun _ => ?_) (fun h9 => absurd (by decide) h9)
  refine lv_iload_n hx hb d_TS_put_24 rfl (lv_at hl 2 rfl) ?_
  refine lv_iconst (v := 1) hx hb d_TS_put_25 (by decide) ?_
  refine lv_isub hx hb d_TS_put_26 ?_
  refine lv_topi (fun z2 z2_e => ?_)
  obtain rfl : z2 = 1 := z2_e.trans (by decide)
  refine lv_istore_n hx hb d_TS_put_27 rfl hl (by decide) rfl (fun ls hl => ?_)
  have hl : lv_has ls 4 [(3, .int 1), (0, .ref h0), (1, .int p0), (2, .int 2)] := hl
  refine lv_iload_n hx hb d_TS_put_28 rfl (lv_at hl 0 rfl) ?_
  refine lv_if_lt (tgt := 67) hx hb d_TS_put_29 (by decide) (fun h9 => absurd h9 (by decide)) (fun _ => ?_)
  refine lv_aload_n hx hb d_TS_put_32 rfl (lv_at hl 1 rfl) ?_
  refine va_get (D := (dC, dI)) (ci := 8) (v := .ref (q 17)) (C := RTS) (T := FTS) (N := 15) hx hb hB in_TS hown hK hP 0 rfl rfl 10 (by decide) (hB _ hw_317) (fun _ h9 => h9) rfl d_TS_put_33 ?_
  refine lv_aload_n hx hb d_TS_put_36 rfl (lv_at hl 1 rfl) ?_
  refine va_get (D := (dC, dI)) (ci := 8) (v := .int 0) (C := RTS) (T := FTS) (N := 15) hx hb hB in_TS hown hK hP 0 rfl rfl 11 (by decide) (hB _ hw_318) (fun _ h9 => h9) rfl d_TS_put_37 ?_
  refine lv_iload_n hx hb d_TS_put_40 rfl (lv_at hl 2 rfl) ?_
  refine lv_bipush (v := 8) hx hb d_TS_put_41 (by decide) ?_
  refine lv_iload_n hx hb d_TS_put_43 rfl (lv_at hl 0 rfl) ?_
  refine lv_imul hx hb d_TS_put_44 ?_
  refine lv_topi (fun z3 z3_e => ?_)
  obtain rfl : z3 = 8 := z3_e.trans (by decide)
  refine lv_iushr hx hb d_TS_put_45 rfl ?_
  refine lv_topi (fun z4 z4_e => ?_)
  refine lv_sipush (v := 255) hx hb d_TS_put_46 (by decide) ?_
  refine lv_iand hx hb d_TS_put_49 ?_
  refine lv_topi (fun z5 z5_e => ?_)
  refine va_iast (D := (dC, dI)) hx hb hK hP hD hS 1 4 rfl rfl (by unfold vp_in; decide) d_TS_put_50 (fun H locs hP hD hS => ?_)
  have hP : va_P (dC, dI) gx_cl [(h0, .inr (8, [.ref (q 0), .ref (q 3), .ref (q 18), .ref (q 19), .ref (q 6), .ref (q 20), .ref (q 21), .ref (q 22), .ref (q 23), .ref (q 15), .ref (q 17), .int 0, .ref (q 24), .ref (q 25), .int 0])), ((q 17), .inl ((ci 4), 192, .inl (upd (fun _ => 0) (Int32.toNatClampNeg 0) z5)))] H := hP
  have hD : va_D A [(h0, .inr (8, [.ref (q 0), .ref (q 3), .ref (q 18), .ref (q 19), .ref (q 6), .ref (q 20), .ref (q 21), .ref (q 22), .ref (q 23), .ref (q 15), .ref (q 17), .int 0, .ref (q 24), .ref (q 25), .int 0])), ((q 17), .inl ((ci 4), 192, .inl (upd (fun _ => 0) (Int32.toNatClampNeg 0) z5)))] := hD
  refine lv_aload_n hx hb d_TS_put_51 rfl (lv_at hl 1 rfl) ?_
  refine lv_dup hx hb d_TS_put_52 rfl ?_
  refine va_get (D := (dC, dI)) (ci := 8) (v := .int 0) (C := RTS) (T := FTS) (N := 15) hx hb hB in_TS hown hK hP 0 rfl rfl 11 (by decide) (hB _ hw_318) (fun _ h9 => h9) rfl d_TS_put_53 ?_
  refine lv_iconst (v := 1) hx hb d_TS_put_56 (by decide) ?_
  refine lv_iadd hx hb d_TS_put_57 ?_
  refine lv_topi (fun z6 z6_e => ?_)
  obtain rfl : z6 = 1 := z6_e.trans (by decide)
  refine va_put (D := (dC, dI)) (ci := 8) (v := .int 1) (ty := .int) (C := RTS) (T := FTS) (N := 15) hx hb hB in_TS tTS tTS_ok nTS hown hK hP hD hS 0 rfl rfl 11 (by decide) (hB _ hw_318) (fun _ h9 => h9) rfl (by decide +kernel) rfl rfl (Nat.le_of_ble_eq_true rfl) d_TS_put_58 (fun H locs hP hD hS => ?_)
  have hP : va_P (dC, dI) gx_cl [(h0, .inr (8, [.ref (q 0), .ref (q 3), .ref (q 18), .ref (q 19), .ref (q 6), .ref (q 20), .ref (q 21), .ref (q 22), .ref (q 23), .ref (q 15), .ref (q 17), .int 1, .ref (q 24), .ref (q 25), .int 0])), ((q 17), .inl ((ci 4), 192, .inl (upd (fun _ => 0) (Int32.toNatClampNeg 0) z5)))] H := hP
  have hD : va_D A [(h0, .inr (8, [.ref (q 0), .ref (q 3), .ref (q 18), .ref (q 19), .ref (q 6), .ref (q 20), .ref (q 21), .ref (q 22), .ref (q 23), .ref (q 15), .ref (q 17), .int 1, .ref (q 24), .ref (q 25), .int 0])), ((q 17), .inl ((ci 4), 192, .inl (upd (fun _ => 0) (Int32.toNatClampNeg 0) z5)))] := hD
  refine lv_iinc (k := 0) (v := 0) hx hb d_TS_put_61 hl rfl (by decide) (by decide) rfl (fun ls hl => ?_)
  have hl : lv_has ls 4 [(3, .int 0), (0, .ref h0), (1, .int p0), (2, .int 2)] := hl
  refine lv_goto (tgt := 28) hx hb d_TS_put_64 (by decide) ?_
  refine lv_iload_n hx hb d_TS_put_28 rfl (lv_at hl 0 rfl) ?_
  refine lv_if_lt (tgt := 67) hx hb d_TS_put_29 (by decide) (fun h9 => absurd h9 (by decide)) (fun _ => ?_)
  refine lv_aload_n hx hb d_TS_put_32 rfl (lv_at hl 1 rfl) ?_
  refine va_get (D := (dC, dI)) (ci := 8) (v := .ref (q 17)) (C := RTS) (T := FTS) (N := 15) hx hb hB in_TS hown hK hP 0 rfl rfl 10 (by decide) (hB _ hw_317) (fun _ h9 => h9) rfl d_TS_put_33 ?_
  refine lv_aload_n hx hb d_TS_put_36 rfl (lv_at hl 1 rfl) ?_
  refine va_get (D := (dC, dI)) (ci := 8) (v := .int 1) (C := RTS) (T := FTS) (N := 15) hx hb hB in_TS hown hK hP 0 rfl rfl 11 (by decide) (hB _ hw_318) (fun _ h9 => h9) rfl d_TS_put_37 ?_
  refine lv_iload_n hx hb d_TS_put_40 rfl (lv_at hl 2 rfl) ?_
  refine lv_bipush (v := 8) hx hb d_TS_put_41 (by decide) ?_
  refine lv_iload_n hx hb d_TS_put_43 rfl (lv_at hl 0 rfl) ?_
  refine lv_imul hx hb d_TS_put_44 ?_
  refine lv_topi (fun z7 z7_e => ?_)
  obtain rfl : z7 = 0 := z7_e.trans (by decide)
  refine lv_iushr hx hb d_TS_put_45 rfl ?_
  refine lv_topi (fun z8 z8_e => ?_)
  refine lv_sipush (v := 255) hx hb d_TS_put_46 (by decide) ?_
  refine lv_iand hx hb d_TS_put_49 ?_
  refine lv_topi (fun z9 z9_e => ?_)
  refine va_iast (D := (dC, dI)) hx hb hK hP hD hS 1 4 rfl rfl (by unfold vp_in; decide) d_TS_put_50 (fun H locs hP hD hS => ?_)
  have hP : va_P (dC, dI) gx_cl [(h0, .inr (8, [.ref (q 0), .ref (q 3), .ref (q 18), .ref (q 19), .ref (q 6), .ref (q 20), .ref (q 21), .ref (q 22), .ref (q 23), .ref (q 15), .ref (q 17), .int 1, .ref (q 24), .ref (q 25), .int 0])), ((q 17), .inl ((ci 4), 192, .inl (upd (upd (fun _ => 0) (Int32.toNatClampNeg 0) z5) (Int32.toNatClampNeg 1) z9)))] H := hP
  have hD : va_D A [(h0, .inr (8, [.ref (q 0), .ref (q 3), .ref (q 18), .ref (q 19), .ref (q 6), .ref (q 20), .ref (q 21), .ref (q 22), .ref (q 23), .ref (q 15), .ref (q 17), .int 1, .ref (q 24), .ref (q 25), .int 0])), ((q 17), .inl ((ci 4), 192, .inl (upd (upd (fun _ => 0) (Int32.toNatClampNeg 0) z5) (Int32.toNatClampNeg 1) z9)))] := hD
  refine lv_aload_n hx hb d_TS_put_51 rfl (lv_at hl 1 rfl) ?_
  refine lv_dup hx hb d_TS_put_52 rfl ?_
  refine va_get (D := (dC, dI)) (ci := 8) (v := .int 1) (C := RTS) (T := FTS) (N := 15) hx hb hB in_TS hown hK hP 0 rfl rfl 11 (by decide) (hB _ hw_318) (fun _ h9 => h9) rfl d_TS_put_53 ?_
  refine lv_iconst (v := 1) hx hb d_TS_put_56 (by decide) ?_
  refine lv_iadd hx hb d_TS_put_57 ?_
  refine lv_topi (fun z10 z10_e => ?_)
  obtain rfl : z10 = 2 := z10_e.trans (by decide)
  refine va_put (D := (dC, dI)) (ci := 8) (v := .int 2) (ty := .int) (C := RTS) (T := FTS) (N := 15) hx hb hB in_TS tTS tTS_ok nTS hown hK hP hD hS 0 rfl rfl 11 (by decide) (hB _ hw_318) (fun _ h9 => h9) rfl (by decide +kernel) rfl rfl (Nat.le_of_ble_eq_true rfl) d_TS_put_58 (fun H locs hP hD hS => ?_)
  have hP : va_P (dC, dI) gx_cl [(h0, .inr (8, [.ref (q 0), .ref (q 3), .ref (q 18), .ref (q 19), .ref (q 6), .ref (q 20), .ref (q 21), .ref (q 22), .ref (q 23), .ref (q 15), .ref (q 17), .int 2, .ref (q 24), .ref (q 25), .int 0])), ((q 17), .inl ((ci 4), 192, .inl (upd (upd (fun _ => 0) (Int32.toNatClampNeg 0) z5) (Int32.toNatClampNeg 1) z9)))] H := hP
  have hD : va_D A [(h0, .inr (8, [.ref (q 0), .ref (q 3), .ref (q 18), .ref (q 19), .ref (q 6), .ref (q 20), .ref (q 21), .ref (q 22), .ref (q 23), .ref (q 15), .ref (q 17), .int 2, .ref (q 24), .ref (q 25), .int 0])), ((q 17), .inl ((ci 4), 192, .inl (upd (upd (fun _ => 0) (Int32.toNatClampNeg 0) z5) (Int32.toNatClampNeg 1) z9)))] := hD
  refine lv_iinc (k := 0) (v := (-1)) hx hb d_TS_put_61 hl rfl (by decide) (by decide) rfl (fun ls hl => ?_)
  have hl : lv_has ls 4 [(3, .int (-1)), (0, .ref h0), (1, .int p0), (2, .int 2)] := hl
  refine lv_goto (tgt := 28) hx hb d_TS_put_64 (by decide) ?_
  refine lv_iload_n hx hb d_TS_put_28 rfl (lv_at hl 0 rfl) ?_
  refine lv_if_lt (tgt := 67) hx hb d_TS_put_29 (by decide) (fun _ => ?_) (fun h9 => absurd (by decide) h9)
  refine lv_iconst (v := 1) hx hb d_TS_put_67 (by decide) ?_
  refine W.widen (k := 0) (n := 0) (Nat.le_of_ble_eq_true rfl) (Nat.le_of_ble_eq_true rfl) ?_
  exact W.zret (v := 1) hx hb hr rfl (fun t ht hW => ⟨⟨1, (), rfl, rfl, trivial⟩, hS.F ht⟩) hS.2.2 d_TS_put_68
set_option maxHeartbeats 4000000 in
set_option maxRecDepth 100000 in
theorem m_TS_put3 (l : Launch) (dC : Nat → ClassId) (dI : Nat → Nat → Nat) (sz : Nat) (h0 : Nat) (q : Nat → Nat) (ci : Nat → ClassId) (p0 : Int32) : Met l y_TS_put w_TS_put ({ frames := 0, cells := 0, slots := 0, locals := 0 }) (va_Pc [.ref h0, .int p0, .int 3] (fun U => U.heap.size = sz ∧ va_P (dC, dI) gx_cl [(h0, .inr (8, [.ref (q 0), .ref (q 3), .ref (q 18), .ref (q 19), .ref (q 6), .ref (q 20), .ref (q 21), .ref (q 22), .ref (q 23), .ref (q 15), .ref (q 17), .int 0, .ref (q 24), .ref (q 25), .int 0])), ((q 17), .inl ((ci 4), 192, .inl (fun _ => 0)))] U.heap ∧ va_K (dC, dI) gx_cl (kTS ci) U ∧ va_D (fun _ => True) [(h0, .inr (8, [.ref (q 0), .ref (q 3), .ref (q 18), .ref (q 19), .ref (q 6), .ref (q 20), .ref (q 21), .ref (q 22), .ref (q 23), .ref (q 15), .ref (q 17), .int 0, .ref (q 24), .ref (q 25), .int 0])), ((q 17), .inl ((ci 4), 192, .inl (fun _ => 0)))])) (va_Qi (fun (r : Int32) (_ : Unit) => r = 1) (fun _ t => True) (va_A [(h0, .inr (8, [.ref (q 0), .ref (q 3), .ref (q 18), .ref (q 19), .ref (q 6), .ref (q 20), .ref (q 21), .ref (q 22), .ref (q 23), .ref (q 15), .ref (q 17), .int 0, .ref (q 24), .ref (q 25), .int 0])), ((q 17), .inl ((ci 4), 192, .inl (fun _ => 0)))] sz)) 0 0 (va_A [(h0, .inr (8, [.ref (q 0), .ref (q 3), .ref (q 18), .ref (q 19), .ref (q 6), .ref (q 20), .ref (q 21), .ref (q 22), .ref (q 23), .ref (q 15), .ref (q 17), .int 0, .ref (q 24), .ref (q 25), .int 0])), ((q 17), .inl ((ci 4), 192, .inl (fun _ => 0)))] sz) := by
  refine Met.ofW (cc := b_TS_put) (maxL := 4) (ret := (some .boolean)) (by decide) rfl ?_
  intro p e s m args below meth c s₁ B hml hv
  obtain ⟨rfl, hsz, hP, hK, hD0⟩ := hv
  have hx := B.exec
  have hb := B.bytes
  have hr := B.returns
  have hts := atoms_spec (ws := w_TS_put) B.pre
  have hB : ∀ w ∈ gx_B, w.before _ s = true := fun w h => hts w (List.mem_cons_of_mem _ h)
  have hown : s.vm.findClass "TapeSealer" = some m.cls := findClass_of_methodNamed B.named
  have hlocks := B.notSynchronized
  subst hsz
  have hD := hD0.self (sz := s.heap.size)
  generalize hAe : va_A [(h0, .inr (8, [.ref (q 0), .ref (q 3), .ref (q 18), .ref (q 19), .ref (q 6), .ref (q 20), .ref (q 21), .ref (q 22), .ref (q 23), .ref (q 15), .ref (q 17), .int 0, .ref (q 24), .ref (q 25), .int 0])), ((q 17), .inl ((ci 4), 192, .inl (fun _ => 0)))] s.heap.size = A at hD ⊢
  have hA : ∀ q : Nat, s.heap.size ≤ q → A q := fun q h => by rw [← hAe]; exact Or.inr h
  have hS : va_S A s.heap s.heap [] := va_S.rf
  have hl := lv_entry ([.ref h0, .int p0, .int 3]) (n := 4) (Nat.le_of_ble_eq_true rfl)
  rw [lg_entry_eq]
  generalize (lg_sl ([.ref h0, .int p0, .int 3]) ++ List.replicate (4 - (lg_sl ([.ref h0, .int p0, .int 3])).length) Slot.unset).toArray = ls at hl ⊢
  have hl : lv_has ls 4 [(0, .ref h0), (1, .int p0), (2, .int 3)] := hl
  refine lv_iload_n hx hb d_TS_put_0 rfl (lv_at hl 2 rfl) ?_
  refine lv_iconst (v := 1) hx hb d_TS_put_1 (by decide) ?_
  refine lv_icmp_lt (tgt := 22) hx hb d_TS_put_2 (by decide) (fun h9 => absurd h9 (by decide)) (fun _ => ?_)
  refine lv_iload_n hx hb d_TS_put_5 rfl (lv_at hl 2 rfl) ?_
  refine lv_iconst (v := 4) hx hb d_TS_put_6 (by decide) ?_
  refine lv_icmp_gt (tgt := 22) hx hb d_TS_put_7 (by decide) (fun h9 => absurd h9 (by decide)) (fun _ => ?_)
  refine lv_aload_n hx hb d_TS_put_10 rfl (lv_at hl 0 rfl) ?_
  refine va_get (D := (dC, dI)) (ci := 8) (v := .int 0) (C := RTS) (T := FTS) (N := 15) hx hb hB in_TS hown hK hP 0 rfl rfl 11 (by decide) (hB _ hw_318) (fun _ h9 => h9) rfl d_TS_put_11 ?_
  refine lv_iload_n hx hb d_TS_put_14 rfl (lv_at hl 2 rfl) ?_
  refine lv_iadd hx hb d_TS_put_15 ?_
  refine lv_topi (fun z1 z1_e => ?_)
  obtain rfl : z1 = 3 := z1_e.trans (by decide)
  refine lv_sipush (v := 192) hx hb d_TS_put_16 (by decide) ?_
  refine lv_icmp_le (tgt := 24) hx hb d_TS_put_19 (by decide) (fun _ => ?_) (fun h9 => absurd (by decide) h9)
  refine lv_iload_n hx hb d_TS_put_24 rfl (lv_at hl 2 rfl) ?_
  refine lv_iconst (v := 1) hx hb d_TS_put_25 (by decide) ?_
  refine lv_isub hx hb d_TS_put_26 ?_
  refine lv_topi (fun z2 z2_e => ?_)
  obtain rfl : z2 = 2 := z2_e.trans (by decide)
  refine lv_istore_n hx hb d_TS_put_27 rfl hl (by decide) rfl (fun ls hl => ?_)
  have hl : lv_has ls 4 [(3, .int 2), (0, .ref h0), (1, .int p0), (2, .int 3)] := hl
  refine lv_iload_n hx hb d_TS_put_28 rfl (lv_at hl 0 rfl) ?_
  refine lv_if_lt (tgt := 67) hx hb d_TS_put_29 (by decide) (fun h9 => absurd h9 (by decide)) (fun _ => ?_)
  refine lv_aload_n hx hb d_TS_put_32 rfl (lv_at hl 1 rfl) ?_
  refine va_get (D := (dC, dI)) (ci := 8) (v := .ref (q 17)) (C := RTS) (T := FTS) (N := 15) hx hb hB in_TS hown hK hP 0 rfl rfl 10 (by decide) (hB _ hw_317) (fun _ h9 => h9) rfl d_TS_put_33 ?_
  refine lv_aload_n hx hb d_TS_put_36 rfl (lv_at hl 1 rfl) ?_
  refine va_get (D := (dC, dI)) (ci := 8) (v := .int 0) (C := RTS) (T := FTS) (N := 15) hx hb hB in_TS hown hK hP 0 rfl rfl 11 (by decide) (hB _ hw_318) (fun _ h9 => h9) rfl d_TS_put_37 ?_
  refine lv_iload_n hx hb d_TS_put_40 rfl (lv_at hl 2 rfl) ?_
  refine lv_bipush (v := 8) hx hb d_TS_put_41 (by decide) ?_
  refine lv_iload_n hx hb d_TS_put_43 rfl (lv_at hl 0 rfl) ?_
  refine lv_imul hx hb d_TS_put_44 ?_
  refine lv_topi (fun z3 z3_e => ?_)
  obtain rfl : z3 = 16 := z3_e.trans (by decide)
  refine lv_iushr hx hb d_TS_put_45 rfl ?_
  refine lv_topi (fun z4 z4_e => ?_)
  refine lv_sipush (v := 255) hx hb d_TS_put_46 (by decide) ?_
  refine lv_iand hx hb d_TS_put_49 ?_
  refine lv_topi (fun z5 z5_e => ?_)
  refine va_iast (D := (dC, dI)) hx hb hK hP hD hS 1 4 rfl rfl (by unfold vp_in; decide) d_TS_put_50 (fun H locs hP hD hS => ?_)
  have hP : va_P (dC, dI) gx_cl [(h0, .inr (8, [.ref (q 0), .ref (q 3), .ref (q 18), .ref (q 19), .ref (q 6), .ref (q 20), .ref (q 21), .ref (q 22), .ref (q 23), .ref (q 15), .ref (q 17), .int 0, .ref (q 24), .ref (q 25), .int 0])), ((q 17), .inl ((ci 4), 192, .inl (upd (fun _ => 0) (Int32.toNatClampNeg 0) z5)))] H := hP
  have hD : va_D A [(h0, .inr (8, [.ref (q 0), .ref (q 3), .ref (q 18), .ref (q 19), .ref (q 6), .ref (q 20), .ref (q 21), .ref (q 22), .ref (q 23), .ref (q 15), .ref (q 17), .int 0, .ref (q 24), .ref (q 25), .int 0])), ((q 17), .inl ((ci 4), 192, .inl (upd (fun _ => 0) (Int32.toNatClampNeg 0) z5)))] := hD
  refine lv_aload_n hx hb d_TS_put_51 rfl (lv_at hl 1 rfl) ?_
  refine lv_dup hx hb d_TS_put_52 rfl ?_
  refine va_get (D := (dC, dI)) (ci := 8) (v := .int 0) (C := RTS) (T := FTS) (N := 15) hx hb hB in_TS hown hK hP 0 rfl rfl 11 (by decide) (hB _ hw_318) (fun _ h9 => h9) rfl d_TS_put_53 ?_
  refine lv_iconst (v := 1) hx hb d_TS_put_56 (by decide) ?_
  refine lv_iadd hx hb d_TS_put_57 ?_
  refine lv_topi (fun z6 z6_e => ?_)
  obtain rfl : z6 = 1 := z6_e.trans (by decide)
  refine va_put (D := (dC, dI)) (ci := 8) (v := .int 1) (ty := .int) (C := RTS) (T := FTS) (N := 15) hx hb hB in_TS tTS tTS_ok nTS hown hK hP hD hS 0 rfl rfl 11 (by decide) (hB _ hw_318) (fun _ h9 => h9) rfl (by decide +kernel) rfl rfl (Nat.le_of_ble_eq_true rfl) d_TS_put_58 (fun H locs hP hD hS => ?_)
  have hP : va_P (dC, dI) gx_cl [(h0, .inr (8, [.ref (q 0), .ref (q 3), .ref (q 18), .ref (q 19), .ref (q 6), .ref (q 20), .ref (q 21), .ref (q 22), .ref (q 23), .ref (q 15), .ref (q 17), .int 1, .ref (q 24), .ref (q 25), .int 0])), ((q 17), .inl ((ci 4), 192, .inl (upd (fun _ => 0) (Int32.toNatClampNeg 0) z5)))] H := hP
  have hD : va_D A [(h0, .inr (8, [.ref (q 0), .ref (q 3), .ref (q 18), .ref (q 19), .ref (q 6), .ref (q 20), .ref (q 21), .ref (q 22), .ref (q 23), .ref (q 15), .ref (q 17), .int 1, .ref (q 24), .ref (q 25), .int 0])), ((q 17), .inl ((ci 4), 192, .inl (upd (fun _ => 0) (Int32.toNatClampNeg 0) z5)))] := hD
  refine lv_iinc (k := 0) (v := 1) hx hb d_TS_put_61 hl rfl (by decide) (by decide) rfl (fun ls hl => ?_)
  have hl : lv_has ls 4 [(3, .int 1), (0, .ref h0), (1, .int p0), (2, .int 3)] := hl
  refine lv_goto (tgt := 28) hx hb d_TS_put_64 (by decide) ?_
  refine lv_iload_n hx hb d_TS_put_28 rfl (lv_at hl 0 rfl) ?_
  refine lv_if_lt (tgt := 67) hx hb d_TS_put_29 (by decide) (fun h9 => absurd h9 (by decide)) (fun _ => ?_)
  refine lv_aload_n hx hb d_TS_put_32 rfl (lv_at hl 1 rfl) ?_
  refine va_get (D := (dC, dI)) (ci := 8) (v := .ref (q 17)) (C := RTS) (T := FTS) (N := 15) hx hb hB in_TS hown hK hP 0 rfl rfl 10 (by decide) (hB _ hw_317) (fun _ h9 => h9) rfl d_TS_put_33 ?_
  refine lv_aload_n hx hb d_TS_put_36 rfl (lv_at hl 1 rfl) ?_
  refine va_get (D := (dC, dI)) (ci := 8) (v := .int 1) (C := RTS) (T := FTS) (N := 15) hx hb hB in_TS hown hK hP 0 rfl rfl 11 (by decide) (hB _ hw_318) (fun _ h9 => h9) rfl d_TS_put_37 ?_
  refine lv_iload_n hx hb d_TS_put_40 rfl (lv_at hl 2 rfl) ?_
  refine lv_bipush (v := 8) hx hb d_TS_put_41 (by decide) ?_
  refine lv_iload_n hx hb d_TS_put_43 rfl (lv_at hl 0 rfl) ?_
  refine lv_imul hx hb d_TS_put_44 ?_
  refine lv_topi (fun z7 z7_e => ?_)
  obtain rfl : z7 = 8 := z7_e.trans (by decide)
  refine lv_iushr hx hb d_TS_put_45 rfl ?_
  refine lv_topi (fun z8 z8_e => ?_)
  refine lv_sipush (v := 255) hx hb d_TS_put_46 (by decide) ?_
  refine lv_iand hx hb d_TS_put_49 ?_
  refine lv_topi (fun z9 z9_e => ?_)
  refine va_iast (D := (dC, dI)) hx hb hK hP hD hS 1 4 rfl rfl (by unfold vp_in; decide) d_TS_put_50 (fun H locs hP hD hS => ?_)
  have hP : va_P (dC, dI) gx_cl [(h0, .inr (8, [.ref (q 0), .ref (q 3), .ref (q 18), .ref (q 19), .ref (q 6), .ref (q 20), .ref (q 21), .ref (q 22), .ref (q 23), .ref (q 15), .ref (q 17), .int 1, .ref (q 24), .ref (q 25), .int 0])), ((q 17), .inl ((ci 4), 192, .inl (upd (upd (fun _ => 0) (Int32.toNatClampNeg 0) z5) (Int32.toNatClampNeg 1) z9)))] H := hP
  have hD : va_D A [(h0, .inr (8, [.ref (q 0), .ref (q 3), .ref (q 18), .ref (q 19), .ref (q 6), .ref (q 20), .ref (q 21), .ref (q 22), .ref (q 23), .ref (q 15), .ref (q 17), .int 1, .ref (q 24), .ref (q 25), .int 0])), ((q 17), .inl ((ci 4), 192, .inl (upd (upd (fun _ => 0) (Int32.toNatClampNeg 0) z5) (Int32.toNatClampNeg 1) z9)))] := hD
  refine lv_aload_n hx hb d_TS_put_51 rfl (lv_at hl 1 rfl) ?_
  refine lv_dup hx hb d_TS_put_52 rfl ?_
  refine va_get (D := (dC, dI)) (ci := 8) (v := .int 1) (C := RTS) (T := FTS) (N := 15) hx hb hB in_TS hown hK hP 0 rfl rfl 11 (by decide) (hB _ hw_318) (fun _ h9 => h9) rfl d_TS_put_53 ?_
  refine lv_iconst (v := 1) hx hb d_TS_put_56 (by decide) ?_
  refine lv_iadd hx hb d_TS_put_57 ?_
  refine lv_topi (fun z10 z10_e => ?_)
  obtain rfl : z10 = 2 := z10_e.trans (by decide)
  refine va_put (D := (dC, dI)) (ci := 8) (v := .int 2) (ty := .int) (C := RTS) (T := FTS) (N := 15) hx hb hB in_TS tTS tTS_ok nTS hown hK hP hD hS 0 rfl rfl 11 (by decide) (hB _ hw_318) (fun _ h9 => h9) rfl (by decide +kernel) rfl rfl (Nat.le_of_ble_eq_true rfl) d_TS_put_58 (fun H locs hP hD hS => ?_)
  have hP : va_P (dC, dI) gx_cl [(h0, .inr (8, [.ref (q 0), .ref (q 3), .ref (q 18), .ref (q 19), .ref (q 6), .ref (q 20), .ref (q 21), .ref (q 22), .ref (q 23), .ref (q 15), .ref (q 17), .int 2, .ref (q 24), .ref (q 25), .int 0])), ((q 17), .inl ((ci 4), 192, .inl (upd (upd (fun _ => 0) (Int32.toNatClampNeg 0) z5) (Int32.toNatClampNeg 1) z9)))] H := hP
  have hD : va_D A [(h0, .inr (8, [.ref (q 0), .ref (q 3), .ref (q 18), .ref (q 19), .ref (q 6), .ref (q 20), .ref (q 21), .ref (q 22), .ref (q 23), .ref (q 15), .ref (q 17), .int 2, .ref (q 24), .ref (q 25), .int 0])), ((q 17), .inl ((ci 4), 192, .inl (upd (upd (fun _ => 0) (Int32.toNatClampNeg 0) z5) (Int32.toNatClampNeg 1) z9)))] := hD
  refine lv_iinc (k := 0) (v := 0) hx hb d_TS_put_61 hl rfl (by decide) (by decide) rfl (fun ls hl => ?_)
  have hl : lv_has ls 4 [(3, .int 0), (0, .ref h0), (1, .int p0), (2, .int 3)] := hl
  refine lv_goto (tgt := 28) hx hb d_TS_put_64 (by decide) ?_
  refine lv_iload_n hx hb d_TS_put_28 rfl (lv_at hl 0 rfl) ?_
  refine lv_if_lt (tgt := 67) hx hb d_TS_put_29 (by decide) (fun h9 => absurd h9 (by decide)) (fun _ => ?_)
  refine lv_aload_n hx hb d_TS_put_32 rfl (lv_at hl 1 rfl) ?_
  refine va_get (D := (dC, dI)) (ci := 8) (v := .ref (q 17)) (C := RTS) (T := FTS) (N := 15) hx hb hB in_TS hown hK hP 0 rfl rfl 10 (by decide) (hB _ hw_317) (fun _ h9 => h9) rfl d_TS_put_33 ?_
  refine lv_aload_n hx hb d_TS_put_36 rfl (lv_at hl 1 rfl) ?_
  refine va_get (D := (dC, dI)) (ci := 8) (v := .int 2) (C := RTS) (T := FTS) (N := 15) hx hb hB in_TS hown hK hP 0 rfl rfl 11 (by decide) (hB _ hw_318) (fun _ h9 => h9) rfl d_TS_put_37 ?_
  refine lv_iload_n hx hb d_TS_put_40 rfl (lv_at hl 2 rfl) ?_
  refine lv_bipush (v := 8) hx hb d_TS_put_41 (by decide) ?_
  refine lv_iload_n hx hb d_TS_put_43 rfl (lv_at hl 0 rfl) ?_
  refine lv_imul hx hb d_TS_put_44 ?_
  refine lv_topi (fun z11 z11_e => ?_)
  obtain rfl : z11 = 0 := z11_e.trans (by decide)
  refine lv_iushr hx hb d_TS_put_45 rfl ?_
  refine lv_topi (fun z12 z12_e => ?_)
  refine lv_sipush (v := 255) hx hb d_TS_put_46 (by decide) ?_
  refine lv_iand hx hb d_TS_put_49 ?_
  refine lv_topi (fun z13 z13_e => ?_)
  refine va_iast (D := (dC, dI)) hx hb hK hP hD hS 1 4 rfl rfl (by unfold vp_in; decide) d_TS_put_50 (fun H locs hP hD hS => ?_)
  have hP : va_P (dC, dI) gx_cl [(h0, .inr (8, [.ref (q 0), .ref (q 3), .ref (q 18), .ref (q 19), .ref (q 6), .ref (q 20), .ref (q 21), .ref (q 22), .ref (q 23), .ref (q 15), .ref (q 17), .int 2, .ref (q 24), .ref (q 25), .int 0])), ((q 17), .inl ((ci 4), 192, .inl (upd (upd (upd (fun _ => 0) (Int32.toNatClampNeg 0) z5) (Int32.toNatClampNeg 1) z9) (Int32.toNatClampNeg 2) z13)))] H := hP
  have hD : va_D A [(h0, .inr (8, [.ref (q 0), .ref (q 3), .ref (q 18), .ref (q 19), .ref (q 6), .ref (q 20), .ref (q 21), .ref (q 22), .ref (q 23), .ref (q 15), .ref (q 17), .int 2, .ref (q 24), .ref (q 25), .int 0])), ((q 17), .inl ((ci 4), 192, .inl (upd (upd (upd (fun _ => 0) (Int32.toNatClampNeg 0) z5) (Int32.toNatClampNeg 1) z9) (Int32.toNatClampNeg 2) z13)))] := hD
  refine lv_aload_n hx hb d_TS_put_51 rfl (lv_at hl 1 rfl) ?_
  refine lv_dup hx hb d_TS_put_52 rfl ?_
  refine va_get (D := (dC, dI)) (ci := 8) (v := .int 2) (C := RTS) (T := FTS) (N := 15) hx hb hB in_TS hown hK hP 0 rfl rfl 11 (by decide) (hB _ hw_318) (fun _ h9 => h9) rfl d_TS_put_53 ?_
  refine lv_iconst (v := 1) hx hb d_TS_put_56 (by decide) ?_
  refine lv_iadd hx hb d_TS_put_57 ?_
  refine lv_topi (fun z14 z14_e => ?_)
  obtain rfl : z14 = 3 := z14_e.trans (by decide)
  refine va_put (D := (dC, dI)) (ci := 8) (v := .int 3) (ty := .int) (C := RTS) (T := FTS) (N := 15) hx hb hB in_TS tTS tTS_ok nTS hown hK hP hD hS 0 rfl rfl 11 (by decide) (hB _ hw_318) (fun _ h9 => h9) rfl (by decide +kernel) rfl rfl (Nat.le_of_ble_eq_true rfl) d_TS_put_58 (fun H locs hP hD hS => ?_)
  have hP : va_P (dC, dI) gx_cl [(h0, .inr (8, [.ref (q 0), .ref (q 3), .ref (q 18), .ref (q 19), .ref (q 6), .ref (q 20), .ref (q 21), .ref (q 22), .ref (q 23), .ref (q 15), .ref (q 17), .int 3, .ref (q 24), .ref (q 25), .int 0])), ((q 17), .inl ((ci 4), 192, .inl (upd (upd (upd (fun _ => 0) (Int32.toNatClampNeg 0) z5) (Int32.toNatClampNeg 1) z9) (Int32.toNatClampNeg 2) z13)))] H := hP
  have hD : va_D A [(h0, .inr (8, [.ref (q 0), .ref (q 3), .ref (q 18), .ref (q 19), .ref (q 6), .ref (q 20), .ref (q 21), .ref (q 22), .ref (q 23), .ref (q 15), .ref (q 17), .int 3, .ref (q 24), .ref (q 25), .int 0])), ((q 17), .inl ((ci 4), 192, .inl (upd (upd (upd (fun _ => 0) (Int32.toNatClampNeg 0) z5) (Int32.toNatClampNeg 1) z9) (Int32.toNatClampNeg 2) z13)))] := hD
  refine lv_iinc (k := 0) (v := (-1)) hx hb d_TS_put_61 hl rfl (by decide) (by decide) rfl (fun ls hl => ?_)
  have hl : lv_has ls 4 [(3, .int (-1)), (0, .ref h0), (1, .int p0), (2, .int 3)] := hl
  refine lv_goto (tgt := 28) hx hb d_TS_put_64 (by decide) ?_
  refine lv_iload_n hx hb d_TS_put_28 rfl (lv_at hl 0 rfl) ?_
  refine lv_if_lt (tgt := 67) hx hb d_TS_put_29 (by decide) (fun _ => ?_) (fun h9 => absurd (by decide) h9)
  refine lv_iconst (v := 1) hx hb d_TS_put_67 (by decide) ?_
  refine W.widen (k := 0) (n := 0) (Nat.le_of_ble_eq_true rfl) (Nat.le_of_ble_eq_true rfl) ?_
  exact W.zret (v := 1) hx hb hr rfl (fun t ht hW => ⟨⟨1, (), rfl, rfl, trivial⟩, hS.F ht⟩) hS.2.2 d_TS_put_68
set_option maxHeartbeats 4000000 in
set_option maxRecDepth 100000 in
theorem m_TS_put4 (l : Launch) (dC : Nat → ClassId) (dI : Nat → Nat → Nat) (sz : Nat) (h0 : Nat) (q : Nat → Nat) (ci : Nat → ClassId) (p0 : Int32) : Met l y_TS_put w_TS_put ({ frames := 0, cells := 0, slots := 0, locals := 0 }) (va_Pc [.ref h0, .int p0, .int 4] (fun U => U.heap.size = sz ∧ va_P (dC, dI) gx_cl [(h0, .inr (8, [.ref (q 0), .ref (q 3), .ref (q 18), .ref (q 19), .ref (q 6), .ref (q 20), .ref (q 21), .ref (q 22), .ref (q 23), .ref (q 15), .ref (q 17), .int 0, .ref (q 24), .ref (q 25), .int 0])), ((q 17), .inl ((ci 4), 192, .inl (fun _ => 0)))] U.heap ∧ va_K (dC, dI) gx_cl (kTS ci) U ∧ va_D (fun _ => True) [(h0, .inr (8, [.ref (q 0), .ref (q 3), .ref (q 18), .ref (q 19), .ref (q 6), .ref (q 20), .ref (q 21), .ref (q 22), .ref (q 23), .ref (q 15), .ref (q 17), .int 0, .ref (q 24), .ref (q 25), .int 0])), ((q 17), .inl ((ci 4), 192, .inl (fun _ => 0)))])) (va_Qi (fun (r : Int32) (_ : Unit) => r = 1) (fun _ t => True) (va_A [(h0, .inr (8, [.ref (q 0), .ref (q 3), .ref (q 18), .ref (q 19), .ref (q 6), .ref (q 20), .ref (q 21), .ref (q 22), .ref (q 23), .ref (q 15), .ref (q 17), .int 0, .ref (q 24), .ref (q 25), .int 0])), ((q 17), .inl ((ci 4), 192, .inl (fun _ => 0)))] sz)) 0 0 (va_A [(h0, .inr (8, [.ref (q 0), .ref (q 3), .ref (q 18), .ref (q 19), .ref (q 6), .ref (q 20), .ref (q 21), .ref (q 22), .ref (q 23), .ref (q 15), .ref (q 17), .int 0, .ref (q 24), .ref (q 25), .int 0])), ((q 17), .inl ((ci 4), 192, .inl (fun _ => 0)))] sz) := by
  refine Met.ofW (cc := b_TS_put) (maxL := 4) (ret := (some .boolean)) (by decide) rfl ?_
  intro p e s m args below meth c s₁ B hml hv
  obtain ⟨rfl, hsz, hP, hK, hD0⟩ := hv
  have hx := B.exec
  have hb := B.bytes
  have hr := B.returns
  have hts := atoms_spec (ws := w_TS_put) B.pre
  have hB : ∀ w ∈ gx_B, w.before _ s = true := fun w h => hts w (List.mem_cons_of_mem _ h)
  have hown : s.vm.findClass "TapeSealer" = some m.cls := findClass_of_methodNamed B.named
  have hlocks := B.notSynchronized
  subst hsz
  have hD := hD0.self (sz := s.heap.size)
  generalize hAe : va_A [(h0, .inr (8, [.ref (q 0), .ref (q 3), .ref (q 18), .ref (q 19), .ref (q 6), .ref (q 20), .ref (q 21), .ref (q 22), .ref (q 23), .ref (q 15), .ref (q 17), .int 0, .ref (q 24), .ref (q 25), .int 0])), ((q 17), .inl ((ci 4), 192, .inl (fun _ => 0)))] s.heap.size = A at hD ⊢
  have hA : ∀ q : Nat, s.heap.size ≤ q → A q := fun q h => by rw [← hAe]; exact Or.inr h
  have hS : va_S A s.heap s.heap [] := va_S.rf
  have hl := lv_entry ([.ref h0, .int p0, .int 4]) (n := 4) (Nat.le_of_ble_eq_true rfl)
  rw [lg_entry_eq]
  generalize (lg_sl ([.ref h0, .int p0, .int 4]) ++ List.replicate (4 - (lg_sl ([.ref h0, .int p0, .int 4])).length) Slot.unset).toArray = ls at hl ⊢
  have hl : lv_has ls 4 [(0, .ref h0), (1, .int p0), (2, .int 4)] := hl
  refine lv_iload_n hx hb d_TS_put_0 rfl (lv_at hl 2 rfl) ?_
  refine lv_iconst (v := 1) hx hb d_TS_put_1 (by decide) ?_
  refine lv_icmp_lt (tgt := 22) hx hb d_TS_put_2 (by decide) (fun h9 => absurd h9 (by decide)) (fun _ => ?_)
  refine lv_iload_n hx hb d_TS_put_5 rfl (lv_at hl 2 rfl) ?_
  refine lv_iconst (v := 4) hx hb d_TS_put_6 (by decide) ?_
  refine lv_icmp_gt (tgt := 22) hx hb d_TS_put_7 (by decide) (fun h9 => absurd h9 (by decide)) (fun _ => ?_)
  refine lv_aload_n hx hb d_TS_put_10 rfl (lv_at hl 0 rfl) ?_
  refine va_get (D := (dC, dI)) (ci := 8) (v := .int 0) (C := RTS) (T := FTS) (N := 15) hx hb hB in_TS hown hK hP 0 rfl rfl 11 (by decide) (hB _ hw_318) (fun _ h9 => h9) rfl d_TS_put_11 ?_
  refine lv_iload_n hx hb d_TS_put_14 rfl (lv_at hl 2 rfl) ?_
  refine lv_iadd hx hb d_TS_put_15 ?_
  refine lv_topi (fun z1 z1_e => ?_)
  obtain rfl : z1 = 4 := z1_e.trans (by decide)
  refine lv_sipush (v := 192) hx hb d_TS_put_16 (by decide) ?_
  refine lv_icmp_le (tgt := 24) hx hb d_TS_put_19 (by decide) (fun _ => ?_) (fun h9 => absurd (by decide) h9)
  refine lv_iload_n hx hb d_TS_put_24 rfl (lv_at hl 2 rfl) ?_
  refine lv_iconst (v := 1) hx hb d_TS_put_25 (by decide) ?_
  refine lv_isub hx hb d_TS_put_26 ?_
  refine lv_topi (fun z2 z2_e => ?_)
  obtain rfl : z2 = 3 := z2_e.trans (by decide)
  refine lv_istore_n hx hb d_TS_put_27 rfl hl (by decide) rfl (fun ls hl => ?_)
  have hl : lv_has ls 4 [(3, .int 3), (0, .ref h0), (1, .int p0), (2, .int 4)] := hl
  refine lv_iload_n hx hb d_TS_put_28 rfl (lv_at hl 0 rfl) ?_
  refine lv_if_lt (tgt := 67) hx hb d_TS_put_29 (by decide) (fun h9 => absurd h9 (by decide)) (fun _ => ?_)
  refine lv_aload_n hx hb d_TS_put_32 rfl (lv_at hl 1 rfl) ?_
  refine va_get (D := (dC, dI)) (ci := 8) (v := .ref (q 17)) (C := RTS) (T := FTS) (N := 15) hx hb hB in_TS hown hK hP 0 rfl rfl 10 (by decide) (hB _ hw_317) (fun _ h9 => h9) rfl d_TS_put_33 ?_
  refine lv_aload_n hx hb d_TS_put_36 rfl (lv_at hl 1 rfl) ?_
  refine va_get (D := (dC, dI)) (ci := 8) (v := .int 0) (C := RTS) (T := FTS) (N := 15) hx hb hB in_TS hown hK hP 0 rfl rfl 11 (by decide) (hB _ hw_318) (fun _ h9 => h9) rfl d_TS_put_37 ?_
  refine lv_iload_n hx hb d_TS_put_40 rfl (lv_at hl 2 rfl) ?_
  refine lv_bipush (v := 8) hx hb d_TS_put_41 (by decide) ?_
  refine lv_iload_n hx hb d_TS_put_43 rfl (lv_at hl 0 rfl) ?_
  refine lv_imul hx hb d_TS_put_44 ?_
  refine lv_topi (fun z3 z3_e => ?_)
  obtain rfl : z3 = 24 := z3_e.trans (by decide)
  refine lv_iushr hx hb d_TS_put_45 rfl ?_
  refine lv_topi (fun z4 z4_e => ?_)
  refine lv_sipush (v := 255) hx hb d_TS_put_46 (by decide) ?_
  refine lv_iand hx hb d_TS_put_49 ?_
  refine lv_topi (fun z5 z5_e => ?_)
  refine va_iast (D := (dC, dI)) hx hb hK hP hD hS 1 4 rfl rfl (by unfold vp_in; decide) d_TS_put_50 (fun H locs hP hD hS => ?_)
  have hP : va_P (dC, dI) gx_cl [(h0, .inr (8, [.ref (q 0), .ref (q 3), .ref (q 18), .ref (q 19), .ref (q 6), .ref (q 20), .ref (q 21), .ref (q 22), .ref (q 23), .ref (q 15), .ref (q 17), .int 0, .ref (q 24), .ref (q 25), .int 0])), ((q 17), .inl ((ci 4), 192, .inl (upd (fun _ => 0) (Int32.toNatClampNeg 0) z5)))] H := hP
  have hD : va_D A [(h0, .inr (8, [.ref (q 0), .ref (q 3), .ref (q 18), .ref (q 19), .ref (q 6), .ref (q 20), .ref (q 21), .ref (q 22), .ref (q 23), .ref (q 15), .ref (q 17), .int 0, .ref (q 24), .ref (q 25), .int 0])), ((q 17), .inl ((ci 4), 192, .inl (upd (fun _ => 0) (Int32.toNatClampNeg 0) z5)))] := hD
  refine lv_aload_n hx hb d_TS_put_51 rfl (lv_at hl 1 rfl) ?_
  refine lv_dup hx hb d_TS_put_52 rfl ?_
  refine va_get (D := (dC, dI)) (ci := 8) (v := .int 0) (C := RTS) (T := FTS) (N := 15) hx hb hB in_TS hown hK hP 0 rfl rfl 11 (by decide) (hB _ hw_318) (fun _ h9 => h9) rfl d_TS_put_53 ?_
  refine lv_iconst (v := 1) hx hb d_TS_put_56 (by decide) ?_
  refine lv_iadd hx hb d_TS_put_57 ?_
  refine lv_topi (fun z6 z6_e => ?_)
  obtain rfl : z6 = 1 := z6_e.trans (by decide)
  refine va_put (D := (dC, dI)) (ci := 8) (v := .int 1) (ty := .int) (C := RTS) (T := FTS) (N := 15) hx hb hB in_TS tTS tTS_ok nTS hown hK hP hD hS 0 rfl rfl 11 (by decide) (hB _ hw_318) (fun _ h9 => h9) rfl (by decide +kernel) rfl rfl (Nat.le_of_ble_eq_true rfl) d_TS_put_58 (fun H locs hP hD hS => ?_)
  have hP : va_P (dC, dI) gx_cl [(h0, .inr (8, [.ref (q 0), .ref (q 3), .ref (q 18), .ref (q 19), .ref (q 6), .ref (q 20), .ref (q 21), .ref (q 22), .ref (q 23), .ref (q 15), .ref (q 17), .int 1, .ref (q 24), .ref (q 25), .int 0])), ((q 17), .inl ((ci 4), 192, .inl (upd (fun _ => 0) (Int32.toNatClampNeg 0) z5)))] H := hP
  have hD : va_D A [(h0, .inr (8, [.ref (q 0), .ref (q 3), .ref (q 18), .ref (q 19), .ref (q 6), .ref (q 20), .ref (q 21), .ref (q 22), .ref (q 23), .ref (q 15), .ref (q 17), .int 1, .ref (q 24), .ref (q 25), .int 0])), ((q 17), .inl ((ci 4), 192, .inl (upd (fun _ => 0) (Int32.toNatClampNeg 0) z5)))] := hD
  refine lv_iinc (k := 0) (v := 2) hx hb d_TS_put_61 hl rfl (by decide) (by decide) rfl (fun ls hl => ?_)
  have hl : lv_has ls 4 [(3, .int 2), (0, .ref h0), (1, .int p0), (2, .int 4)] := hl
  refine lv_goto (tgt := 28) hx hb d_TS_put_64 (by decide) ?_
  refine lv_iload_n hx hb d_TS_put_28 rfl (lv_at hl 0 rfl) ?_
  refine lv_if_lt (tgt := 67) hx hb d_TS_put_29 (by decide) (fun h9 => absurd h9 (by decide)) (fun _ => ?_)
  refine lv_aload_n hx hb d_TS_put_32 rfl (lv_at hl 1 rfl) ?_
  refine va_get (D := (dC, dI)) (ci := 8) (v := .ref (q 17)) (C := RTS) (T := FTS) (N := 15) hx hb hB in_TS hown hK hP 0 rfl rfl 10 (by decide) (hB _ hw_317) (fun _ h9 => h9) rfl d_TS_put_33 ?_
  refine lv_aload_n hx hb d_TS_put_36 rfl (lv_at hl 1 rfl) ?_
  refine va_get (D := (dC, dI)) (ci := 8) (v := .int 1) (C := RTS) (T := FTS) (N := 15) hx hb hB in_TS hown hK hP 0 rfl rfl 11 (by decide) (hB _ hw_318) (fun _ h9 => h9) rfl d_TS_put_37 ?_
  refine lv_iload_n hx hb d_TS_put_40 rfl (lv_at hl 2 rfl) ?_
  refine lv_bipush (v := 8) hx hb d_TS_put_41 (by decide) ?_
  refine lv_iload_n hx hb d_TS_put_43 rfl (lv_at hl 0 rfl) ?_
  refine lv_imul hx hb d_TS_put_44 ?_
  refine lv_topi (fun z7 z7_e => ?_)
  obtain rfl : z7 = 16 := z7_e.trans (by decide)
  refine lv_iushr hx hb d_TS_put_45 rfl ?_
  refine lv_topi (fun z8 z8_e => ?_)
  refine lv_sipush (v := 255) hx hb d_TS_put_46 (by decide) ?_
  refine lv_iand hx hb d_TS_put_49 ?_
  refine lv_topi (fun z9 z9_e => ?_)
  refine va_iast (D := (dC, dI)) hx hb hK hP hD hS 1 4 rfl rfl (by unfold vp_in; decide) d_TS_put_50 (fun H locs hP hD hS => ?_)
  have hP : va_P (dC, dI) gx_cl [(h0, .inr (8, [.ref (q 0), .ref (q 3), .ref (q 18), .ref (q 19), .ref (q 6), .ref (q 20), .ref (q 21), .ref (q 22), .ref (q 23), .ref (q 15), .ref (q 17), .int 1, .ref (q 24), .ref (q 25), .int 0])), ((q 17), .inl ((ci 4), 192, .inl (upd (upd (fun _ => 0) (Int32.toNatClampNeg 0) z5) (Int32.toNatClampNeg 1) z9)))] H := hP
  have hD : va_D A [(h0, .inr (8, [.ref (q 0), .ref (q 3), .ref (q 18), .ref (q 19), .ref (q 6), .ref (q 20), .ref (q 21), .ref (q 22), .ref (q 23), .ref (q 15), .ref (q 17), .int 1, .ref (q 24), .ref (q 25), .int 0])), ((q 17), .inl ((ci 4), 192, .inl (upd (upd (fun _ => 0) (Int32.toNatClampNeg 0) z5) (Int32.toNatClampNeg 1) z9)))] := hD
  refine lv_aload_n hx hb d_TS_put_51 rfl (lv_at hl 1 rfl) ?_
  refine lv_dup hx hb d_TS_put_52 rfl ?_
  refine va_get (D := (dC, dI)) (ci := 8) (v := .int 1) (C := RTS) (T := FTS) (N := 15) hx hb hB in_TS hown hK hP 0 rfl rfl 11 (by decide) (hB _ hw_318) (fun _ h9 => h9) rfl d_TS_put_53 ?_
  refine lv_iconst (v := 1) hx hb d_TS_put_56 (by decide) ?_
  refine lv_iadd hx hb d_TS_put_57 ?_
  refine lv_topi (fun z10 z10_e => ?_)
  obtain rfl : z10 = 2 := z10_e.trans (by decide)
  refine va_put (D := (dC, dI)) (ci := 8) (v := .int 2) (ty := .int) (C := RTS) (T := FTS) (N := 15) hx hb hB in_TS tTS tTS_ok nTS hown hK hP hD hS 0 rfl rfl 11 (by decide) (hB _ hw_318) (fun _ h9 => h9) rfl (by decide +kernel) rfl rfl (Nat.le_of_ble_eq_true rfl) d_TS_put_58 (fun H locs hP hD hS => ?_)
  have hP : va_P (dC, dI) gx_cl [(h0, .inr (8, [.ref (q 0), .ref (q 3), .ref (q 18), .ref (q 19), .ref (q 6), .ref (q 20), .ref (q 21), .ref (q 22), .ref (q 23), .ref (q 15), .ref (q 17), .int 2, .ref (q 24), .ref (q 25), .int 0])), ((q 17), .inl ((ci 4), 192, .inl (upd (upd (fun _ => 0) (Int32.toNatClampNeg 0) z5) (Int32.toNatClampNeg 1) z9)))] H := hP
  have hD : va_D A [(h0, .inr (8, [.ref (q 0), .ref (q 3), .ref (q 18), .ref (q 19), .ref (q 6), .ref (q 20), .ref (q 21), .ref (q 22), .ref (q 23), .ref (q 15), .ref (q 17), .int 2, .ref (q 24), .ref (q 25), .int 0])), ((q 17), .inl ((ci 4), 192, .inl (upd (upd (fun _ => 0) (Int32.toNatClampNeg 0) z5) (Int32.toNatClampNeg 1) z9)))] := hD
  refine lv_iinc (k := 0) (v := 1) hx hb d_TS_put_61 hl rfl (by decide) (by decide) rfl (fun ls hl => ?_)
  have hl : lv_has ls 4 [(3, .int 1), (0, .ref h0), (1, .int p0), (2, .int 4)] := hl
  refine lv_goto (tgt := 28) hx hb d_TS_put_64 (by decide) ?_
  refine lv_iload_n hx hb d_TS_put_28 rfl (lv_at hl 0 rfl) ?_
  refine lv_if_lt (tgt := 67) hx hb d_TS_put_29 (by decide) (fun h9 => absurd h9 (by decide)) (fun _ => ?_)
  refine lv_aload_n hx hb d_TS_put_32 rfl (lv_at hl 1 rfl) ?_
  refine va_get (D := (dC, dI)) (ci := 8) (v := .ref (q 17)) (C := RTS) (T := FTS) (N := 15) hx hb hB in_TS hown hK hP 0 rfl rfl 10 (by decide) (hB _ hw_317) (fun _ h9 => h9) rfl d_TS_put_33 ?_
  refine lv_aload_n hx hb d_TS_put_36 rfl (lv_at hl 1 rfl) ?_
  refine va_get (D := (dC, dI)) (ci := 8) (v := .int 2) (C := RTS) (T := FTS) (N := 15) hx hb hB in_TS hown hK hP 0 rfl rfl 11 (by decide) (hB _ hw_318) (fun _ h9 => h9) rfl d_TS_put_37 ?_
  refine lv_iload_n hx hb d_TS_put_40 rfl (lv_at hl 2 rfl) ?_
  refine lv_bipush (v := 8) hx hb d_TS_put_41 (by decide) ?_
  refine lv_iload_n hx hb d_TS_put_43 rfl (lv_at hl 0 rfl) ?_
  refine lv_imul hx hb d_TS_put_44 ?_
  refine lv_topi (fun z11 z11_e => ?_)
  obtain rfl : z11 = 8 := z11_e.trans (by decide)
  refine lv_iushr hx hb d_TS_put_45 rfl ?_
  refine lv_topi (fun z12 z12_e => ?_)
  refine lv_sipush (v := 255) hx hb d_TS_put_46 (by decide) ?_
  refine lv_iand hx hb d_TS_put_49 ?_
  refine lv_topi (fun z13 z13_e => ?_)
  refine va_iast (D := (dC, dI)) hx hb hK hP hD hS 1 4 rfl rfl (by unfold vp_in; decide) d_TS_put_50 (fun H locs hP hD hS => ?_)
  have hP : va_P (dC, dI) gx_cl [(h0, .inr (8, [.ref (q 0), .ref (q 3), .ref (q 18), .ref (q 19), .ref (q 6), .ref (q 20), .ref (q 21), .ref (q 22), .ref (q 23), .ref (q 15), .ref (q 17), .int 2, .ref (q 24), .ref (q 25), .int 0])), ((q 17), .inl ((ci 4), 192, .inl (upd (upd (upd (fun _ => 0) (Int32.toNatClampNeg 0) z5) (Int32.toNatClampNeg 1) z9) (Int32.toNatClampNeg 2) z13)))] H := hP
  have hD : va_D A [(h0, .inr (8, [.ref (q 0), .ref (q 3), .ref (q 18), .ref (q 19), .ref (q 6), .ref (q 20), .ref (q 21), .ref (q 22), .ref (q 23), .ref (q 15), .ref (q 17), .int 2, .ref (q 24), .ref (q 25), .int 0])), ((q 17), .inl ((ci 4), 192, .inl (upd (upd (upd (fun _ => 0) (Int32.toNatClampNeg 0) z5) (Int32.toNatClampNeg 1) z9) (Int32.toNatClampNeg 2) z13)))] := hD
  refine lv_aload_n hx hb d_TS_put_51 rfl (lv_at hl 1 rfl) ?_
  refine lv_dup hx hb d_TS_put_52 rfl ?_
  refine va_get (D := (dC, dI)) (ci := 8) (v := .int 2) (C := RTS) (T := FTS) (N := 15) hx hb hB in_TS hown hK hP 0 rfl rfl 11 (by decide) (hB _ hw_318) (fun _ h9 => h9) rfl d_TS_put_53 ?_
  refine lv_iconst (v := 1) hx hb d_TS_put_56 (by decide) ?_
  refine lv_iadd hx hb d_TS_put_57 ?_
  refine lv_topi (fun z14 z14_e => ?_)
  obtain rfl : z14 = 3 := z14_e.trans (by decide)
  refine va_put (D := (dC, dI)) (ci := 8) (v := .int 3) (ty := .int) (C := RTS) (T := FTS) (N := 15) hx hb hB in_TS tTS tTS_ok nTS hown hK hP hD hS 0 rfl rfl 11 (by decide) (hB _ hw_318) (fun _ h9 => h9) rfl (by decide +kernel) rfl rfl (Nat.le_of_ble_eq_true rfl) d_TS_put_58 (fun H locs hP hD hS => ?_)
  have hP : va_P (dC, dI) gx_cl [(h0, .inr (8, [.ref (q 0), .ref (q 3), .ref (q 18), .ref (q 19), .ref (q 6), .ref (q 20), .ref (q 21), .ref (q 22), .ref (q 23), .ref (q 15), .ref (q 17), .int 3, .ref (q 24), .ref (q 25), .int 0])), ((q 17), .inl ((ci 4), 192, .inl (upd (upd (upd (fun _ => 0) (Int32.toNatClampNeg 0) z5) (Int32.toNatClampNeg 1) z9) (Int32.toNatClampNeg 2) z13)))] H := hP
  have hD : va_D A [(h0, .inr (8, [.ref (q 0), .ref (q 3), .ref (q 18), .ref (q 19), .ref (q 6), .ref (q 20), .ref (q 21), .ref (q 22), .ref (q 23), .ref (q 15), .ref (q 17), .int 3, .ref (q 24), .ref (q 25), .int 0])), ((q 17), .inl ((ci 4), 192, .inl (upd (upd (upd (fun _ => 0) (Int32.toNatClampNeg 0) z5) (Int32.toNatClampNeg 1) z9) (Int32.toNatClampNeg 2) z13)))] := hD
  refine lv_iinc (k := 0) (v := 0) hx hb d_TS_put_61 hl rfl (by decide) (by decide) rfl (fun ls hl => ?_)
  have hl : lv_has ls 4 [(3, .int 0), (0, .ref h0), (1, .int p0), (2, .int 4)] := hl
  refine lv_goto (tgt := 28) hx hb d_TS_put_64 (by decide) ?_
  refine lv_iload_n hx hb d_TS_put_28 rfl (lv_at hl 0 rfl) ?_
  refine lv_if_lt (tgt := 67) hx hb d_TS_put_29 (by decide) (fun h9 => absurd h9 (by decide)) (fun _ => ?_)
  refine lv_aload_n hx hb d_TS_put_32 rfl (lv_at hl 1 rfl) ?_
  refine va_get (D := (dC, dI)) (ci := 8) (v := .ref (q 17)) (C := RTS) (T := FTS) (N := 15) hx hb hB in_TS hown hK hP 0 rfl rfl 10 (by decide) (hB _ hw_317) (fun _ h9 => h9) rfl d_TS_put_33 ?_
  refine lv_aload_n hx hb d_TS_put_36 rfl (lv_at hl 1 rfl) ?_
  refine va_get (D := (dC, dI)) (ci := 8) (v := .int 3) (C := RTS) (T := FTS) (N := 15) hx hb hB in_TS hown hK hP 0 rfl rfl 11 (by decide) (hB _ hw_318) (fun _ h9 => h9) rfl d_TS_put_37 ?_
  refine lv_iload_n hx hb d_TS_put_40 rfl (lv_at hl 2 rfl) ?_
  refine lv_bipush (v := 8) hx hb d_TS_put_41 (by decide) ?_
  refine lv_iload_n hx hb d_TS_put_43 rfl (lv_at hl 0 rfl) ?_
  refine lv_imul hx hb d_TS_put_44 ?_
  refine lv_topi (fun z15 z15_e => ?_)
  obtain rfl : z15 = 0 := z15_e.trans (by decide)
  refine lv_iushr hx hb d_TS_put_45 rfl ?_
  refine lv_topi (fun z16 z16_e => ?_)
  refine lv_sipush (v := 255) hx hb d_TS_put_46 (by decide) ?_
  refine lv_iand hx hb d_TS_put_49 ?_
  refine lv_topi (fun z17 z17_e => ?_)
  refine va_iast (D := (dC, dI)) hx hb hK hP hD hS 1 4 rfl rfl (by unfold vp_in; decide) d_TS_put_50 (fun H locs hP hD hS => ?_)
  have hP : va_P (dC, dI) gx_cl [(h0, .inr (8, [.ref (q 0), .ref (q 3), .ref (q 18), .ref (q 19), .ref (q 6), .ref (q 20), .ref (q 21), .ref (q 22), .ref (q 23), .ref (q 15), .ref (q 17), .int 3, .ref (q 24), .ref (q 25), .int 0])), ((q 17), .inl ((ci 4), 192, .inl (upd (upd (upd (upd (fun _ => 0) (Int32.toNatClampNeg 0) z5) (Int32.toNatClampNeg 1) z9) (Int32.toNatClampNeg 2) z13) (Int32.toNatClampNeg 3) z17)))] H := hP
  have hD : va_D A [(h0, .inr (8, [.ref (q 0), .ref (q 3), .ref (q 18), .ref (q 19), .ref (q 6), .ref (q 20), .ref (q 21), .ref (q 22), .ref (q 23), .ref (q 15), .ref (q 17), .int 3, .ref (q 24), .ref (q 25), .int 0])), ((q 17), .inl ((ci 4), 192, .inl (upd (upd (upd (upd (fun _ => 0) (Int32.toNatClampNeg 0) z5) (Int32.toNatClampNeg 1) z9) (Int32.toNatClampNeg 2) z13) (Int32.toNatClampNeg 3) z17)))] := hD
  refine lv_aload_n hx hb d_TS_put_51 rfl (lv_at hl 1 rfl) ?_
  refine lv_dup hx hb d_TS_put_52 rfl ?_
  refine va_get (D := (dC, dI)) (ci := 8) (v := .int 3) (C := RTS) (T := FTS) (N := 15) hx hb hB in_TS hown hK hP 0 rfl rfl 11 (by decide) (hB _ hw_318) (fun _ h9 => h9) rfl d_TS_put_53 ?_
  refine lv_iconst (v := 1) hx hb d_TS_put_56 (by decide) ?_
  refine lv_iadd hx hb d_TS_put_57 ?_
  refine lv_topi (fun z18 z18_e => ?_)
  obtain rfl : z18 = 4 := z18_e.trans (by decide)
  refine va_put (D := (dC, dI)) (ci := 8) (v := .int 4) (ty := .int) (C := RTS) (T := FTS) (N := 15) hx hb hB in_TS tTS tTS_ok nTS hown hK hP hD hS 0 rfl rfl 11 (by decide) (hB _ hw_318) (fun _ h9 => h9) rfl (by decide +kernel) rfl rfl (Nat.le_of_ble_eq_true rfl) d_TS_put_58 (fun H locs hP hD hS => ?_)
  have hP : va_P (dC, dI) gx_cl [(h0, .inr (8, [.ref (q 0), .ref (q 3), .ref (q 18), .ref (q 19), .ref (q 6), .ref (q 20), .ref (q 21), .ref (q 22), .ref (q 23), .ref (q 15), .ref (q 17), .int 4, .ref (q 24), .ref (q 25), .int 0])), ((q 17), .inl ((ci 4), 192, .inl (upd (upd (upd (upd (fun _ => 0) (Int32.toNatClampNeg 0) z5) (Int32.toNatClampNeg 1) z9) (Int32.toNatClampNeg 2) z13) (Int32.toNatClampNeg 3) z17)))] H := hP
  have hD : va_D A [(h0, .inr (8, [.ref (q 0), .ref (q 3), .ref (q 18), .ref (q 19), .ref (q 6), .ref (q 20), .ref (q 21), .ref (q 22), .ref (q 23), .ref (q 15), .ref (q 17), .int 4, .ref (q 24), .ref (q 25), .int 0])), ((q 17), .inl ((ci 4), 192, .inl (upd (upd (upd (upd (fun _ => 0) (Int32.toNatClampNeg 0) z5) (Int32.toNatClampNeg 1) z9) (Int32.toNatClampNeg 2) z13) (Int32.toNatClampNeg 3) z17)))] := hD
  refine lv_iinc (k := 0) (v := (-1)) hx hb d_TS_put_61 hl rfl (by decide) (by decide) rfl (fun ls hl => ?_)
  have hl : lv_has ls 4 [(3, .int (-1)), (0, .ref h0), (1, .int p0), (2, .int 4)] := hl
  refine lv_goto (tgt := 28) hx hb d_TS_put_64 (by decide) ?_
  refine lv_iload_n hx hb d_TS_put_28 rfl (lv_at hl 0 rfl) ?_
  refine lv_if_lt (tgt := 67) hx hb d_TS_put_29 (by decide) (fun _ => ?_) (fun h9 => absurd (by decide) h9)
  refine lv_iconst (v := 1) hx hb d_TS_put_67 (by decide) ?_
  refine W.widen (k := 0) (n := 0) (Nat.le_of_ble_eq_true rfl) (Nat.le_of_ble_eq_true rfl) ?_
  exact W.zret (v := 1) hx hb hr rfl (fun t ht hW => ⟨⟨1, (), rfl, rfl, trivial⟩, hS.F ht⟩) hS.2.2 d_TS_put_68
set_option maxHeartbeats 4000000 in
set_option maxRecDepth 100000 in
theorem p_TS_put0 (l : Launch) (dC : Nat → ClassId) (dI : Nat → Nat → Nat) (h0 : Nat) (q : Nat → Nat) (ci : Nat → ClassId) (p0 p1 : Int32) (h : p1 < 1 ∨ 4 < p1) : Met l y_TS_put w_TS_put ({ frames := 0, cells := 0, slots := 0, locals := 0 }) (va_Pc [.ref h0, .int p0, .int p1] (fun U => va_P (dC, dI) gx_cl (wTS h0 q ci) U.heap ∧ va_K (dC, dI) gx_cl (kTS ci) U)) (px_Q (some (.int 0))) 0 0 (fun _ => False) := by
  refine Met.ofW (cc := b_TS_put) (maxL := 4) (ret := (some .boolean)) (by decide) rfl ?_
  intro p e s m args below meth c s₁ B hml hv
  obtain ⟨rfl, hP, hK⟩ := hv
  have hx := B.exec
  have hb := B.bytes
  have hr := B.returns
  have hts := atoms_spec (ws := w_TS_put) B.pre
  have hB : ∀ w ∈ gx_B, w.before _ s = true := fun w h => hts w (List.mem_cons_of_mem _ h)
  have hown : s.vm.findClass "TapeSealer" = some m.cls := findClass_of_methodNamed B.named
  have hlocks := B.notSynchronized
  have hl := lv_entry ([.ref h0, .int p0, .int p1]) (n := 4) (Nat.le_of_ble_eq_true rfl)
  rw [lg_entry_eq]
  generalize (lg_sl ([.ref h0, .int p0, .int p1]) ++ List.replicate (4 - (lg_sl ([.ref h0, .int p0, .int p1])).length) Slot.unset).toArray = ls at hl ⊢
  have hl : lv_has ls 4 [(0, .ref h0), (1, .int p0), (2, .int p1)] := hl
  rcases h with hi | hi
  · refine lv_iload_n hx hb d_TS_put_0 rfl (lv_at hl 2 rfl) ?_
    refine lv_iconst (v := 1) hx hb d_TS_put_1 (by decide) ?_
    refine lv_icmp_lt (tgt := 22) hx hb d_TS_put_2 (by decide) (fun _ => ?_) (fun h9 => absurd hi h9)
    refine lv_iconst (v := 0) hx hb d_TS_put_22 (by decide) ?_
    exact W.zret (v := 0) hx hb hr rfl (fun t ht _ => ⟨rfl, ht⟩) (fun _ h => nomatch h) d_TS_put_23
  · refine lv_iload_n hx hb d_TS_put_0 rfl (lv_at hl 2 rfl) ?_
    refine lv_iconst (v := 1) hx hb d_TS_put_1 (by decide) ?_
    refine lv_icmp_lt (tgt := 22) hx hb d_TS_put_2 (by decide) (fun h9 => absurd h9 (gx_p4 hi)) (fun _ => ?_)
    refine lv_iload_n hx hb d_TS_put_5 rfl (lv_at hl 2 rfl) ?_
    refine lv_iconst (v := 4) hx hb d_TS_put_6 (by decide) ?_
    refine lv_icmp_gt (tgt := 22) hx hb d_TS_put_7 (by decide) (fun _ => ?_) (fun h9 => absurd hi h9)
    refine lv_iconst (v := 0) hx hb d_TS_put_22 (by decide) ?_
    exact W.zret (v := 0) hx hb hr rfl (fun t ht _ => ⟨rfl, ht⟩) (fun _ h => nomatch h) d_TS_put_23
set_option maxHeartbeats 4000000 in
set_option maxRecDepth 100000 in
theorem m_TS_damage (l : Launch) (dC : Nat → ClassId) (dI : Nat → Nat → Nat) (sz : Nat) (h0 : Nat) (q : Nat → Nat) (ci : Nat → ClassId) (p0 p1 p2 : Int32) (h1 : ¬ p0 < 0) (h2 : ¬ 44 ≤ p0) (h3 : ¬ p1 < 0) (h4 : ¬ 64 ≤ p1) (h5 : ¬ p2 < 0) (h6 : p2 ≤ 255) : Met l y_TS_damage w_TS_damage ({ frames := 1, cells := 0, slots := 0, locals := 21 }) (va_Pc [.ref h0, .int p0, .int p1, .int p2] (fun U => U.heap.size = sz ∧ va_P (dC, dI) gx_cl [(h0, .inr (8, [.ref (q 0), .ref (q 3), .ref (q 18), .ref (q 19), .ref (q 6), .ref (q 20), .ref (q 21), .ref (q 22), .ref (q 23), .ref (q 15), .ref (q 17), .int 0, .ref (q 24), .ref (q 25), .int 0])), ((q 0), .inr (1, [.ref (q 1), .ref (q 2), .int 0, .int (-1), .int 0, .int 0])), ((q 1), .inl ((ci 0), 44, .inr (.inr (.inr (.inr (mx_g (q 1) 44)))))), ((q 1 + 1 + p0.toNatClampNeg), .inl ((ci 1), 64, .inl (fun _ => 0)))] U.heap ∧ va_K (dC, dI) gx_cl (kTS ci) U ∧ va_D (fun _ => True) [(h0, .inr (8, [.ref (q 0), .ref (q 3), .ref (q 18), .ref (q 19), .ref (q 6), .ref (q 20), .ref (q 21), .ref (q 22), .ref (q 23), .ref (q 15), .ref (q 17), .int 0, .ref (q 24), .ref (q 25), .int 0])), ((q 0), .inr (1, [.ref (q 1), .ref (q 2), .int 0, .int (-1), .int 0, .int 0])), ((q 1), .inl ((ci 0), 44, .inr (.inr (.inr (.inr (mx_g (q 1) 44)))))), ((q 1 + 1 + p0.toNatClampNeg), .inl ((ci 1), 64, .inl (fun _ => 0)))])) (va_Qv (fun _ : Unit => True) (fun _ t => True) (va_A [(h0, .inr (8, [.ref (q 0), .ref (q 3), .ref (q 18), .ref (q 19), .ref (q 6), .ref (q 20), .ref (q 21), .ref (q 22), .ref (q 23), .ref (q 15), .ref (q 17), .int 0, .ref (q 24), .ref (q 25), .int 0])), ((q 0), .inr (1, [.ref (q 1), .ref (q 2), .int 0, .int (-1), .int 0, .int 0])), ((q 1), .inl ((ci 0), 44, .inr (.inr (.inr (.inr (mx_g (q 1) 44)))))), ((q 1 + 1 + p0.toNatClampNeg), .inl ((ci 1), 64, .inl (fun _ => 0)))] sz)) 0 0 (va_A [(h0, .inr (8, [.ref (q 0), .ref (q 3), .ref (q 18), .ref (q 19), .ref (q 6), .ref (q 20), .ref (q 21), .ref (q 22), .ref (q 23), .ref (q 15), .ref (q 17), .int 0, .ref (q 24), .ref (q 25), .int 0])), ((q 0), .inr (1, [.ref (q 1), .ref (q 2), .int 0, .int (-1), .int 0, .int 0])), ((q 1), .inl ((ci 0), 44, .inr (.inr (.inr (.inr (mx_g (q 1) 44)))))), ((q 1 + 1 + p0.toNatClampNeg), .inl ((ci 1), 64, .inl (fun _ => 0)))] sz) := by
  refine Met.ofW (cc := b_TS_damage) (maxL := 4) (ret := none) (by decide) rfl ?_
  intro p e s m args below meth c s₁ B hml hv
  obtain ⟨rfl, hsz, hP, hK, hD0⟩ := hv
  have hx := B.exec
  have hb := B.bytes
  have hr := B.returns
  have hts := atoms_spec (ws := w_TS_damage) B.pre
  have hB : ∀ w ∈ gx_B, w.before _ s = true := fun w h => hts w (List.mem_cons_of_mem _ h)
  have hown : s.vm.findClass "TapeSealer" = some m.cls := findClass_of_methodNamed B.named
  have hlocks := B.notSynchronized
  subst hsz
  have hD := hD0.self (sz := s.heap.size)
  generalize hAe : va_A [(h0, .inr (8, [.ref (q 0), .ref (q 3), .ref (q 18), .ref (q 19), .ref (q 6), .ref (q 20), .ref (q 21), .ref (q 22), .ref (q 23), .ref (q 15), .ref (q 17), .int 0, .ref (q 24), .ref (q 25), .int 0])), ((q 0), .inr (1, [.ref (q 1), .ref (q 2), .int 0, .int (-1), .int 0, .int 0])), ((q 1), .inl ((ci 0), 44, .inr (.inr (.inr (.inr (mx_g (q 1) 44)))))), ((q 1 + 1 + p0.toNatClampNeg), .inl ((ci 1), 64, .inl (fun _ => 0)))] s.heap.size = A at hD ⊢
  have hA : ∀ q : Nat, s.heap.size ≤ q → A q := fun q h => by rw [← hAe]; exact Or.inr h
  have hS : va_S A s.heap s.heap [] := va_S.rf
  have hl := lv_entry ([.ref h0, .int p0, .int p1, .int p2]) (n := 4) (Nat.le_of_ble_eq_true rfl)
  rw [lg_entry_eq]
  generalize (lg_sl ([.ref h0, .int p0, .int p1, .int p2]) ++ List.replicate (4 - (lg_sl ([.ref h0, .int p0, .int p1, .int p2])).length) Slot.unset).toArray = ls at hl ⊢
  have hl : lv_has ls 4 [(0, .ref h0), (1, .int p0), (2, .int p1), (3, .int p2)] := hl
  refine lv_iload_n hx hb d_TS_damage_0 rfl (lv_at hl 1 rfl) ?_
  refine lv_iload_n hx hb d_TS_damage_1 rfl (lv_at hl 2 rfl) ?_
  refine px_go (va_runS (As := [.int p0, .int p1]) (rest := []) ⟨hx, hb, hml, hown, hts⟩ (p_TS_isByte1 l p0 p1 h1 h2 h3 h4) (cwS 2 hts (gx_goodS hw_841 hw_842 hw_66 k_TS_isByte) rfl rfl rfl (by decide +kernel) ⟨(Nat.le_of_ble_eq_true rfl), (Nat.le_of_ble_eq_true rfl)⟩) ⟨fun a U g mk q => q, fun U hU hW => ⟨rfl, trivial⟩⟩ rfl rfl hl.1 rfl (lv_room (Nat.le_of_ble_eq_true rfl)) d_TS_damage_2 ⟨(Nat.le_of_ble_eq_true rfl), (Nat.le_of_ble_eq_true rfl)⟩) ?_
  refine W.eq (g2 := F0 m 5 ls [.int 1]) rfl ?_
  refine lv_if_eq (tgt := 19) hx hb d_TS_damage_5 (by decide) (fun h9 => absurd h9 (by decide)) (fun _ => ?_)
  refine lv_iload_n hx hb d_TS_damage_8 rfl (lv_at hl 3 rfl) ?_
  refine lv_if_lt (tgt := 19) hx hb d_TS_damage_9 (by decide) (fun h9 => absurd h9 h5) (fun _ => ?_)
  refine lv_iload_n hx hb d_TS_damage_12 rfl (lv_at hl 3 rfl) ?_
  refine lv_sipush (v := 255) hx hb d_TS_damage_13 (by decide) ?_
  refine lv_icmp_le (tgt := 27) hx hb d_TS_damage_16 (by decide) (fun _ => ?_) (fun h9 => absurd h6 h9)
  refine lv_aload_n hx hb d_TS_damage_27 rfl (lv_at hl 0 rfl) ?_
  refine va_get (D := (dC, dI)) (ci := 8) (v := .ref (q 0)) (C := RTS) (T := FTS) (N := 15) hx hb hB in_TS hown hK hP 0 rfl rfl 0 (by decide) (hB _ hw_307) (fun _ h9 => h9) rfl d_TS_damage_28 ?_
  refine va_get (D := (dC, dI)) (ci := 1) (v := .ref (q 1)) (C := RCa) (T := FCa) (N := 6) hx hb hB in_Ca hown hK hP 1 rfl rfl 0 (by decide) (hB _ hw_106) (fun _ h9 => h9) rfl d_TS_damage_31 ?_
  refine lv_iload_n hx hb d_TS_damage_34 rfl (lv_at hl 1 rfl) ?_
  refine mx_ald (D := (dC, dI)) hx hb hK hP 2 0 rfl rfl (jn := p0.toNatClampNeg) rfl (gx_in44 h1 h2) d_TS_damage_35 ?_
  refine W.eq (g2 := F0 m 36 ls [.ref (q 1 + 1 + p0.toNatClampNeg)]) rfl ?_
  refine lv_iload_n hx hb d_TS_damage_36 rfl (lv_at hl 2 rfl) ?_
  refine lv_dup2_11 hx hb d_TS_damage_37 rfl rfl ?_
  refine va_iald (D := (dC, dI)) hx hb hK hP 3 1 rfl rfl (gx_in64 h3 h4) d_TS_damage_38 ?_
  refine W.eq (g2 := F0 m 39 ls [.int 0, .int p1, .ref (q 1 + 1 + p0.toNatClampNeg)]) rfl ?_
  refine lv_iload_n hx hb d_TS_damage_39 rfl (lv_at hl 3 rfl) ?_
  refine lv_ixor hx hb d_TS_damage_40 ?_
  refine lv_topi (fun z1 z1_e => ?_)
  refine va_iast (D := (dC, dI)) hx hb hK hP hD hS 3 1 rfl rfl (gx_in64 h3 h4) d_TS_damage_41 (fun H locs hP hD hS => ?_)
  have hP : va_P (dC, dI) gx_cl [(h0, .inr (8, [.ref (q 0), .ref (q 3), .ref (q 18), .ref (q 19), .ref (q 6), .ref (q 20), .ref (q 21), .ref (q 22), .ref (q 23), .ref (q 15), .ref (q 17), .int 0, .ref (q 24), .ref (q 25), .int 0])), ((q 0), .inr (1, [.ref (q 1), .ref (q 2), .int 0, .int (-1), .int 0, .int 0])), ((q 1), .inl ((ci 0), 44, .inr (.inr (.inr (.inr (mx_g (q 1) 44)))))), ((q 1 + 1 + p0.toNatClampNeg), .inl ((ci 1), 64, .inl (upd (fun _ => 0) (Int32.toNatClampNeg p1) z1)))] H := hP
  have hD : va_D A [(h0, .inr (8, [.ref (q 0), .ref (q 3), .ref (q 18), .ref (q 19), .ref (q 6), .ref (q 20), .ref (q 21), .ref (q 22), .ref (q 23), .ref (q 15), .ref (q 17), .int 0, .ref (q 24), .ref (q 25), .int 0])), ((q 0), .inr (1, [.ref (q 1), .ref (q 2), .int 0, .int (-1), .int 0, .int 0])), ((q 1), .inl ((ci 0), 44, .inr (.inr (.inr (.inr (mx_g (q 1) 44)))))), ((q 1 + 1 + p0.toNatClampNeg), .inl ((ci 1), 64, .inl (upd (fun _ => 0) (Int32.toNatClampNeg p1) z1)))] := hD
  refine lv_aload_n hx hb d_TS_damage_42 rfl (lv_at hl 0 rfl) ?_
  refine va_get (D := (dC, dI)) (ci := 8) (v := .ref (q 0)) (C := RTS) (T := FTS) (N := 15) hx hb hB in_TS hown hK hP 0 rfl rfl 0 (by decide) (hB _ hw_307) (fun _ h9 => h9) rfl d_TS_damage_43 ?_
  refine lv_iload_n hx hb d_TS_damage_46 rfl (lv_at hl 1 rfl) ?_
  have hPc := hP.sub (ws' := [((q 0), .inr (1, [.ref (q 1), .ref (q 2), .int 0, .int (-1), .int 0, .int 0]))]) [1] rfl
  have hDc := hD.sub (ws' := [((q 0), .inr (1, [.ref (q 1), .ref (q 2), .int 0, .int (-1), .int 0, .int 0]))]) [1] (by decide) rfl
  have hKc := hK.sub (tys' := []) [] rfl
  have hFc := va_free (wc := [((q 0), .inr (1, [.ref (q 1), .ref (q 2), .int 0, .int (-1), .int 0, .int 0]))]) hD hS hA [1] rfl
  refine va_callv (va_runV (C := "TapeSealer$Cartridge") (As := [.int p0]) (rest := []) ⟨hx, hb, hml, hown, hts⟩ (m_Ca_noteChange l dC dI H.size (q 0) (q 1) (q 2) 0 (-1) 0 0 p0) (cwV 1 hts (gx_goodV hw_844 hw_638 hw_639 hw_67 k_Ca_noteChange) rfl rfl rfl (by decide +kernel) ⟨(Nat.le_of_ble_eq_true rfl), (Nat.le_of_ble_eq_true rfl)⟩) ⟨fun a U g mk q => by obtain ⟨q0, q1, qP, qK, qD⟩ := q; exact ⟨q0, q1, qP, va_K.moved (u := U) (U := U.calling g mk a) (Vm.Alike.refl U.vm) qK, qD⟩, va_recv hK hP rfl (q0 := 1) rfl, fun U hU hW => ⟨rfl, by rw [hU], by rw [hU]; exact hPc, va_K.moved hW.alike hKc, hDc.weaken (fun _ _ _ _ => trivial)⟩⟩ rfl rfl hl.1 rfl (lv_room (Nat.le_of_ble_eq_true rfl)) d_TS_damage_47 ⟨(Nat.le_of_ble_eq_true rfl), (Nat.le_of_ble_eq_true rfl)⟩) hS (fun q _ h => hFc q h) hFc (fun u t H1 locs ht hvm hw hB1 hz1 hk1 hS => ?_)
  obtain ⟨hP, hD⟩ := va_join (wr := [(h0, .inr (8, [.ref (q 0), .ref (q 3), .ref (q 18), .ref (q 19), .ref (q 6), .ref (q 20), .ref (q 21), .ref (q 22), .ref (q 23), .ref (q 15), .ref (q 17), .int 0, .ref (q 24), .ref (q 25), .int 0])), ((q 1), .inl ((ci 0), 44, .inr (.inr (.inr (.inr (mx_g (q 1) 44)))))), ((q 1 + 1 + p0.toNatClampNeg), .inl ((ci 1), 64, .inl (upd (fun _ => 0) (Int32.toNatClampNeg p1) z1)))]) (w1 := []) hP hD [1] [0, 2, 3] rfl rfl (by decide) (by decide) hk1 hFc gx_P0 gx_D0
  generalize H1 = H at hP hS ⊢
  have hP : va_P (dC, dI) gx_cl [(h0, .inr (8, [.ref (q 0), .ref (q 3), .ref (q 18), .ref (q 19), .ref (q 6), .ref (q 20), .ref (q 21), .ref (q 22), .ref (q 23), .ref (q 15), .ref (q 17), .int 0, .ref (q 24), .ref (q 25), .int 0])), ((q 1), .inl ((ci 0), 44, .inr (.inr (.inr (.inr (mx_g (q 1) 44)))))), ((q 1 + 1 + p0.toNatClampNeg), .inl ((ci 1), 64, .inl (upd (fun _ => 0) (Int32.toNatClampNeg p1) z1)))] H := hP
  have hD : va_D A [(h0, .inr (8, [.ref (q 0), .ref (q 3), .ref (q 18), .ref (q 19), .ref (q 6), .ref (q 20), .ref (q 21), .ref (q 22), .ref (q 23), .ref (q 15), .ref (q 17), .int 0, .ref (q 24), .ref (q 25), .int 0])), ((q 1), .inl ((ci 0), 44, .inr (.inr (.inr (.inr (mx_g (q 1) 44)))))), ((q 1 + 1 + p0.toNatClampNeg), .inl ((ci 1), 64, .inl (upd (fun _ => 0) (Int32.toNatClampNeg p1) z1)))] := hD
  refine W.eq (g2 := F0 m 50 ls []) rfl ?_
  refine W.widen (k := 0) (n := 0) (Nat.le_of_ble_eq_true rfl) (Nat.le_of_ble_eq_true rfl) ?_
  exact W.vret hx hb hr (fun t ht hW => ⟨⟨(), rfl, trivial, trivial⟩, hS.F ht⟩) hS.2.2 d_TS_damage_50
set_option maxHeartbeats 4000000 in
set_option maxRecDepth 100000 in
theorem m_TS_spoil (l : Launch) (dC : Nat → ClassId) (dI : Nat → Nat → Nat) (sz : Nat) (h0 : Nat) (q : Nat → Nat) (ci : Nat → ClassId) (p0 : Int32) (h1 : ¬ p0 < 0) (h2 : ¬ 44 ≤ p0) : Met l y_TS_spoil w_TS_spoil ({ frames := 1, cells := 0, slots := 0, locals := 21 }) (va_Pc [.ref h0, .int p0] (fun U => U.heap.size = sz ∧ va_P (dC, dI) gx_cl [(h0, .inr (8, [.ref (q 0), .ref (q 3), .ref (q 18), .ref (q 19), .ref (q 6), .ref (q 20), .ref (q 21), .ref (q 22), .ref (q 23), .ref (q 15), .ref (q 17), .int 0, .ref (q 24), .ref (q 25), .int 0])), ((q 0), .inr (1, [.ref (q 1), .ref (q 2), .int 0, .int (-1), .int 0, .int 0])), ((q 2), .inl ((ci 2), 44, .inl (fun _ => 0)))] U.heap ∧ va_K (dC, dI) gx_cl (kTS ci) U ∧ va_D (fun _ => True) [(h0, .inr (8, [.ref (q 0), .ref (q 3), .ref (q 18), .ref (q 19), .ref (q 6), .ref (q 20), .ref (q 21), .ref (q 22), .ref (q 23), .ref (q 15), .ref (q 17), .int 0, .ref (q 24), .ref (q 25), .int 0])), ((q 0), .inr (1, [.ref (q 1), .ref (q 2), .int 0, .int (-1), .int 0, .int 0])), ((q 2), .inl ((ci 2), 44, .inl (fun _ => 0)))])) (va_Qv (fun _ : Unit => True) (fun _ t => True) (va_A [(h0, .inr (8, [.ref (q 0), .ref (q 3), .ref (q 18), .ref (q 19), .ref (q 6), .ref (q 20), .ref (q 21), .ref (q 22), .ref (q 23), .ref (q 15), .ref (q 17), .int 0, .ref (q 24), .ref (q 25), .int 0])), ((q 0), .inr (1, [.ref (q 1), .ref (q 2), .int 0, .int (-1), .int 0, .int 0])), ((q 2), .inl ((ci 2), 44, .inl (fun _ => 0)))] sz)) 0 0 (va_A [(h0, .inr (8, [.ref (q 0), .ref (q 3), .ref (q 18), .ref (q 19), .ref (q 6), .ref (q 20), .ref (q 21), .ref (q 22), .ref (q 23), .ref (q 15), .ref (q 17), .int 0, .ref (q 24), .ref (q 25), .int 0])), ((q 0), .inr (1, [.ref (q 1), .ref (q 2), .int 0, .int (-1), .int 0, .int 0])), ((q 2), .inl ((ci 2), 44, .inl (fun _ => 0)))] sz) := by
  refine Met.ofW (cc := b_TS_spoil) (maxL := 2) (ret := none) (by decide) rfl ?_
  intro p e s m args below meth c s₁ B hml hv
  obtain ⟨rfl, hsz, hP, hK, hD0⟩ := hv
  have hx := B.exec
  have hb := B.bytes
  have hr := B.returns
  have hts := atoms_spec (ws := w_TS_spoil) B.pre
  have hB : ∀ w ∈ gx_B, w.before _ s = true := fun w h => hts w (List.mem_cons_of_mem _ h)
  have hown : s.vm.findClass "TapeSealer" = some m.cls := findClass_of_methodNamed B.named
  have hlocks := B.notSynchronized
  subst hsz
  have hD := hD0.self (sz := s.heap.size)
  generalize hAe : va_A [(h0, .inr (8, [.ref (q 0), .ref (q 3), .ref (q 18), .ref (q 19), .ref (q 6), .ref (q 20), .ref (q 21), .ref (q 22), .ref (q 23), .ref (q 15), .ref (q 17), .int 0, .ref (q 24), .ref (q 25), .int 0])), ((q 0), .inr (1, [.ref (q 1), .ref (q 2), .int 0, .int (-1), .int 0, .int 0])), ((q 2), .inl ((ci 2), 44, .inl (fun _ => 0)))] s.heap.size = A at hD ⊢
  have hA : ∀ q : Nat, s.heap.size ≤ q → A q := fun q h => by rw [← hAe]; exact Or.inr h
  have hS : va_S A s.heap s.heap [] := va_S.rf
  have hl := lv_entry ([.ref h0, .int p0]) (n := 2) (Nat.le_of_ble_eq_true rfl)
  rw [lg_entry_eq]
  generalize (lg_sl ([.ref h0, .int p0]) ++ List.replicate (2 - (lg_sl ([.ref h0, .int p0])).length) Slot.unset).toArray = ls at hl ⊢
  have hl : lv_has ls 2 [(0, .ref h0), (1, .int p0)] := hl
  refine lv_iload_n hx hb d_TS_spoil_0 rfl (lv_at hl 1 rfl) ?_
  refine lv_iconst (v := 0) hx hb d_TS_spoil_1 (by decide) ?_
  refine px_go (va_runS (As := [.int p0, .int 0]) (rest := []) ⟨hx, hb, hml, hown, hts⟩ (p_TS_isByte1 l p0 0 h1 h2 (by decide) (by decide)) (cwS 2 hts (gx_goodS hw_841 hw_842 hw_66 k_TS_isByte) rfl rfl rfl (by decide +kernel) ⟨(Nat.le_of_ble_eq_true rfl), (Nat.le_of_ble_eq_true rfl)⟩) ⟨fun a U g mk q => q, fun U hU hW => ⟨rfl, trivial⟩⟩ rfl rfl hl.1 rfl (lv_room (Nat.le_of_ble_eq_true rfl)) d_TS_spoil_2 ⟨(Nat.le_of_ble_eq_true rfl), (Nat.le_of_ble_eq_true rfl)⟩) ?_
  refine W.eq (g2 := F0 m 5 ls [.int 1]) rfl ?_
  refine lv_if_ne (tgt := 16) hx hb d_TS_spoil_5 (by decide) (fun _ => ?_) (fun h9 => absurd h9 (by decide))
  refine lv_aload_n hx hb d_TS_spoil_16 rfl (lv_at hl 0 rfl) ?_
  refine va_get (D := (dC, dI)) (ci := 8) (v := .ref (q 0)) (C := RTS) (T := FTS) (N := 15) hx hb hB in_TS hown hK hP 0 rfl rfl 0 (by decide) (hB _ hw_307) (fun _ h9 => h9) rfl d_TS_spoil_17 ?_
  refine va_get (D := (dC, dI)) (ci := 1) (v := .ref (q 2)) (C := RCa) (T := FCa) (N := 6) hx hb hB in_Ca hown hK hP 1 rfl rfl 1 (by decide) (hB _ hw_109) (fun _ h9 => h9) rfl d_TS_spoil_20 ?_
  refine lv_iload_n hx hb d_TS_spoil_23 rfl (lv_at hl 1 rfl) ?_
  refine lv_iconst (v := 1) hx hb d_TS_spoil_24 (by decide) ?_
  refine va_zast (D := (dC, dI)) hx hb hK hP hD hS 2 2 rfl rfl (gx_in44 h1 h2) d_TS_spoil_25 (fun H locs hP hD hS => ?_)
  have hP : va_P (dC, dI) gx_cl [(h0, .inr (8, [.ref (q 0), .ref (q 3), .ref (q 18), .ref (q 19), .ref (q 6), .ref (q 20), .ref (q 21), .ref (q 22), .ref (q 23), .ref (q 15), .ref (q 17), .int 0, .ref (q 24), .ref (q 25), .int 0])), ((q 0), .inr (1, [.ref (q 1), .ref (q 2), .int 0, .int (-1), .int 0, .int 0])), ((q 2), .inl ((ci 2), 44, .inl (upd (fun _ => 0) (Int32.toNatClampNeg p0) (vp_nar .boolean 1))))] H := hP
  have hD : va_D A [(h0, .inr (8, [.ref (q 0), .ref (q 3), .ref (q 18), .ref (q 19), .ref (q 6), .ref (q 20), .ref (q 21), .ref (q 22), .ref (q 23), .ref (q 15), .ref (q 17), .int 0, .ref (q 24), .ref (q 25), .int 0])), ((q 0), .inr (1, [.ref (q 1), .ref (q 2), .int 0, .int (-1), .int 0, .int 0])), ((q 2), .inl ((ci 2), 44, .inl (upd (fun _ => 0) (Int32.toNatClampNeg p0) (vp_nar .boolean 1))))] := hD
  refine lv_aload_n hx hb d_TS_spoil_26 rfl (lv_at hl 0 rfl) ?_
  refine va_get (D := (dC, dI)) (ci := 8) (v := .ref (q 0)) (C := RTS) (T := FTS) (N := 15) hx hb hB in_TS hown hK hP 0 rfl rfl 0 (by decide) (hB _ hw_307) (fun _ h9 => h9) rfl d_TS_spoil_27 ?_
  refine lv_iload_n hx hb d_TS_spoil_30 rfl (lv_at hl 1 rfl) ?_
  have hPc := hP.sub (ws' := [((q 0), .inr (1, [.ref (q 1), .ref (q 2), .int 0, .int (-1), .int 0, .int 0]))]) [1] rfl
  have hDc := hD.sub (ws' := [((q 0), .inr (1, [.ref (q 1), .ref (q 2), .int 0, .int (-1), .int 0, .int 0]))]) [1] (by decide) rfl
  have hKc := hK.sub (tys' := []) [] rfl
  have hFc := va_free (wc := [((q 0), .inr (1, [.ref (q 1), .ref (q 2), .int 0, .int (-1), .int 0, .int 0]))]) hD hS hA [1] rfl
  refine va_callv (va_runV (C := "TapeSealer$Cartridge") (As := [.int p0]) (rest := []) ⟨hx, hb, hml, hown, hts⟩ (m_Ca_noteChange l dC dI H.size (q 0) (q 1) (q 2) 0 (-1) 0 0 p0) (cwV 1 hts (gx_goodV hw_844 hw_638 hw_639 hw_67 k_Ca_noteChange) rfl rfl rfl (by decide +kernel) ⟨(Nat.le_of_ble_eq_true rfl), (Nat.le_of_ble_eq_true rfl)⟩) ⟨fun a U g mk q => by obtain ⟨q0, q1, qP, qK, qD⟩ := q; exact ⟨q0, q1, qP, va_K.moved (u := U) (U := U.calling g mk a) (Vm.Alike.refl U.vm) qK, qD⟩, va_recv hK hP rfl (q0 := 1) rfl, fun U hU hW => ⟨rfl, by rw [hU], by rw [hU]; exact hPc, va_K.moved hW.alike hKc, hDc.weaken (fun _ _ _ _ => trivial)⟩⟩ rfl rfl hl.1 rfl (lv_room (Nat.le_of_ble_eq_true rfl)) d_TS_spoil_31 ⟨(Nat.le_of_ble_eq_true rfl), (Nat.le_of_ble_eq_true rfl)⟩) hS (fun q _ h => hFc q h) hFc (fun u t H1 locs ht hvm hw hB1 hz1 hk1 hS => ?_)
  obtain ⟨hP, hD⟩ := va_join (wr := [(h0, .inr (8, [.ref (q 0), .ref (q 3), .ref (q 18), .ref (q 19), .ref (q 6), .ref (q 20), .ref (q 21), .ref (q 22), .ref (q 23), .ref (q 15), .ref (q 17), .int 0, .ref (q 24), .ref (q 25), .int 0])), ((q 2), .inl ((ci 2), 44, .inl (upd (fun _ => 0) (Int32.toNatClampNeg p0) (vp_nar .boolean 1))))]) (w1 := []) hP hD [1] [0, 2] rfl rfl (by decide) (by decide) hk1 hFc gx_P0 gx_D0
  generalize H1 = H at hP hS ⊢
  have hP : va_P (dC, dI) gx_cl [(h0, .inr (8, [.ref (q 0), .ref (q 3), .ref (q 18), .ref (q 19), .ref (q 6), .ref (q 20), .ref (q 21), .ref (q 22), .ref (q 23), .ref (q 15), .ref (q 17), .int 0, .ref (q 24), .ref (q 25), .int 0])), ((q 2), .inl ((ci 2), 44, .inl (upd (fun _ => 0) (Int32.toNatClampNeg p0) (vp_nar .boolean 1))))] H := hP
  have hD : va_D A [(h0, .inr (8, [.ref (q 0), .ref (q 3), .ref (q 18), .ref (q 19), .ref (q 6), .ref (q 20), .ref (q 21), .ref (q 22), .ref (q 23), .ref (q 15), .ref (q 17), .int 0, .ref (q 24), .ref (q 25), .int 0])), ((q 2), .inl ((ci 2), 44, .inl (upd (fun _ => 0) (Int32.toNatClampNeg p0) (vp_nar .boolean 1))))] := hD
  refine W.eq (g2 := F0 m 34 ls []) rfl ?_
  refine W.widen (k := 0) (n := 0) (Nat.le_of_ble_eq_true rfl) (Nat.le_of_ble_eq_true rfl) ?_
  exact W.vret hx hb hr (fun t ht hW => ⟨⟨(), rfl, trivial, trivial⟩, hS.F ht⟩) hS.2.2 d_TS_spoil_34
set_option maxHeartbeats 4000000 in
set_option maxRecDepth 100000 in
theorem m_TS_stopAfter (l : Launch) (dC : Nat → ClassId) (dI : Nat → Nat → Nat) (sz : Nat) (h0 : Nat) (q : Nat → Nat) (ci : Nat → ClassId) (p0 : Int32) (h : p0 ≤ 100) : Met l y_TS_stopAfter w_TS_stopAfter ({ frames := 2, cells := 0, slots := 0, locals := 60 }) (va_Pc [.ref h0, .int p0] (fun U => U.heap.size = sz ∧ va_P (dC, dI) gx_cl [(h0, .inr (8, [.ref (q 0), .ref (q 3), .ref (q 18), .ref (q 19), .ref (q 6), .ref (q 20), .ref (q 21), .ref (q 22), .ref (q 23), .ref (q 15), .ref (q 17), .int 0, .ref (q 24), .ref (q 25), .int 0])), ((q 0), .inr (1, [.ref (q 1), .ref (q 2), .int 0, .int (-1), .int 0, .int 0]))] U.heap ∧ va_K (dC, dI) gx_cl (kTS ci) U ∧ va_D (fun _ => True) [(h0, .inr (8, [.ref (q 0), .ref (q 3), .ref (q 18), .ref (q 19), .ref (q 6), .ref (q 20), .ref (q 21), .ref (q 22), .ref (q 23), .ref (q 15), .ref (q 17), .int 0, .ref (q 24), .ref (q 25), .int 0])), ((q 0), .inr (1, [.ref (q 1), .ref (q 2), .int 0, .int (-1), .int 0, .int 0]))])) (va_Qv (fun _ : Unit => True) (fun _ t => True) (va_A [(h0, .inr (8, [.ref (q 0), .ref (q 3), .ref (q 18), .ref (q 19), .ref (q 6), .ref (q 20), .ref (q 21), .ref (q 22), .ref (q 23), .ref (q 15), .ref (q 17), .int 0, .ref (q 24), .ref (q 25), .int 0])), ((q 0), .inr (1, [.ref (q 1), .ref (q 2), .int 0, .int (-1), .int 0, .int 0]))] sz)) 0 0 (va_A [(h0, .inr (8, [.ref (q 0), .ref (q 3), .ref (q 18), .ref (q 19), .ref (q 6), .ref (q 20), .ref (q 21), .ref (q 22), .ref (q 23), .ref (q 15), .ref (q 17), .int 0, .ref (q 24), .ref (q 25), .int 0])), ((q 0), .inr (1, [.ref (q 1), .ref (q 2), .int 0, .int (-1), .int 0, .int 0]))] sz) := by
  refine Met.ofW (cc := b_TS_stopAfter) (maxL := 2) (ret := none) (by decide) rfl ?_
  intro p e s m args below meth c s₁ B hml hv
  obtain ⟨rfl, hsz, hP, hK, hD0⟩ := hv
  have hx := B.exec
  have hb := B.bytes
  have hr := B.returns
  have hts := atoms_spec (ws := w_TS_stopAfter) B.pre
  have hB : ∀ w ∈ gx_B, w.before _ s = true := fun w h => hts w (List.mem_cons_of_mem _ h)
  have hown : s.vm.findClass "TapeSealer" = some m.cls := findClass_of_methodNamed B.named
  have hlocks := B.notSynchronized
  subst hsz
  have hD := hD0.self (sz := s.heap.size)
  generalize hAe : va_A [(h0, .inr (8, [.ref (q 0), .ref (q 3), .ref (q 18), .ref (q 19), .ref (q 6), .ref (q 20), .ref (q 21), .ref (q 22), .ref (q 23), .ref (q 15), .ref (q 17), .int 0, .ref (q 24), .ref (q 25), .int 0])), ((q 0), .inr (1, [.ref (q 1), .ref (q 2), .int 0, .int (-1), .int 0, .int 0]))] s.heap.size = A at hD ⊢
  have hA : ∀ q : Nat, s.heap.size ≤ q → A q := fun q h => by rw [← hAe]; exact Or.inr h
  have hS : va_S A s.heap s.heap [] := va_S.rf
  have hl := lv_entry ([.ref h0, .int p0]) (n := 2) (Nat.le_of_ble_eq_true rfl)
  rw [lg_entry_eq]
  generalize (lg_sl ([.ref h0, .int p0]) ++ List.replicate (2 - (lg_sl ([.ref h0, .int p0])).length) Slot.unset).toArray = ls at hl ⊢
  have hl : lv_has ls 2 [(0, .ref h0), (1, .int p0)] := hl
  refine lv_iload_n hx hb d_TS_stopAfter_0 rfl (lv_at hl 1 rfl) ?_
  refine lv_bipush (v := 100) hx hb d_TS_stopAfter_1 (by decide) ?_
  refine lv_icmp_le (tgt := 14) hx hb d_TS_stopAfter_3 (by decide) (fun _ => ?_) (fun h9 => absurd h h9)
  refine lv_aload_n hx hb d_TS_stopAfter_14 rfl (lv_at hl 0 rfl) ?_
  refine va_get (D := (dC, dI)) (ci := 8) (v := .ref (q 0)) (C := RTS) (T := FTS) (N := 15) hx hb hB in_TS hown hK hP 0 rfl rfl 0 (by decide) (hB _ hw_307) (fun _ h9 => h9) rfl d_TS_stopAfter_15 ?_
  refine lv_iload_n hx hb d_TS_stopAfter_18 rfl (lv_at hl 1 rfl) ?_
  refine lv_iconst (v := (-1)) hx hb d_TS_stopAfter_19 (by decide) ?_
  refine va_mmax hx hb (hml.trans hl.1.symm) hown (hB _ hw_716) (hB _ hw_717) (hB _ hw_82) (hB _ hw_mm) (Nat.le_of_ble_eq_true rfl) (Nat.le_of_ble_eq_true rfl) (Nat.le_of_ble_eq_true rfl) (Nat.le_of_ble_eq_true rfl) d_TS_stopAfter_20 ?_
  refine lv_topi (fun z1 z1_e => ?_)
  refine va_put (D := (dC, dI)) (ci := 1) (v := .int z1) (ty := .int) (C := RCa) (T := FCa) (N := 6) hx hb hB in_Ca tCa tCa_ok nCa hown hK hP hD hS 1 rfl rfl 3 (by decide) (hB _ hw_113) (fun _ h9 => h9) rfl (by decide +kernel) rfl rfl (Nat.le_of_ble_eq_true rfl) d_TS_stopAfter_23 (fun H locs hP hD hS => ?_)
  have hP : va_P (dC, dI) gx_cl [(h0, .inr (8, [.ref (q 0), .ref (q 3), .ref (q 18), .ref (q 19), .ref (q 6), .ref (q 20), .ref (q 21), .ref (q 22), .ref (q 23), .ref (q 15), .ref (q 17), .int 0, .ref (q 24), .ref (q 25), .int 0])), ((q 0), .inr (1, [.ref (q 1), .ref (q 2), .int 0, .int z1, .int 0, .int 0]))] H := hP
  have hD : va_D A [(h0, .inr (8, [.ref (q 0), .ref (q 3), .ref (q 18), .ref (q 19), .ref (q 6), .ref (q 20), .ref (q 21), .ref (q 22), .ref (q 23), .ref (q 15), .ref (q 17), .int 0, .ref (q 24), .ref (q 25), .int 0])), ((q 0), .inr (1, [.ref (q 1), .ref (q 2), .int 0, .int z1, .int 0, .int 0]))] := hD
  refine W.widen (k := 0) (n := 0) (Nat.le_of_ble_eq_true rfl) (Nat.le_of_ble_eq_true rfl) ?_
  exact W.vret hx hb hr (fun t ht hW => ⟨⟨(), rfl, trivial, trivial⟩, hS.F ht⟩) hS.2.2 d_TS_stopAfter_26
set_option maxHeartbeats 4000000 in
set_option maxRecDepth 100000 in
theorem m_TS_block (l : Launch) (dC : Nat → ClassId) (dI : Nat → Nat → Nat) (sz : Nat) (h0 : Nat) (q : Nat → Nat) (ci : Nat → ClassId) (p0 p1 : Int32) (h1 : ¬ p0 < 0) (h2 : ¬ 44 ≤ p0) (h3 : ¬ p1 < 0) (h4 : ¬ 64 ≤ p1) : Met l y_TS_block w_TS_block ({ frames := 1, cells := 0, slots := 0, locals := 21 }) (va_Pc [.ref h0, .int p0, .int p1] (fun U => U.heap.size = sz ∧ va_P (dC, dI) gx_cl [(h0, .inr (8, [.ref (q 0), .ref (q 3), .ref (q 18), .ref (q 19), .ref (q 6), .ref (q 20), .ref (q 21), .ref (q 22), .ref (q 23), .ref (q 15), .ref (q 17), .int 0, .ref (q 24), .ref (q 25), .int 0])), ((q 0), .inr (1, [.ref (q 1), .ref (q 2), .int 0, .int (-1), .int 0, .int 0])), ((q 1), .inl ((ci 0), 44, .inr (.inr (.inr (.inr (mx_g (q 1) 44)))))), ((q 2), .inl ((ci 2), 44, .inl (fun _ => 0))), ((q 1 + 1 + p0.toNatClampNeg), .inl ((ci 1), 64, .inl (fun _ => 0)))] U.heap ∧ va_K (dC, dI) gx_cl (kTS ci) U ∧ va_D (fun _ => True) [(h0, .inr (8, [.ref (q 0), .ref (q 3), .ref (q 18), .ref (q 19), .ref (q 6), .ref (q 20), .ref (q 21), .ref (q 22), .ref (q 23), .ref (q 15), .ref (q 17), .int 0, .ref (q 24), .ref (q 25), .int 0])), ((q 0), .inr (1, [.ref (q 1), .ref (q 2), .int 0, .int (-1), .int 0, .int 0])), ((q 1), .inl ((ci 0), 44, .inr (.inr (.inr (.inr (mx_g (q 1) 44)))))), ((q 2), .inl ((ci 2), 44, .inl (fun _ => 0))), ((q 1 + 1 + p0.toNatClampNeg), .inl ((ci 1), 64, .inl (fun _ => 0)))])) (va_Qi (fun (r : Int32) (_ : Unit) => r = 0) (fun _ t => True) (va_A [(h0, .inr (8, [.ref (q 0), .ref (q 3), .ref (q 18), .ref (q 19), .ref (q 6), .ref (q 20), .ref (q 21), .ref (q 22), .ref (q 23), .ref (q 15), .ref (q 17), .int 0, .ref (q 24), .ref (q 25), .int 0])), ((q 0), .inr (1, [.ref (q 1), .ref (q 2), .int 0, .int (-1), .int 0, .int 0])), ((q 1), .inl ((ci 0), 44, .inr (.inr (.inr (.inr (mx_g (q 1) 44)))))), ((q 2), .inl ((ci 2), 44, .inl (fun _ => 0))), ((q 1 + 1 + p0.toNatClampNeg), .inl ((ci 1), 64, .inl (fun _ => 0)))] sz)) 0 0 (va_A [(h0, .inr (8, [.ref (q 0), .ref (q 3), .ref (q 18), .ref (q 19), .ref (q 6), .ref (q 20), .ref (q 21), .ref (q 22), .ref (q 23), .ref (q 15), .ref (q 17), .int 0, .ref (q 24), .ref (q 25), .int 0])), ((q 0), .inr (1, [.ref (q 1), .ref (q 2), .int 0, .int (-1), .int 0, .int 0])), ((q 1), .inl ((ci 0), 44, .inr (.inr (.inr (.inr (mx_g (q 1) 44)))))), ((q 2), .inl ((ci 2), 44, .inl (fun _ => 0))), ((q 1 + 1 + p0.toNatClampNeg), .inl ((ci 1), 64, .inl (fun _ => 0)))] sz) := by
  refine Met.ofW (cc := b_TS_block) (maxL := 3) (ret := (some .int)) (by decide) rfl ?_
  intro p e s m args below meth c s₁ B hml hv
  obtain ⟨rfl, hsz, hP, hK, hD0⟩ := hv
  have hx := B.exec
  have hb := B.bytes
  have hr := B.returns
  have hts := atoms_spec (ws := w_TS_block) B.pre
  have hB : ∀ w ∈ gx_B, w.before _ s = true := fun w h => hts w (List.mem_cons_of_mem _ h)
  have hown : s.vm.findClass "TapeSealer" = some m.cls := findClass_of_methodNamed B.named
  have hlocks := B.notSynchronized
  subst hsz
  have hD := hD0.self (sz := s.heap.size)
  generalize hAe : va_A [(h0, .inr (8, [.ref (q 0), .ref (q 3), .ref (q 18), .ref (q 19), .ref (q 6), .ref (q 20), .ref (q 21), .ref (q 22), .ref (q 23), .ref (q 15), .ref (q 17), .int 0, .ref (q 24), .ref (q 25), .int 0])), ((q 0), .inr (1, [.ref (q 1), .ref (q 2), .int 0, .int (-1), .int 0, .int 0])), ((q 1), .inl ((ci 0), 44, .inr (.inr (.inr (.inr (mx_g (q 1) 44)))))), ((q 2), .inl ((ci 2), 44, .inl (fun _ => 0))), ((q 1 + 1 + p0.toNatClampNeg), .inl ((ci 1), 64, .inl (fun _ => 0)))] s.heap.size = A at hD ⊢
  have hA : ∀ q : Nat, s.heap.size ≤ q → A q := fun q h => by rw [← hAe]; exact Or.inr h
  have hS : va_S A s.heap s.heap [] := va_S.rf
  have hl := lv_entry ([.ref h0, .int p0, .int p1]) (n := 3) (Nat.le_of_ble_eq_true rfl)
  rw [lg_entry_eq]
  generalize (lg_sl ([.ref h0, .int p0, .int p1]) ++ List.replicate (3 - (lg_sl ([.ref h0, .int p0, .int p1])).length) Slot.unset).toArray = ls at hl ⊢
  have hl : lv_has ls 3 [(0, .ref h0), (1, .int p0), (2, .int p1)] := hl
  refine lv_iload_n hx hb d_TS_block_0 rfl (lv_at hl 1 rfl) ?_
  refine lv_iload_n hx hb d_TS_block_1 rfl (lv_at hl 2 rfl) ?_
  refine px_go (va_runS (As := [.int p0, .int p1]) (rest := []) ⟨hx, hb, hml, hown, hts⟩ (p_TS_isByte1 l p0 p1 h1 h2 h3 h4) (cwS 2 hts (gx_goodS hw_841 hw_842 hw_66 k_TS_isByte) rfl rfl rfl (by decide +kernel) ⟨(Nat.le_of_ble_eq_true rfl), (Nat.le_of_ble_eq_true rfl)⟩) ⟨fun a U g mk q => q, fun U hU hW => ⟨rfl, trivial⟩⟩ rfl rfl hl.1 rfl (lv_room (Nat.le_of_ble_eq_true rfl)) d_TS_block_2 ⟨(Nat.le_of_ble_eq_true rfl), (Nat.le_of_ble_eq_true rfl)⟩) ?_
  refine W.eq (g2 := F0 m 5 ls [.int 1]) rfl ?_
  refine lv_if_ne (tgt := 16) hx hb d_TS_block_5 (by decide) (fun _ => ?_) (fun h9 => absurd h9 (by decide))
  refine lv_aload_n hx hb d_TS_block_16 rfl (lv_at hl 0 rfl) ?_
  refine va_get (D := (dC, dI)) (ci := 8) (v := .ref (q 0)) (C := RTS) (T := FTS) (N := 15) hx hb hB in_TS hown hK hP 0 rfl rfl 0 (by decide) (hB _ hw_307) (fun _ h9 => h9) rfl d_TS_block_17 ?_
  refine va_get (D := (dC, dI)) (ci := 1) (v := .ref (q 2)) (C := RCa) (T := FCa) (N := 6) hx hb hB in_Ca hown hK hP 1 rfl rfl 1 (by decide) (hB _ hw_109) (fun _ h9 => h9) rfl d_TS_block_20 ?_
  refine lv_iload_n hx hb d_TS_block_23 rfl (lv_at hl 1 rfl) ?_
  refine va_zald (D := (dC, dI)) hx hb hK hP 3 2 rfl rfl (gx_in44 h1 h2) d_TS_block_24 ?_
  refine W.eq (g2 := F0 m 25 ls [.int 0]) rfl ?_
  refine lv_if_eq (tgt := 32) hx hb d_TS_block_25 (by decide) (fun _ => ?_) (fun h9 => absurd (by decide) h9)
  refine lv_aload_n hx hb d_TS_block_32 rfl (lv_at hl 0 rfl) ?_
  refine va_get (D := (dC, dI)) (ci := 8) (v := .ref (q 0)) (C := RTS) (T := FTS) (N := 15) hx hb hB in_TS hown hK hP 0 rfl rfl 0 (by decide) (hB _ hw_307) (fun _ h9 => h9) rfl d_TS_block_33 ?_
  refine va_get (D := (dC, dI)) (ci := 1) (v := .ref (q 1)) (C := RCa) (T := FCa) (N := 6) hx hb hB in_Ca hown hK hP 1 rfl rfl 0 (by decide) (hB _ hw_106) (fun _ h9 => h9) rfl d_TS_block_36 ?_
  refine lv_iload_n hx hb d_TS_block_39 rfl (lv_at hl 1 rfl) ?_
  refine mx_ald (D := (dC, dI)) hx hb hK hP 2 0 rfl rfl (jn := p0.toNatClampNeg) rfl (gx_in44 h1 h2) d_TS_block_40 ?_
  refine W.eq (g2 := F0 m 41 ls [.ref (q 1 + 1 + p0.toNatClampNeg)]) rfl ?_
  refine lv_iload_n hx hb d_TS_block_41 rfl (lv_at hl 2 rfl) ?_
  refine va_iald (D := (dC, dI)) hx hb hK hP 4 1 rfl rfl (gx_in64 h3 h4) d_TS_block_42 ?_
  refine W.eq (g2 := F0 m 43 ls [.int 0]) rfl ?_
  refine W.widen (k := 0) (n := 0) (Nat.le_of_ble_eq_true rfl) (Nat.le_of_ble_eq_true rfl) ?_
  exact W.iret (v := 0) hx hb hr (fun t ht hW => ⟨⟨0, (), rfl, rfl, trivial⟩, hS.F ht⟩) hS.2.2 d_TS_block_43
set_option maxHeartbeats 4000000 in
set_option maxRecDepth 100000 in
theorem m_TS_mount (l : Launch) (dC : Nat → ClassId) (dI : Nat → Nat → Nat) (sz : Nat) (h0 : Nat) (q : Nat → Nat) (ci : Nat → ClassId)  : Met l y_TS_mount w_TS_mount ({ frames := 1, cells := 0, slots := 0, locals := 22 }) (va_Pc [.ref h0] (fun U => U.heap.size = sz ∧ va_P (dC, dI) gx_cl (wTS h0 q ci) U.heap ∧ va_K (dC, dI) gx_cl (kTS ci) U ∧ va_D (fun _ => True) (wTS h0 q ci))) (va_Qi (fun (r : Int32) (_ : Unit) => r = 0) (fun _ t => True) (va_A (wTS h0 q ci) sz)) 0 0 (va_A (wTS h0 q ci) sz) := by
  refine Met.ofW (cc := b_TS_mount) (maxL := 1) (ret := (some .int)) (by decide) rfl ?_
  intro p e s m args below meth c s₁ B hml hv
  obtain ⟨rfl, hsz, hP, hK, hD0⟩ := hv
  have hx := B.exec
  have hb := B.bytes
  have hr := B.returns
  have hts := atoms_spec (ws := w_TS_mount) B.pre
  have hB : ∀ w ∈ gx_B, w.before _ s = true := fun w h => hts w (List.mem_cons_of_mem _ h)
  have hown : s.vm.findClass "TapeSealer" = some m.cls := findClass_of_methodNamed B.named
  have hlocks := B.notSynchronized
  subst hsz
  have hD := hD0.self (sz := s.heap.size)
  generalize hAe : va_A (wTS h0 q ci) s.heap.size = A at hD ⊢
  have hA : ∀ q : Nat, s.heap.size ≤ q → A q := fun q h => by rw [← hAe]; exact Or.inr h
  have hS : va_S A s.heap s.heap [] := va_S.rf
  have hl := lv_entry ([.ref h0]) (n := 1) (Nat.le_of_ble_eq_true rfl)
  rw [lg_entry_eq]
  generalize (lg_sl ([.ref h0]) ++ List.replicate (1 - (lg_sl ([.ref h0])).length) Slot.unset).toArray = ls at hl ⊢
  have hl : lv_has ls 1 [(0, .ref h0)] := hl
  refine lv_aload_n hx hb d_TS_mount_0 rfl (lv_at hl 0 rfl) ?_
  refine va_get (D := (dC, dI)) (ci := 8) (v := .ref (q 0)) (C := RTS) (T := FTS) (N := 15) hx hb hB in_TS hown hK hP 0 rfl rfl 0 (by decide) (hB _ hw_307) (fun _ h9 => h9) rfl d_TS_mount_1 ?_
  refine lv_iconst (v := 0) hx hb d_TS_mount_4 (by decide) ?_
  refine va_put (D := (dC, dI)) (ci := 1) (v := .int 0) (ty := .boolean) (C := RCa) (T := FCa) (N := 6) hx hb hB in_Ca tCa tCa_ok nCa hown hK hP hD hS 1 rfl rfl 4 (by decide) (hB _ hw_115) (fun _ h9 => h9) rfl (by decide +kernel) rfl rfl (Nat.le_of_ble_eq_true rfl) d_TS_mount_5 (fun H locs hP hD hS => ?_)
  have hP : va_P (dC, dI) gx_cl (wTS h0 q ci) H := hP
  have hD : va_D A (wTS h0 q ci) := hD
  refine lv_aload_n hx hb d_TS_mount_8 rfl (lv_at hl 0 rfl) ?_
  refine va_get (D := (dC, dI)) (ci := 8) (v := .ref (q 0)) (C := RTS) (T := FTS) (N := 15) hx hb hB in_TS hown hK hP 0 rfl rfl 0 (by decide) (hB _ hw_307) (fun _ h9 => h9) rfl d_TS_mount_9 ?_
  refine lv_iconst (v := (-1)) hx hb d_TS_mount_12 (by decide) ?_
  refine va_put (D := (dC, dI)) (ci := 1) (v := .int (-1)) (ty := .int) (C := RCa) (T := FCa) (N := 6) hx hb hB in_Ca tCa tCa_ok nCa hown hK hP hD hS 1 rfl rfl 3 (by decide) (hB _ hw_113) (fun _ h9 => h9) rfl (by decide +kernel) rfl rfl (Nat.le_of_ble_eq_true rfl) d_TS_mount_13 (fun H locs hP hD hS => ?_)
  have hP : va_P (dC, dI) gx_cl (wTS h0 q ci) H := hP
  have hD : va_D A (wTS h0 q ci) := hD
  refine lv_aload_n hx hb d_TS_mount_16 rfl (lv_at hl 0 rfl) ?_
  refine va_get (D := (dC, dI)) (ci := 8) (v := .ref (q 15)) (C := RTS) (T := FTS) (N := 15) hx hb hB in_TS hown hK hP 0 rfl rfl 9 (by decide) (hB _ hw_316) (fun _ h9 => h9) rfl d_TS_mount_17 ?_
  refine lv_iconst (v := (-1)) hx hb d_TS_mount_20 (by decide) ?_
  refine va_put (D := (dC, dI)) (ci := 2) (v := .int (-1)) (ty := .int) (C := RDr) (T := FDr) (N := 4) hx hb hB in_Dr tDr tDr_ok nDr hown hK hP hD hS 10 rfl rfl 1 (by decide) (hB _ hw_295) (fun _ h9 => h9) rfl (by decide +kernel) rfl rfl (Nat.le_of_ble_eq_true rfl) d_TS_mount_21 (fun H locs hP hD hS => ?_)
  have hP : va_P (dC, dI) gx_cl (wTS h0 q ci) H := hP
  have hD : va_D A (wTS h0 q ci) := hD
  refine lv_aload_n hx hb d_TS_mount_24 rfl (lv_at hl 0 rfl) ?_
  refine px_go (va_runV (C := "TapeSealer") (As := []) (rest := []) ⟨hx, hb, hml, hown, hts⟩ (p_TS_lookAtHeaders l dC dI h0 q ci) (cwV 0 hts (gx_goodV hw_361 hw_363 hw_0 hw_66 k_TS_lookAtHeaders) rfl rfl rfl (by decide +kernel) ⟨(Nat.le_of_ble_eq_true rfl), (Nat.le_of_ble_eq_true rfl)⟩) ⟨fun a U g mk q => by obtain ⟨q0, qP, qK⟩ := q; exact ⟨q0, qP, va_K.moved (u := U) (U := U.calling g mk a) (Vm.Alike.refl U.vm) qK⟩, va_recv hK hP rfl (q0 := 0) rfl, fun U hU hW => ⟨rfl, by rw [hU]; exact hP, va_K.moved hW.alike (hK)⟩⟩ rfl rfl hl.1 rfl (lv_room (Nat.le_of_ble_eq_true rfl)) d_TS_mount_25 ⟨(Nat.le_of_ble_eq_true rfl), (Nat.le_of_ble_eq_true rfl)⟩) ?_
  refine W.eq (g2 := F0 m 28 ls []) rfl ?_
  refine lv_aload_n hx hb d_TS_mount_28 rfl (lv_at hl 0 rfl) ?_
  refine px_go (va_runV (C := "TapeSealer") (As := []) (rest := []) ⟨hx, hb, hml, hown, hts⟩ (p_TS_countFiles l dC dI h0 q ci) (cwV 0 hts (gx_goodV hw_458 hw_460 hw_10 hw_66 k_TS_countFiles) rfl rfl rfl (by decide +kernel) ⟨(Nat.le_of_ble_eq_true rfl), (Nat.le_of_ble_eq_true rfl)⟩) ⟨fun a U g mk q => by obtain ⟨q0, qP, qK⟩ := q; exact ⟨q0, qP, va_K.moved (u := U) (U := U.calling g mk a) (Vm.Alike.refl U.vm) qK⟩, va_recv hK hP rfl (q0 := 0) rfl, fun U hU hW => ⟨rfl, by rw [hU]; exact hP, va_K.moved hW.alike (hK)⟩⟩ rfl rfl hl.1 rfl (lv_room (Nat.le_of_ble_eq_true rfl)) d_TS_mount_29 ⟨(Nat.le_of_ble_eq_true rfl), (Nat.le_of_ble_eq_true rfl)⟩) ?_
  refine W.eq (g2 := F0 m 32 ls [.int 0]) rfl ?_
  refine W.widen (k := 0) (n := 0) (Nat.le_of_ble_eq_true rfl) (Nat.le_of_ble_eq_true rfl) ?_
  exact W.iret (v := 0) hx hb hr (fun t ht hW => ⟨⟨0, (), rfl, rfl, trivial⟩, hS.F ht⟩) hS.2.2 d_TS_mount_32
end
section
abbrev b_Mo_isGoodHeader : ByteArray := prog_12_method_19_code
def y_Mo_isGoodHeader : MethodName := ⟨"TapeSealerModel", "isGoodHeader", "(II)Z"⟩
abbrev w_Mo_isGoodHeader : List Cond := .code y_Mo_isGoodHeader b_Mo_isGoodHeader 6 (some .boolean) :: gx_B
theorem k_Mo_isGoodHeader : (.code y_Mo_isGoodHeader b_Mo_isGoodHeader 6 (some .boolean) : Cond) ∈ gx_B := gx_mem 1053 (by decide +kernel) rfl
abbrev b_Mo_look : ByteArray := prog_12_method_20_code
def y_Mo_look : MethodName := ⟨"TapeSealerModel", "look", "(I)Z"⟩
abbrev w_Mo_look : List Cond := .code y_Mo_look b_Mo_look 2 (some .boolean) :: gx_B
theorem k_Mo_look : (.code y_Mo_look b_Mo_look 2 (some .boolean) : Cond) ∈ gx_B := gx_mem 1049 (by decide +kernel) rfl
abbrev b_Mo_files : ByteArray := prog_12_method_22_code
def y_Mo_files : MethodName := ⟨"TapeSealerModel", "files", "()I"⟩
abbrev w_Mo_files : List Cond := .code y_Mo_files b_Mo_files 3 (some .int) :: gx_B
theorem k_Mo_files : (.code y_Mo_files b_Mo_files 3 (some .int) : Cond) ∈ gx_B := gx_mem 1045 (by decide +kernel) rfl
abbrev b_Mo_taken : ByteArray := prog_12_method_21_code
def y_Mo_taken : MethodName := ⟨"TapeSealerModel", "taken", "()I"⟩
abbrev w_Mo_taken : List Cond := .code y_Mo_taken b_Mo_taken 4 (some .int) :: gx_B
theorem k_Mo_taken : (.code y_Mo_taken b_Mo_taken 4 (some .int) : Cond) ∈ gx_B := gx_mem 1122 (by decide +kernel) rfl
abbrev b_Mo_isOfFile : ByteArray := prog_12_method_53_code
def y_Mo_isOfFile : MethodName := ⟨"TapeSealerModel", "isOfFile", "(I)Z"⟩
abbrev w_Mo_isOfFile : List Cond := .code y_Mo_isOfFile b_Mo_isOfFile 3 (some .boolean) :: gx_B
theorem k_Mo_isOfFile : (.code y_Mo_isOfFile b_Mo_isOfFile 3 (some .boolean) : Cond) ∈ gx_B := gx_mem 1234 (by decide +kernel) rfl
abbrev b_Mo_isBlock : ByteArray := prog_12_method_56_code
def y_Mo_isBlock : MethodName := ⟨"TapeSealerModel", "isBlock", "(I)Z"⟩
abbrev w_Mo_isBlock : List Cond := .code y_Mo_isBlock b_Mo_isBlock 1 (some .boolean) :: gx_B
theorem k_Mo_isBlock : (.code y_Mo_isBlock b_Mo_isBlock 1 (some .boolean) : Cond) ∈ gx_B := gx_mem 1245 (by decide +kernel) rfl
abbrev b_Mo_thrown : ByteArray := prog_12_method_2_code
def y_Mo_thrown : MethodName := ⟨"TapeSealerModel", "thrown", "()I"⟩
abbrev w_Mo_thrown : List Cond := .code y_Mo_thrown b_Mo_thrown 1 (some .int) :: gx_B
theorem k_Mo_thrown : (.code y_Mo_thrown b_Mo_thrown 1 (some .int) : Cond) ∈ gx_B := gx_mem 1029 (by decide +kernel) rfl
theorem hw_32 : (.selects "TapeSealerModel" ⟨"TapeSealerModel", "look", "(I)Z"⟩ ⟨"TapeSealerModel", "look", "(I)Z"⟩ : Cond) ∈ gx_B := gx_mem 32 (by decide +kernel) rfl
theorem hw_33 : (.selects "TapeSealerModel" ⟨"TapeSealerModel", "isGoodHeader", "(II)Z"⟩ ⟨"TapeSealerModel", "isGoodHeader", "(II)Z"⟩ : Cond) ∈ gx_B := gx_mem 33 (by decide +kernel) rfl
theorem hw_75 : (.initialized "TapeSealerModel" : Cond) ∈ gx_B := gx_mem 75 (by decide +kernel) rfl
theorem hw_890 : (.fieldLink "TapeSealerModel" 87 "TapeSealerModel" "code" "I" : Cond) ∈ gx_B := gx_mem 890 (by decide +kernel) rfl
theorem hw_1046 : (.methodLink "TapeSealerModel" 172 ⟨"TapeSealerModel", "look", "(I)Z"⟩ : Cond) ∈ gx_B := gx_mem 1046 (by decide +kernel) rfl
theorem hw_1048 : (.instanceMethod ⟨"TapeSealerModel", "look", "(I)Z"⟩ : Cond) ∈ gx_B := gx_mem 1048 (by decide +kernel) rfl
theorem hw_1050 : (.methodLink "TapeSealerModel" 168 ⟨"TapeSealerModel", "isGoodHeader", "(II)Z"⟩ : Cond) ∈ gx_B := gx_mem 1050 (by decide +kernel) rfl
theorem hw_1052 : (.instanceMethod ⟨"TapeSealerModel", "isGoodHeader", "(II)Z"⟩ : Cond) ∈ gx_B := gx_mem 1052 (by decide +kernel) rfl
end
section
theorem d_Mo_files_0 : decode b_Mo_files 0 = .ok (.iconst 0, 1) := by decide +kernel
theorem d_Mo_files_1 : decode b_Mo_files 1 = .ok (.istore_n 1, 1) := by decide +kernel
theorem d_Mo_files_10 : decode b_Mo_files 10 = .ok (.aload_n 0, 1) := by decide +kernel
theorem d_Mo_files_11 : decode b_Mo_files 11 = .ok (.iload_n 2, 1) := by decide +kernel
theorem d_Mo_files_12 : decode b_Mo_files 12 = .ok (.invokevirtual 172, 3) := by decide +kernel
theorem d_Mo_files_15 : decode b_Mo_files 15 = .ok (.ifCond .eq 7, 3) := by decide +kernel
theorem d_Mo_files_2 : decode b_Mo_files 2 = .ok (.iconst 0, 1) := by decide +kernel
theorem d_Mo_files_22 : decode b_Mo_files 22 = .ok (.iconst 0, 1) := by decide +kernel
theorem d_Mo_files_23 : decode b_Mo_files 23 = .ok (.iadd, 1) := by decide +kernel
theorem d_Mo_files_24 : decode b_Mo_files 24 = .ok (.istore_n 1, 1) := by decide +kernel
theorem d_Mo_files_25 : decode b_Mo_files 25 = .ok (.iinc 2 1, 3) := by decide +kernel
theorem d_Mo_files_28 : decode b_Mo_files 28 = .ok (.goto (-24), 3) := by decide +kernel
theorem d_Mo_files_3 : decode b_Mo_files 3 = .ok (.istore_n 2, 1) := by decide +kernel
theorem d_Mo_files_31 : decode b_Mo_files 31 = .ok (.iload_n 1, 1) := by decide +kernel
theorem d_Mo_files_32 : decode b_Mo_files 32 = .ok (.ireturn, 1) := by decide +kernel
theorem d_Mo_files_4 : decode b_Mo_files 4 = .ok (.iload_n 2, 1) := by decide +kernel
theorem d_Mo_files_5 : decode b_Mo_files 5 = .ok (.iconst 4, 1) := by decide +kernel
theorem d_Mo_files_6 : decode b_Mo_files 6 = .ok (.if_icmp .ge 25, 3) := by decide +kernel
theorem d_Mo_files_9 : decode b_Mo_files 9 = .ok (.iload_n 1, 1) := by decide +kernel
theorem d_Mo_isBlock_0 : decode b_Mo_isBlock 0 = .ok (.iload_n 0, 1) := by decide +kernel
theorem d_Mo_isBlock_1 : decode b_Mo_isBlock 1 = .ok (.ifCond .lt 13, 3) := by decide +kernel
theorem d_Mo_isBlock_10 : decode b_Mo_isBlock 10 = .ok (.iconst 1, 1) := by decide +kernel
theorem d_Mo_isBlock_11 : decode b_Mo_isBlock 11 = .ok (.goto 4, 3) := by decide +kernel
theorem d_Mo_isBlock_14 : decode b_Mo_isBlock 14 = .ok (.iconst 0, 1) := by decide +kernel
theorem d_Mo_isBlock_15 : decode b_Mo_isBlock 15 = .ok (.ireturn, 1) := by decide +kernel
theorem d_Mo_isBlock_4 : decode b_Mo_isBlock 4 = .ok (.iload_n 0, 1) := by decide +kernel
theorem d_Mo_isBlock_5 : decode b_Mo_isBlock 5 = .ok (.bipush 44, 2) := by decide +kernel
theorem d_Mo_isBlock_7 : decode b_Mo_isBlock 7 = .ok (.if_icmp .ge 7, 3) := by decide +kernel
theorem d_Mo_isGoodHeader_0 : decode b_Mo_isGoodHeader 0 = .ok (.bipush 64, 2) := by decide +kernel
theorem d_Mo_isGoodHeader_10 : decode b_Mo_isGoodHeader 10 = .ok (.iconst 1, 1) := by decide +kernel
theorem d_Mo_isGoodHeader_11 : decode b_Mo_isGoodHeader 11 = .ok (.iadd, 1) := by decide +kernel
theorem d_Mo_isGoodHeader_12 : decode b_Mo_isGoodHeader 12 = .ok (.iaload, 1) := by decide +kernel
theorem d_Mo_isGoodHeader_13 : decode b_Mo_isGoodHeader 13 = .ok (.istore 4, 2) := by decide +kernel
theorem d_Mo_isGoodHeader_15 : decode b_Mo_isGoodHeader 15 = .ok (.aload_n 0, 1) := by decide +kernel
theorem d_Mo_isGoodHeader_16 : decode b_Mo_isGoodHeader 16 = .ok (.getfield 13, 3) := by decide +kernel
theorem d_Mo_isGoodHeader_19 : decode b_Mo_isGoodHeader 19 = .ok (.iload_n 2, 1) := by decide +kernel
theorem d_Mo_isGoodHeader_2 : decode b_Mo_isGoodHeader 2 = .ok (.iload_n 2, 1) := by decide +kernel
theorem d_Mo_isGoodHeader_20 : decode b_Mo_isGoodHeader 20 = .ok (.baload, 1) := by decide +kernel
theorem d_Mo_isGoodHeader_21 : decode b_Mo_isGoodHeader 21 = .ok (.ifCond .ne 40, 3) := by decide +kernel
theorem d_Mo_isGoodHeader_24 : decode b_Mo_isGoodHeader 24 = .ok (.aload_n 0, 1) := by decide +kernel
theorem d_Mo_isGoodHeader_25 : decode b_Mo_isGoodHeader 25 = .ok (.getfield 7, 3) := by decide +kernel
theorem d_Mo_isGoodHeader_28 : decode b_Mo_isGoodHeader 28 = .ok (.iload_n 3, 1) := by decide +kernel
theorem d_Mo_isGoodHeader_29 : decode b_Mo_isGoodHeader 29 = .ok (.iaload, 1) := by decide +kernel
theorem d_Mo_isGoodHeader_3 : decode b_Mo_isGoodHeader 3 = .ok (.imul, 1) := by decide +kernel
theorem d_Mo_isGoodHeader_30 : decode b_Mo_isGoodHeader 30 = .ok (.iload_n 1, 1) := by decide +kernel
theorem d_Mo_isGoodHeader_31 : decode b_Mo_isGoodHeader 31 = .ok (.iconst 1, 1) := by decide +kernel
theorem d_Mo_isGoodHeader_32 : decode b_Mo_isGoodHeader 32 = .ok (.iadd, 1) := by decide +kernel
theorem d_Mo_isGoodHeader_33 : decode b_Mo_isGoodHeader 33 = .ok (.if_icmp .ne 28, 3) := by decide +kernel
theorem d_Mo_isGoodHeader_4 : decode b_Mo_isGoodHeader 4 = .ok (.istore_n 3, 1) := by decide +kernel
theorem d_Mo_isGoodHeader_5 : decode b_Mo_isGoodHeader 5 = .ok (.aload_n 0, 1) := by decide +kernel
theorem d_Mo_isGoodHeader_6 : decode b_Mo_isGoodHeader 6 = .ok (.getfield 7, 3) := by decide +kernel
theorem d_Mo_isGoodHeader_61 : decode b_Mo_isGoodHeader 61 = .ok (.iconst 0, 1) := by decide +kernel
theorem d_Mo_isGoodHeader_62 : decode b_Mo_isGoodHeader 62 = .ok (.ireturn, 1) := by decide +kernel
theorem d_Mo_isGoodHeader_9 : decode b_Mo_isGoodHeader 9 = .ok (.iload_n 3, 1) := by decide +kernel
theorem d_Mo_isOfFile_0 : decode b_Mo_isOfFile 0 = .ok (.iconst 0, 1) := by decide +kernel
theorem d_Mo_isOfFile_1 : decode b_Mo_isOfFile 1 = .ok (.istore_n 2, 1) := by decide +kernel
theorem d_Mo_isOfFile_12 : decode b_Mo_isOfFile 12 = .ok (.ifCond .eq 26, 3) := by decide +kernel
theorem d_Mo_isOfFile_2 : decode b_Mo_isOfFile 2 = .ok (.iload_n 2, 1) := by decide +kernel
theorem d_Mo_isOfFile_3 : decode b_Mo_isOfFile 3 = .ok (.iconst 4, 1) := by decide +kernel
theorem d_Mo_isOfFile_38 : decode b_Mo_isOfFile 38 = .ok (.iinc 2 1, 3) := by decide +kernel
end
section
theorem d_Mo_isOfFile_4 : decode b_Mo_isOfFile 4 = .ok (.if_icmp .ge 40, 3) := by decide +kernel
theorem d_Mo_isOfFile_41 : decode b_Mo_isOfFile 41 = .ok (.goto (-39), 3) := by decide +kernel
theorem d_Mo_isOfFile_44 : decode b_Mo_isOfFile 44 = .ok (.iconst 0, 1) := by decide +kernel
theorem d_Mo_isOfFile_45 : decode b_Mo_isOfFile 45 = .ok (.ireturn, 1) := by decide +kernel
theorem d_Mo_isOfFile_7 : decode b_Mo_isOfFile 7 = .ok (.aload_n 0, 1) := by decide +kernel
theorem d_Mo_isOfFile_8 : decode b_Mo_isOfFile 8 = .ok (.iload_n 2, 1) := by decide +kernel
theorem d_Mo_isOfFile_9 : decode b_Mo_isOfFile 9 = .ok (.invokevirtual 172, 3) := by decide +kernel
theorem d_Mo_look_0 : decode b_Mo_look 0 = .ok (.iload_n 1, 1) := by decide +kernel
theorem d_Mo_look_1 : decode b_Mo_look 1 = .ok (.ifCond .lt 36, 3) := by decide +kernel
theorem d_Mo_look_10 : decode b_Mo_look 10 = .ok (.iload_n 1, 1) := by decide +kernel
theorem d_Mo_look_11 : decode b_Mo_look 11 = .ok (.iconst 2, 1) := by decide +kernel
theorem d_Mo_look_12 : decode b_Mo_look 12 = .ok (.iload_n 1, 1) := by decide +kernel
theorem d_Mo_look_13 : decode b_Mo_look 13 = .ok (.imul, 1) := by decide +kernel
theorem d_Mo_look_14 : decode b_Mo_look 14 = .ok (.invokevirtual 168, 3) := by decide +kernel
theorem d_Mo_look_17 : decode b_Mo_look 17 = .ok (.ifCond .ne 16, 3) := by decide +kernel
theorem d_Mo_look_20 : decode b_Mo_look 20 = .ok (.aload_n 0, 1) := by decide +kernel
theorem d_Mo_look_21 : decode b_Mo_look 21 = .ok (.iload_n 1, 1) := by decide +kernel
theorem d_Mo_look_22 : decode b_Mo_look 22 = .ok (.iconst 2, 1) := by decide +kernel
theorem d_Mo_look_23 : decode b_Mo_look 23 = .ok (.iload_n 1, 1) := by decide +kernel
theorem d_Mo_look_24 : decode b_Mo_look 24 = .ok (.imul, 1) := by decide +kernel
theorem d_Mo_look_25 : decode b_Mo_look 25 = .ok (.iconst 1, 1) := by decide +kernel
theorem d_Mo_look_26 : decode b_Mo_look 26 = .ok (.iadd, 1) := by decide +kernel
theorem d_Mo_look_27 : decode b_Mo_look 27 = .ok (.invokevirtual 168, 3) := by decide +kernel
theorem d_Mo_look_30 : decode b_Mo_look 30 = .ok (.ifCond .eq 7, 3) := by decide +kernel
theorem d_Mo_look_37 : decode b_Mo_look 37 = .ok (.iconst 0, 1) := by decide +kernel
theorem d_Mo_look_38 : decode b_Mo_look 38 = .ok (.ireturn, 1) := by decide +kernel
theorem d_Mo_look_4 : decode b_Mo_look 4 = .ok (.iload_n 1, 1) := by decide +kernel
theorem d_Mo_look_5 : decode b_Mo_look 5 = .ok (.iconst 4, 1) := by decide +kernel
theorem d_Mo_look_6 : decode b_Mo_look 6 = .ok (.if_icmp .ge 31, 3) := by decide +kernel
theorem d_Mo_look_9 : decode b_Mo_look 9 = .ok (.aload_n 0, 1) := by decide +kernel
theorem d_Mo_taken_0 : decode b_Mo_taken 0 = .ok (.iconst 0, 1) := by decide +kernel
theorem d_Mo_taken_1 : decode b_Mo_taken 1 = .ok (.istore_n 1, 1) := by decide +kernel
theorem d_Mo_taken_10 : decode b_Mo_taken 10 = .ok (.iload_n 2, 1) := by decide +kernel
theorem d_Mo_taken_11 : decode b_Mo_taken 11 = .ok (.invokevirtual 172, 3) := by decide +kernel
theorem d_Mo_taken_14 : decode b_Mo_taken 14 = .ok (.ifCond .ne 6, 3) := by decide +kernel
theorem d_Mo_taken_17 : decode b_Mo_taken 17 = .ok (.goto 30, 3) := by decide +kernel
theorem d_Mo_taken_2 : decode b_Mo_taken 2 = .ok (.iconst 0, 1) := by decide +kernel
theorem d_Mo_taken_3 : decode b_Mo_taken 3 = .ok (.istore_n 2, 1) := by decide +kernel
theorem d_Mo_taken_4 : decode b_Mo_taken 4 = .ok (.iload_n 2, 1) := by decide +kernel
theorem d_Mo_taken_47 : decode b_Mo_taken 47 = .ok (.iinc 2 1, 3) := by decide +kernel
theorem d_Mo_taken_5 : decode b_Mo_taken 5 = .ok (.iconst 4, 1) := by decide +kernel
theorem d_Mo_taken_50 : decode b_Mo_taken 50 = .ok (.goto (-46), 3) := by decide +kernel
theorem d_Mo_taken_53 : decode b_Mo_taken 53 = .ok (.iload_n 1, 1) := by decide +kernel
theorem d_Mo_taken_54 : decode b_Mo_taken 54 = .ok (.ireturn, 1) := by decide +kernel
theorem d_Mo_taken_6 : decode b_Mo_taken 6 = .ok (.if_icmp .ge 47, 3) := by decide +kernel
theorem d_Mo_taken_9 : decode b_Mo_taken 9 = .ok (.aload_n 0, 1) := by decide +kernel
theorem d_Mo_thrown_0 : decode b_Mo_thrown 0 = .ok (.aload_n 0, 1) := by decide +kernel
theorem d_Mo_thrown_1 : decode b_Mo_thrown 1 = .ok (.getfield 87, 3) := by decide +kernel
theorem d_Mo_thrown_4 : decode b_Mo_thrown 4 = .ok (.ireturn, 1) := by decide +kernel
end
section
theorem gx_nlt44 {g : Int32} (h : 44 ≤ g) : ¬ g < 0 := by
  rw [Int32.le_iff_toInt_le] at h
  rw [Int32.lt_iff_toInt_lt]
  have h1 : (44 : Int32).toInt = 44 := by decide
  have h0 : (0 : Int32).toInt = 0 := by decide
  omega
set_option maxHeartbeats 4000000 in
set_option maxRecDepth 100000 in
theorem p_Mo_good0 (l : Launch) (dC : Nat → ClassId) (dI : Nat → Nat → Nat) (h0 : Nat) (q : Nat → Nat) (ci : Nat → ClassId) : Met l y_Mo_isGoodHeader w_Mo_isGoodHeader ({ frames := 0, cells := 0, slots := 0, locals := 0 }) (va_Pc [.ref h0, .int 0, .int 0] (fun U => va_P (dC, dI) gx_cl (wMo h0 q ci) U.heap ∧ va_K (dC, dI) gx_cl (kMo ci) U)) (px_Q (some (.int 0))) 0 0 (fun _ => False) := by
  refine Met.ofW (cc := b_Mo_isGoodHeader) (maxL := 6) (ret := (some .boolean)) (by decide) rfl ?_
  intro p e s m args below meth c s₁ B hml hv
  obtain ⟨rfl, hP, hK⟩ := hv
  have hx := B.exec
  have hb := B.bytes
  have hr := B.returns
  have hts := atoms_spec (ws := w_Mo_isGoodHeader) B.pre
  have hB : ∀ w ∈ gx_B, w.before _ s = true := fun w h => hts w (List.mem_cons_of_mem _ h)
  have hown : s.vm.findClass "TapeSealerModel" = some m.cls := findClass_of_methodNamed B.named
  have hlocks := B.notSynchronized
  have hl := lv_entry ([.ref h0, .int 0, .int 0]) (n := 6) (Nat.le_of_ble_eq_true rfl)
  rw [lg_entry_eq]
  generalize (lg_sl ([.ref h0, .int 0, .int 0]) ++ List.replicate (6 - (lg_sl ([.ref h0, .int 0, .int 0])).length) Slot.unset).toArray = ls at hl ⊢
  have hl : lv_has ls 6 [(0, .ref h0), (1, .int 0), (2, .int 0)] := hl
  refine lv_bipush (v := 64) hx hb d_Mo_isGoodHeader_0 (by decide) ?_
  refine lv_iload_n hx hb d_Mo_isGoodHeader_2 rfl (lv_at hl 2 rfl) ?_
  refine lv_imul hx hb d_Mo_isGoodHeader_3 ?_
  refine lv_topi (fun z1 z1_e => ?_)
  obtain rfl : z1 = 0 := z1_e.trans (by decide)
  refine lv_istore_n hx hb d_Mo_isGoodHeader_4 rfl hl (by decide) rfl (fun ls hl => ?_)
  have hl : lv_has ls 6 [(3, .int 0), (0, .ref h0), (1, .int 0), (2, .int 0)] := hl
  refine lv_aload_n hx hb d_Mo_isGoodHeader_5 rfl (lv_at hl 1 rfl) ?_
  refine va_get (D := (dC, dI)) (ci := 9) (v := .ref (q 1)) (C := RMo) (T := FMo) (N := 45) hx hb hB in_Mo hown hK hP 0 rfl rfl 1 (by decide) (hB _ hw_891) (fun _ h9 => h9) rfl d_Mo_isGoodHeader_6 ?_
  refine lv_iload_n hx hb d_Mo_isGoodHeader_9 rfl (lv_at hl 0 rfl) ?_
  refine lv_iconst (v := 1) hx hb d_Mo_isGoodHeader_10 (by decide) ?_
  refine lv_iadd hx hb d_Mo_isGoodHeader_11 ?_
  refine lv_topi (fun z2 z2_e => ?_)
  obtain rfl : z2 = 1 := z2_e.trans (by decide)
  refine va_iald (D := (dC, dI)) hx hb hK hP 1 0 rfl rfl (by unfold vp_in; decide) d_Mo_isGoodHeader_12 ?_
  refine W.eq (g2 := F0 m 13 ls [.int 0]) rfl ?_
  refine lv_istore hx hb d_Mo_isGoodHeader_13 hl (by decide) rfl (fun ls hl => ?_)
  have hl : lv_has ls 6 [(4, .int 0), (3, .int 0), (0, .ref h0), (1, .int 0), (2, .int 0)] := hl
  refine lv_aload_n hx hb d_Mo_isGoodHeader_15 rfl (lv_at hl 2 rfl) ?_
  refine va_get (D := (dC, dI)) (ci := 9) (v := .ref (q 2)) (C := RMo) (T := FMo) (N := 45) hx hb hB in_Mo hown hK hP 0 rfl rfl 2 (by decide) (hB _ hw_892) (fun _ h9 => h9) rfl d_Mo_isGoodHeader_16 ?_
  refine lv_iload_n hx hb d_Mo_isGoodHeader_19 rfl (lv_at hl 4 rfl) ?_
  refine va_zald (D := (dC, dI)) hx hb hK hP 2 1 rfl rfl (by unfold vp_in; decide) d_Mo_isGoodHeader_20 ?_
  refine W.eq (g2 := F0 m 21 ls [.int 0]) rfl ?_
  refine lv_if_ne (tgt := 61) hx hb d_Mo_isGoodHeader_21 (by decide) (fun h9 => absurd (by decide) h9) (fun _ => ?_)
  refine lv_aload_n hx hb d_Mo_isGoodHeader_24 rfl (lv_at hl 2 rfl) ?_
  refine va_get (D := (dC, dI)) (ci := 9) (v := .ref (q 1)) (C := RMo) (T := FMo) (N := 45) hx hb hB in_Mo hown hK hP 0 rfl rfl 1 (by decide) (hB _ hw_891) (fun _ h9 => h9) rfl d_Mo_isGoodHeader_25 ?_
  refine lv_iload_n hx hb d_Mo_isGoodHeader_28 rfl (lv_at hl 1 rfl) ?_
  refine va_iald (D := (dC, dI)) hx hb hK hP 1 0 rfl rfl (by unfold vp_in; decide) d_Mo_isGoodHeader_29 ?_
  refine W.eq (g2 := F0 m 30 ls [.int 0]) rfl ?_
  refine lv_iload_n hx hb d_Mo_isGoodHeader_30 rfl (lv_at hl 3 rfl) ?_
  refine lv_iconst (v := 1) hx hb d_Mo_isGoodHeader_31 (by decide) ?_
  refine lv_iadd hx hb d_Mo_isGoodHeader_32 ?_
  refine lv_topi (fun z3 z3_e => ?_)
  obtain rfl : z3 = 1 := z3_e.trans (by decide)
  refine lv_icmp_ne (tgt := 61) hx hb d_Mo_isGoodHeader_33 (by decide) (fun _ => ?_) (fun h9 => absurd h9 (by decide))
  refine lv_iconst (v := 0) hx hb d_Mo_isGoodHeader_61 (by decide) ?_
  exact W.zret (v := 0) hx hb hr rfl (fun t ht _ => ⟨rfl, ht⟩) (fun _ h => nomatch h) d_Mo_isGoodHeader_62
set_option maxHeartbeats 4000000 in
set_option maxRecDepth 100000 in
theorem p_Mo_good1 (l : Launch) (dC : Nat → ClassId) (dI : Nat → Nat → Nat) (h0 : Nat) (q : Nat → Nat) (ci : Nat → ClassId) : Met l y_Mo_isGoodHeader w_Mo_isGoodHeader ({ frames := 0, cells := 0, slots := 0, locals := 0 }) (va_Pc [.ref h0, .int 0, .int 1] (fun U => va_P (dC, dI) gx_cl (wMo h0 q ci) U.heap ∧ va_K (dC, dI) gx_cl (kMo ci) U)) (px_Q (some (.int 0))) 0 0 (fun _ => False) := by
  refine Met.ofW (cc := b_Mo_isGoodHeader) (maxL := 6) (ret := (some .boolean)) (by decide) rfl ?_
  intro p e s m args below meth c s₁ B hml hv
  obtain ⟨rfl, hP, hK⟩ := hv
  have hx := B.exec
  have hb := B.bytes
  have hr := B.returns
  have hts := atoms_spec (ws := w_Mo_isGoodHeader) B.pre
  have hB : ∀ w ∈ gx_B, w.before _ s = true := fun w h => hts w (List.mem_cons_of_mem _ h)
  have hown : s.vm.findClass "TapeSealerModel" = some m.cls := findClass_of_methodNamed B.named
  have hlocks := B.notSynchronized
  have hl := lv_entry ([.ref h0, .int 0, .int 1]) (n := 6) (Nat.le_of_ble_eq_true rfl)
  rw [lg_entry_eq]
  generalize (lg_sl ([.ref h0, .int 0, .int 1]) ++ List.replicate (6 - (lg_sl ([.ref h0, .int 0, .int 1])).length) Slot.unset).toArray = ls at hl ⊢
  have hl : lv_has ls 6 [(0, .ref h0), (1, .int 0), (2, .int 1)] := hl
  refine lv_bipush (v := 64) hx hb d_Mo_isGoodHeader_0 (by decide) ?_
  refine lv_iload_n hx hb d_Mo_isGoodHeader_2 rfl (lv_at hl 2 rfl) ?_
  refine lv_imul hx hb d_Mo_isGoodHeader_3 ?_
  refine lv_topi (fun z1 z1_e => ?_)
  obtain rfl : z1 = 64 := z1_e.trans (by decide)
  refine lv_istore_n hx hb d_Mo_isGoodHeader_4 rfl hl (by decide) rfl (fun ls hl => ?_)
  have hl : lv_has ls 6 [(3, .int 64), (0, .ref h0), (1, .int 0), (2, .int 1)] := hl
  refine lv_aload_n hx hb d_Mo_isGoodHeader_5 rfl (lv_at hl 1 rfl) ?_
  refine va_get (D := (dC, dI)) (ci := 9) (v := .ref (q 1)) (C := RMo) (T := FMo) (N := 45) hx hb hB in_Mo hown hK hP 0 rfl rfl 1 (by decide) (hB _ hw_891) (fun _ h9 => h9) rfl d_Mo_isGoodHeader_6 ?_
  refine lv_iload_n hx hb d_Mo_isGoodHeader_9 rfl (lv_at hl 0 rfl) ?_
  refine lv_iconst (v := 1) hx hb d_Mo_isGoodHeader_10 (by decide) ?_
  refine lv_iadd hx hb d_Mo_isGoodHeader_11 ?_
  refine lv_topi (fun z2 z2_e => ?_)
  obtain rfl : z2 = 65 := z2_e.trans (by decide)
  refine va_iald (D := (dC, dI)) hx hb hK hP 1 0 rfl rfl (by unfold vp_in; decide) d_Mo_isGoodHeader_12 ?_
  refine W.eq (g2 := F0 m 13 ls [.int 0]) rfl ?_
  refine lv_istore hx hb d_Mo_isGoodHeader_13 hl (by decide) rfl (fun ls hl => ?_)
  have hl : lv_has ls 6 [(4, .int 0), (3, .int 64), (0, .ref h0), (1, .int 0), (2, .int 1)] := hl
  refine lv_aload_n hx hb d_Mo_isGoodHeader_15 rfl (lv_at hl 2 rfl) ?_
  refine va_get (D := (dC, dI)) (ci := 9) (v := .ref (q 2)) (C := RMo) (T := FMo) (N := 45) hx hb hB in_Mo hown hK hP 0 rfl rfl 2 (by decide) (hB _ hw_892) (fun _ h9 => h9) rfl d_Mo_isGoodHeader_16 ?_
  refine lv_iload_n hx hb d_Mo_isGoodHeader_19 rfl (lv_at hl 4 rfl) ?_
  refine va_zald (D := (dC, dI)) hx hb hK hP 2 1 rfl rfl (by unfold vp_in; decide) d_Mo_isGoodHeader_20 ?_
  refine W.eq (g2 := F0 m 21 ls [.int 0]) rfl ?_
  refine lv_if_ne (tgt := 61) hx hb d_Mo_isGoodHeader_21 (by decide) (fun h9 => absurd (by decide) h9) (fun _ => ?_)
  refine lv_aload_n hx hb d_Mo_isGoodHeader_24 rfl (lv_at hl 2 rfl) ?_
  refine va_get (D := (dC, dI)) (ci := 9) (v := .ref (q 1)) (C := RMo) (T := FMo) (N := 45) hx hb hB in_Mo hown hK hP 0 rfl rfl 1 (by decide) (hB _ hw_891) (fun _ h9 => h9) rfl d_Mo_isGoodHeader_25 ?_
  refine lv_iload_n hx hb d_Mo_isGoodHeader_28 rfl (lv_at hl 1 rfl) ?_
  refine va_iald (D := (dC, dI)) hx hb hK hP 1 0 rfl rfl (by unfold vp_in; decide) d_Mo_isGoodHeader_29 ?_
  refine W.eq (g2 := F0 m 30 ls [.int 0]) rfl ?_
  refine lv_iload_n hx hb d_Mo_isGoodHeader_30 rfl (lv_at hl 3 rfl) ?_
  refine lv_iconst (v := 1) hx hb d_Mo_isGoodHeader_31 (by decide) ?_
  refine lv_iadd hx hb d_Mo_isGoodHeader_32 ?_
  refine lv_topi (fun z3 z3_e => ?_)
  obtain rfl : z3 = 1 := z3_e.trans (by decide)
  refine lv_icmp_ne (tgt := 61) hx hb d_Mo_isGoodHeader_33 (by decide) (fun _ => ?_) (fun h9 => absurd h9 (by decide))
  refine lv_iconst (v := 0) hx hb d_Mo_isGoodHeader_61 (by decide) ?_
  exact W.zret (v := 0) hx hb hr rfl (fun t ht _ => ⟨rfl, ht⟩) (fun _ h => nomatch h) d_Mo_isGoodHeader_62
set_option maxHeartbeats 4000000 in
set_option maxRecDepth 100000 in
theorem p_Mo_good2 (l : Launch) (dC : Nat → ClassId) (dI : Nat → Nat → Nat) (h0 : Nat) (q : Nat → Nat) (ci : Nat → ClassId) : Met l y_Mo_isGoodHeader w_Mo_isGoodHeader ({ frames := 0, cells := 0, slots := 0, locals := 0 }) (va_Pc [.ref h0, .int 1, .int 2] (fun U => va_P (dC, dI) gx_cl (wMo h0 q ci) U.heap ∧ va_K (dC, dI) gx_cl (kMo ci) U)) (px_Q (some (.int 0))) 0 0 (fun _ => False) := by
  refine Met.ofW (cc := b_Mo_isGoodHeader) (maxL := 6) (ret := (some .boolean)) (by decide) rfl ?_
  intro p e s m args below meth c s₁ B hml hv
  obtain ⟨rfl, hP, hK⟩ := hv
  have hx := B.exec
  have hb := B.bytes
  have hr := B.returns
  have hts := atoms_spec (ws := w_Mo_isGoodHeader) B.pre
  have hB : ∀ w ∈ gx_B, w.before _ s = true := fun w h => hts w (List.mem_cons_of_mem _ h)
  have hown : s.vm.findClass "TapeSealerModel" = some m.cls := findClass_of_methodNamed B.named
  have hlocks := B.notSynchronized
  have hl := lv_entry ([.ref h0, .int 1, .int 2]) (n := 6) (Nat.le_of_ble_eq_true rfl)
  rw [lg_entry_eq]
  generalize (lg_sl ([.ref h0, .int 1, .int 2]) ++ List.replicate (6 - (lg_sl ([.ref h0, .int 1, .int 2])).length) Slot.unset).toArray = ls at hl ⊢
  have hl : lv_has ls 6 [(0, .ref h0), (1, .int 1), (2, .int 2)] := hl
  refine lv_bipush (v := 64) hx hb d_Mo_isGoodHeader_0 (by decide) ?_
  refine lv_iload_n hx hb d_Mo_isGoodHeader_2 rfl (lv_at hl 2 rfl) ?_
  refine lv_imul hx hb d_Mo_isGoodHeader_3 ?_
  refine lv_topi (fun z1 z1_e => ?_)
  obtain rfl : z1 = 128 := z1_e.trans (by decide)
  refine lv_istore_n hx hb d_Mo_isGoodHeader_4 rfl hl (by decide) rfl (fun ls hl => ?_)
  have hl : lv_has ls 6 [(3, .int 128), (0, .ref h0), (1, .int 1), (2, .int 2)] := hl
  refine lv_aload_n hx hb d_Mo_isGoodHeader_5 rfl (lv_at hl 1 rfl) ?_
  refine va_get (D := (dC, dI)) (ci := 9) (v := .ref (q 1)) (C := RMo) (T := FMo) (N := 45) hx hb hB in_Mo hown hK hP 0 rfl rfl 1 (by decide) (hB _ hw_891) (fun _ h9 => h9) rfl d_Mo_isGoodHeader_6 ?_
  refine lv_iload_n hx hb d_Mo_isGoodHeader_9 rfl (lv_at hl 0 rfl) ?_
  refine lv_iconst (v := 1) hx hb d_Mo_isGoodHeader_10 (by decide) ?_
  refine lv_iadd hx hb d_Mo_isGoodHeader_11 ?_
  refine lv_topi (fun z2 z2_e => ?_)
  obtain rfl : z2 = 129 := z2_e.trans (by decide)
  refine va_iald (D := (dC, dI)) hx hb hK hP 1 0 rfl rfl (by unfold vp_in; decide) d_Mo_isGoodHeader_12 ?_
  refine W.eq (g2 := F0 m 13 ls [.int 0]) rfl ?_
  refine lv_istore hx hb d_Mo_isGoodHeader_13 hl (by decide) rfl (fun ls hl => ?_)
  have hl : lv_has ls 6 [(4, .int 0), (3, .int 128), (0, .ref h0), (1, .int 1), (2, .int 2)] := hl
  refine lv_aload_n hx hb d_Mo_isGoodHeader_15 rfl (lv_at hl 2 rfl) ?_
  refine va_get (D := (dC, dI)) (ci := 9) (v := .ref (q 2)) (C := RMo) (T := FMo) (N := 45) hx hb hB in_Mo hown hK hP 0 rfl rfl 2 (by decide) (hB _ hw_892) (fun _ h9 => h9) rfl d_Mo_isGoodHeader_16 ?_
  refine lv_iload_n hx hb d_Mo_isGoodHeader_19 rfl (lv_at hl 4 rfl) ?_
  refine va_zald (D := (dC, dI)) hx hb hK hP 2 1 rfl rfl (by unfold vp_in; decide) d_Mo_isGoodHeader_20 ?_
  refine W.eq (g2 := F0 m 21 ls [.int 0]) rfl ?_
  refine lv_if_ne (tgt := 61) hx hb d_Mo_isGoodHeader_21 (by decide) (fun h9 => absurd (by decide) h9) (fun _ => ?_)
  refine lv_aload_n hx hb d_Mo_isGoodHeader_24 rfl (lv_at hl 2 rfl) ?_
  refine va_get (D := (dC, dI)) (ci := 9) (v := .ref (q 1)) (C := RMo) (T := FMo) (N := 45) hx hb hB in_Mo hown hK hP 0 rfl rfl 1 (by decide) (hB _ hw_891) (fun _ h9 => h9) rfl d_Mo_isGoodHeader_25 ?_
  refine lv_iload_n hx hb d_Mo_isGoodHeader_28 rfl (lv_at hl 1 rfl) ?_
  refine va_iald (D := (dC, dI)) hx hb hK hP 1 0 rfl rfl (by unfold vp_in; decide) d_Mo_isGoodHeader_29 ?_
  refine W.eq (g2 := F0 m 30 ls [.int 0]) rfl ?_
  refine lv_iload_n hx hb d_Mo_isGoodHeader_30 rfl (lv_at hl 3 rfl) ?_
  refine lv_iconst (v := 1) hx hb d_Mo_isGoodHeader_31 (by decide) ?_
  refine lv_iadd hx hb d_Mo_isGoodHeader_32 ?_
  refine lv_topi (fun z3 z3_e => ?_)
  obtain rfl : z3 = 2 := z3_e.trans (by decide)
  refine lv_icmp_ne (tgt := 61) hx hb d_Mo_isGoodHeader_33 (by decide) (fun _ => ?_) (fun h9 => absurd h9 (by decide))
  refine lv_iconst (v := 0) hx hb d_Mo_isGoodHeader_61 (by decide) ?_
  exact W.zret (v := 0) hx hb hr rfl (fun t ht _ => ⟨rfl, ht⟩) (fun _ h => nomatch h) d_Mo_isGoodHeader_62
set_option maxHeartbeats 4000000 in
set_option maxRecDepth 100000 in
theorem p_Mo_good3 (l : Launch) (dC : Nat → ClassId) (dI : Nat → Nat → Nat) (h0 : Nat) (q : Nat → Nat) (ci : Nat → ClassId) : Met l y_Mo_isGoodHeader w_Mo_isGoodHeader ({ frames := 0, cells := 0, slots := 0, locals := 0 }) (va_Pc [.ref h0, .int 1, .int 3] (fun U => va_P (dC, dI) gx_cl (wMo h0 q ci) U.heap ∧ va_K (dC, dI) gx_cl (kMo ci) U)) (px_Q (some (.int 0))) 0 0 (fun _ => False) := by
  refine Met.ofW (cc := b_Mo_isGoodHeader) (maxL := 6) (ret := (some .boolean)) (by decide) rfl ?_
  intro p e s m args below meth c s₁ B hml hv
  obtain ⟨rfl, hP, hK⟩ := hv
  have hx := B.exec
  have hb := B.bytes
  have hr := B.returns
  have hts := atoms_spec (ws := w_Mo_isGoodHeader) B.pre
  have hB : ∀ w ∈ gx_B, w.before _ s = true := fun w h => hts w (List.mem_cons_of_mem _ h)
  have hown : s.vm.findClass "TapeSealerModel" = some m.cls := findClass_of_methodNamed B.named
  have hlocks := B.notSynchronized
  have hl := lv_entry ([.ref h0, .int 1, .int 3]) (n := 6) (Nat.le_of_ble_eq_true rfl)
  rw [lg_entry_eq]
  generalize (lg_sl ([.ref h0, .int 1, .int 3]) ++ List.replicate (6 - (lg_sl ([.ref h0, .int 1, .int 3])).length) Slot.unset).toArray = ls at hl ⊢
  have hl : lv_has ls 6 [(0, .ref h0), (1, .int 1), (2, .int 3)] := hl
  refine lv_bipush (v := 64) hx hb d_Mo_isGoodHeader_0 (by decide) ?_
  refine lv_iload_n hx hb d_Mo_isGoodHeader_2 rfl (lv_at hl 2 rfl) ?_
  refine lv_imul hx hb d_Mo_isGoodHeader_3 ?_
  refine lv_topi (fun z1 z1_e => ?_)
  obtain rfl : z1 = 192 := z1_e.trans (by decide)
  refine lv_istore_n hx hb d_Mo_isGoodHeader_4 rfl hl (by decide) rfl (fun ls hl => ?_)
  have hl : lv_has ls 6 [(3, .int 192), (0, .ref h0), (1, .int 1), (2, .int 3)] := hl
  refine lv_aload_n hx hb d_Mo_isGoodHeader_5 rfl (lv_at hl 1 rfl) ?_
  refine va_get (D := (dC, dI)) (ci := 9) (v := .ref (q 1)) (C := RMo) (T := FMo) (N := 45) hx hb hB in_Mo hown hK hP 0 rfl rfl 1 (by decide) (hB _ hw_891) (fun _ h9 => h9) rfl d_Mo_isGoodHeader_6 ?_
  refine lv_iload_n hx hb d_Mo_isGoodHeader_9 rfl (lv_at hl 0 rfl) ?_
  refine lv_iconst (v := 1) hx hb d_Mo_isGoodHeader_10 (by decide) ?_
  refine lv_iadd hx hb d_Mo_isGoodHeader_11 ?_
  refine lv_topi (fun z2 z2_e => ?_)
  obtain rfl : z2 = 193 := z2_e.trans (by decide)
  refine va_iald (D := (dC, dI)) hx hb hK hP 1 0 rfl rfl (by unfold vp_in; decide) d_Mo_isGoodHeader_12 ?_
  refine W.eq (g2 := F0 m 13 ls [.int 0]) rfl ?_
  refine lv_istore hx hb d_Mo_isGoodHeader_13 hl (by decide) rfl (fun ls hl => ?_)
  have hl : lv_has ls 6 [(4, .int 0), (3, .int 192), (0, .ref h0), (1, .int 1), (2, .int 3)] := hl
  refine lv_aload_n hx hb d_Mo_isGoodHeader_15 rfl (lv_at hl 2 rfl) ?_
  refine va_get (D := (dC, dI)) (ci := 9) (v := .ref (q 2)) (C := RMo) (T := FMo) (N := 45) hx hb hB in_Mo hown hK hP 0 rfl rfl 2 (by decide) (hB _ hw_892) (fun _ h9 => h9) rfl d_Mo_isGoodHeader_16 ?_
  refine lv_iload_n hx hb d_Mo_isGoodHeader_19 rfl (lv_at hl 4 rfl) ?_
  refine va_zald (D := (dC, dI)) hx hb hK hP 2 1 rfl rfl (by unfold vp_in; decide) d_Mo_isGoodHeader_20 ?_
  refine W.eq (g2 := F0 m 21 ls [.int 0]) rfl ?_
  refine lv_if_ne (tgt := 61) hx hb d_Mo_isGoodHeader_21 (by decide) (fun h9 => absurd (by decide) h9) (fun _ => ?_)
  refine lv_aload_n hx hb d_Mo_isGoodHeader_24 rfl (lv_at hl 2 rfl) ?_
  refine va_get (D := (dC, dI)) (ci := 9) (v := .ref (q 1)) (C := RMo) (T := FMo) (N := 45) hx hb hB in_Mo hown hK hP 0 rfl rfl 1 (by decide) (hB _ hw_891) (fun _ h9 => h9) rfl d_Mo_isGoodHeader_25 ?_
  refine lv_iload_n hx hb d_Mo_isGoodHeader_28 rfl (lv_at hl 1 rfl) ?_
  refine va_iald (D := (dC, dI)) hx hb hK hP 1 0 rfl rfl (by unfold vp_in; decide) d_Mo_isGoodHeader_29 ?_
  refine W.eq (g2 := F0 m 30 ls [.int 0]) rfl ?_
  refine lv_iload_n hx hb d_Mo_isGoodHeader_30 rfl (lv_at hl 3 rfl) ?_
  refine lv_iconst (v := 1) hx hb d_Mo_isGoodHeader_31 (by decide) ?_
  refine lv_iadd hx hb d_Mo_isGoodHeader_32 ?_
  refine lv_topi (fun z3 z3_e => ?_)
  obtain rfl : z3 = 2 := z3_e.trans (by decide)
  refine lv_icmp_ne (tgt := 61) hx hb d_Mo_isGoodHeader_33 (by decide) (fun _ => ?_) (fun h9 => absurd h9 (by decide))
  refine lv_iconst (v := 0) hx hb d_Mo_isGoodHeader_61 (by decide) ?_
  exact W.zret (v := 0) hx hb hr rfl (fun t ht _ => ⟨rfl, ht⟩) (fun _ h => nomatch h) d_Mo_isGoodHeader_62
set_option maxHeartbeats 4000000 in
set_option maxRecDepth 100000 in
theorem p_Mo_good4 (l : Launch) (dC : Nat → ClassId) (dI : Nat → Nat → Nat) (h0 : Nat) (q : Nat → Nat) (ci : Nat → ClassId) : Met l y_Mo_isGoodHeader w_Mo_isGoodHeader ({ frames := 0, cells := 0, slots := 0, locals := 0 }) (va_Pc [.ref h0, .int 2, .int 4] (fun U => va_P (dC, dI) gx_cl (wMo h0 q ci) U.heap ∧ va_K (dC, dI) gx_cl (kMo ci) U)) (px_Q (some (.int 0))) 0 0 (fun _ => False) := by
  refine Met.ofW (cc := b_Mo_isGoodHeader) (maxL := 6) (ret := (some .boolean)) (by decide) rfl ?_
  intro p e s m args below meth c s₁ B hml hv
  obtain ⟨rfl, hP, hK⟩ := hv
  have hx := B.exec
  have hb := B.bytes
  have hr := B.returns
  have hts := atoms_spec (ws := w_Mo_isGoodHeader) B.pre
  have hB : ∀ w ∈ gx_B, w.before _ s = true := fun w h => hts w (List.mem_cons_of_mem _ h)
  have hown : s.vm.findClass "TapeSealerModel" = some m.cls := findClass_of_methodNamed B.named
  have hlocks := B.notSynchronized
  have hl := lv_entry ([.ref h0, .int 2, .int 4]) (n := 6) (Nat.le_of_ble_eq_true rfl)
  rw [lg_entry_eq]
  generalize (lg_sl ([.ref h0, .int 2, .int 4]) ++ List.replicate (6 - (lg_sl ([.ref h0, .int 2, .int 4])).length) Slot.unset).toArray = ls at hl ⊢
  have hl : lv_has ls 6 [(0, .ref h0), (1, .int 2), (2, .int 4)] := hl
  refine lv_bipush (v := 64) hx hb d_Mo_isGoodHeader_0 (by decide) ?_
  refine lv_iload_n hx hb d_Mo_isGoodHeader_2 rfl (lv_at hl 2 rfl) ?_
  refine lv_imul hx hb d_Mo_isGoodHeader_3 ?_
  refine lv_topi (fun z1 z1_e => ?_)
  obtain rfl : z1 = 256 := z1_e.trans (by decide)
  refine lv_istore_n hx hb d_Mo_isGoodHeader_4 rfl hl (by decide) rfl (fun ls hl => ?_)
  have hl : lv_has ls 6 [(3, .int 256), (0, .ref h0), (1, .int 2), (2, .int 4)] := hl
  refine lv_aload_n hx hb d_Mo_isGoodHeader_5 rfl (lv_at hl 1 rfl) ?_
  refine va_get (D := (dC, dI)) (ci := 9) (v := .ref (q 1)) (C := RMo) (T := FMo) (N := 45) hx hb hB in_Mo hown hK hP 0 rfl rfl 1 (by decide) (hB _ hw_891) (fun _ h9 => h9) rfl d_Mo_isGoodHeader_6 ?_
  refine lv_iload_n hx hb d_Mo_isGoodHeader_9 rfl (lv_at hl 0 rfl) ?_
  refine lv_iconst (v := 1) hx hb d_Mo_isGoodHeader_10 (by decide) ?_
  refine lv_iadd hx hb d_Mo_isGoodHeader_11 ?_
  refine lv_topi (fun z2 z2_e => ?_)
  obtain rfl : z2 = 257 := z2_e.trans (by decide)
  refine va_iald (D := (dC, dI)) hx hb hK hP 1 0 rfl rfl (by unfold vp_in; decide) d_Mo_isGoodHeader_12 ?_
  refine W.eq (g2 := F0 m 13 ls [.int 0]) rfl ?_
  refine lv_istore hx hb d_Mo_isGoodHeader_13 hl (by decide) rfl (fun ls hl => ?_)
  have hl : lv_has ls 6 [(4, .int 0), (3, .int 256), (0, .ref h0), (1, .int 2), (2, .int 4)] := hl
  refine lv_aload_n hx hb d_Mo_isGoodHeader_15 rfl (lv_at hl 2 rfl) ?_
  refine va_get (D := (dC, dI)) (ci := 9) (v := .ref (q 2)) (C := RMo) (T := FMo) (N := 45) hx hb hB in_Mo hown hK hP 0 rfl rfl 2 (by decide) (hB _ hw_892) (fun _ h9 => h9) rfl d_Mo_isGoodHeader_16 ?_
  refine lv_iload_n hx hb d_Mo_isGoodHeader_19 rfl (lv_at hl 4 rfl) ?_
  refine va_zald (D := (dC, dI)) hx hb hK hP 2 1 rfl rfl (by unfold vp_in; decide) d_Mo_isGoodHeader_20 ?_
  refine W.eq (g2 := F0 m 21 ls [.int 0]) rfl ?_
  refine lv_if_ne (tgt := 61) hx hb d_Mo_isGoodHeader_21 (by decide) (fun h9 => absurd (by decide) h9) (fun _ => ?_)
  refine lv_aload_n hx hb d_Mo_isGoodHeader_24 rfl (lv_at hl 2 rfl) ?_
  refine va_get (D := (dC, dI)) (ci := 9) (v := .ref (q 1)) (C := RMo) (T := FMo) (N := 45) hx hb hB in_Mo hown hK hP 0 rfl rfl 1 (by decide) (hB _ hw_891) (fun _ h9 => h9) rfl d_Mo_isGoodHeader_25 ?_
  refine lv_iload_n hx hb d_Mo_isGoodHeader_28 rfl (lv_at hl 1 rfl) ?_
  refine va_iald (D := (dC, dI)) hx hb hK hP 1 0 rfl rfl (by unfold vp_in; decide) d_Mo_isGoodHeader_29 ?_
  refine W.eq (g2 := F0 m 30 ls [.int 0]) rfl ?_
  refine lv_iload_n hx hb d_Mo_isGoodHeader_30 rfl (lv_at hl 3 rfl) ?_
  refine lv_iconst (v := 1) hx hb d_Mo_isGoodHeader_31 (by decide) ?_
  refine lv_iadd hx hb d_Mo_isGoodHeader_32 ?_
  refine lv_topi (fun z3 z3_e => ?_)
  obtain rfl : z3 = 3 := z3_e.trans (by decide)
  refine lv_icmp_ne (tgt := 61) hx hb d_Mo_isGoodHeader_33 (by decide) (fun _ => ?_) (fun h9 => absurd h9 (by decide))
  refine lv_iconst (v := 0) hx hb d_Mo_isGoodHeader_61 (by decide) ?_
  exact W.zret (v := 0) hx hb hr rfl (fun t ht _ => ⟨rfl, ht⟩) (fun _ h => nomatch h) d_Mo_isGoodHeader_62
set_option maxHeartbeats 4000000 in
set_option maxRecDepth 100000 in
theorem p_Mo_good5 (l : Launch) (dC : Nat → ClassId) (dI : Nat → Nat → Nat) (h0 : Nat) (q : Nat → Nat) (ci : Nat → ClassId) : Met l y_Mo_isGoodHeader w_Mo_isGoodHeader ({ frames := 0, cells := 0, slots := 0, locals := 0 }) (va_Pc [.ref h0, .int 2, .int 5] (fun U => va_P (dC, dI) gx_cl (wMo h0 q ci) U.heap ∧ va_K (dC, dI) gx_cl (kMo ci) U)) (px_Q (some (.int 0))) 0 0 (fun _ => False) := by
  refine Met.ofW (cc := b_Mo_isGoodHeader) (maxL := 6) (ret := (some .boolean)) (by decide) rfl ?_
  intro p e s m args below meth c s₁ B hml hv
  obtain ⟨rfl, hP, hK⟩ := hv
  have hx := B.exec
  have hb := B.bytes
  have hr := B.returns
  have hts := atoms_spec (ws := w_Mo_isGoodHeader) B.pre
  have hB : ∀ w ∈ gx_B, w.before _ s = true := fun w h => hts w (List.mem_cons_of_mem _ h)
  have hown : s.vm.findClass "TapeSealerModel" = some m.cls := findClass_of_methodNamed B.named
  have hlocks := B.notSynchronized
  have hl := lv_entry ([.ref h0, .int 2, .int 5]) (n := 6) (Nat.le_of_ble_eq_true rfl)
  rw [lg_entry_eq]
  generalize (lg_sl ([.ref h0, .int 2, .int 5]) ++ List.replicate (6 - (lg_sl ([.ref h0, .int 2, .int 5])).length) Slot.unset).toArray = ls at hl ⊢
  have hl : lv_has ls 6 [(0, .ref h0), (1, .int 2), (2, .int 5)] := hl
  refine lv_bipush (v := 64) hx hb d_Mo_isGoodHeader_0 (by decide) ?_
  refine lv_iload_n hx hb d_Mo_isGoodHeader_2 rfl (lv_at hl 2 rfl) ?_
  refine lv_imul hx hb d_Mo_isGoodHeader_3 ?_
  refine lv_topi (fun z1 z1_e => ?_)
  obtain rfl : z1 = 320 := z1_e.trans (by decide)
  refine lv_istore_n hx hb d_Mo_isGoodHeader_4 rfl hl (by decide) rfl (fun ls hl => ?_)
  have hl : lv_has ls 6 [(3, .int 320), (0, .ref h0), (1, .int 2), (2, .int 5)] := hl
  refine lv_aload_n hx hb d_Mo_isGoodHeader_5 rfl (lv_at hl 1 rfl) ?_
  refine va_get (D := (dC, dI)) (ci := 9) (v := .ref (q 1)) (C := RMo) (T := FMo) (N := 45) hx hb hB in_Mo hown hK hP 0 rfl rfl 1 (by decide) (hB _ hw_891) (fun _ h9 => h9) rfl d_Mo_isGoodHeader_6 ?_
  refine lv_iload_n hx hb d_Mo_isGoodHeader_9 rfl (lv_at hl 0 rfl) ?_
  refine lv_iconst (v := 1) hx hb d_Mo_isGoodHeader_10 (by decide) ?_
  refine lv_iadd hx hb d_Mo_isGoodHeader_11 ?_
  refine lv_topi (fun z2 z2_e => ?_)
  obtain rfl : z2 = 321 := z2_e.trans (by decide)
  refine va_iald (D := (dC, dI)) hx hb hK hP 1 0 rfl rfl (by unfold vp_in; decide) d_Mo_isGoodHeader_12 ?_
  refine W.eq (g2 := F0 m 13 ls [.int 0]) rfl ?_
  refine lv_istore hx hb d_Mo_isGoodHeader_13 hl (by decide) rfl (fun ls hl => ?_)
  have hl : lv_has ls 6 [(4, .int 0), (3, .int 320), (0, .ref h0), (1, .int 2), (2, .int 5)] := hl
  refine lv_aload_n hx hb d_Mo_isGoodHeader_15 rfl (lv_at hl 2 rfl) ?_
  refine va_get (D := (dC, dI)) (ci := 9) (v := .ref (q 2)) (C := RMo) (T := FMo) (N := 45) hx hb hB in_Mo hown hK hP 0 rfl rfl 2 (by decide) (hB _ hw_892) (fun _ h9 => h9) rfl d_Mo_isGoodHeader_16 ?_
  refine lv_iload_n hx hb d_Mo_isGoodHeader_19 rfl (lv_at hl 4 rfl) ?_
  refine va_zald (D := (dC, dI)) hx hb hK hP 2 1 rfl rfl (by unfold vp_in; decide) d_Mo_isGoodHeader_20 ?_
  refine W.eq (g2 := F0 m 21 ls [.int 0]) rfl ?_
  refine lv_if_ne (tgt := 61) hx hb d_Mo_isGoodHeader_21 (by decide) (fun h9 => absurd (by decide) h9) (fun _ => ?_)
  refine lv_aload_n hx hb d_Mo_isGoodHeader_24 rfl (lv_at hl 2 rfl) ?_
  refine va_get (D := (dC, dI)) (ci := 9) (v := .ref (q 1)) (C := RMo) (T := FMo) (N := 45) hx hb hB in_Mo hown hK hP 0 rfl rfl 1 (by decide) (hB _ hw_891) (fun _ h9 => h9) rfl d_Mo_isGoodHeader_25 ?_
  refine lv_iload_n hx hb d_Mo_isGoodHeader_28 rfl (lv_at hl 1 rfl) ?_
  refine va_iald (D := (dC, dI)) hx hb hK hP 1 0 rfl rfl (by unfold vp_in; decide) d_Mo_isGoodHeader_29 ?_
  refine W.eq (g2 := F0 m 30 ls [.int 0]) rfl ?_
  refine lv_iload_n hx hb d_Mo_isGoodHeader_30 rfl (lv_at hl 3 rfl) ?_
  refine lv_iconst (v := 1) hx hb d_Mo_isGoodHeader_31 (by decide) ?_
  refine lv_iadd hx hb d_Mo_isGoodHeader_32 ?_
  refine lv_topi (fun z3 z3_e => ?_)
  obtain rfl : z3 = 3 := z3_e.trans (by decide)
  refine lv_icmp_ne (tgt := 61) hx hb d_Mo_isGoodHeader_33 (by decide) (fun _ => ?_) (fun h9 => absurd h9 (by decide))
  refine lv_iconst (v := 0) hx hb d_Mo_isGoodHeader_61 (by decide) ?_
  exact W.zret (v := 0) hx hb hr rfl (fun t ht _ => ⟨rfl, ht⟩) (fun _ h => nomatch h) d_Mo_isGoodHeader_62
set_option maxHeartbeats 4000000 in
set_option maxRecDepth 100000 in
theorem p_Mo_good6 (l : Launch) (dC : Nat → ClassId) (dI : Nat → Nat → Nat) (h0 : Nat) (q : Nat → Nat) (ci : Nat → ClassId) : Met l y_Mo_isGoodHeader w_Mo_isGoodHeader ({ frames := 0, cells := 0, slots := 0, locals := 0 }) (va_Pc [.ref h0, .int 3, .int 6] (fun U => va_P (dC, dI) gx_cl (wMo h0 q ci) U.heap ∧ va_K (dC, dI) gx_cl (kMo ci) U)) (px_Q (some (.int 0))) 0 0 (fun _ => False) := by
  refine Met.ofW (cc := b_Mo_isGoodHeader) (maxL := 6) (ret := (some .boolean)) (by decide) rfl ?_
  intro p e s m args below meth c s₁ B hml hv
  obtain ⟨rfl, hP, hK⟩ := hv
  have hx := B.exec
  have hb := B.bytes
  have hr := B.returns
  have hts := atoms_spec (ws := w_Mo_isGoodHeader) B.pre
  have hB : ∀ w ∈ gx_B, w.before _ s = true := fun w h => hts w (List.mem_cons_of_mem _ h)
  have hown : s.vm.findClass "TapeSealerModel" = some m.cls := findClass_of_methodNamed B.named
  have hlocks := B.notSynchronized
  have hl := lv_entry ([.ref h0, .int 3, .int 6]) (n := 6) (Nat.le_of_ble_eq_true rfl)
  rw [lg_entry_eq]
  generalize (lg_sl ([.ref h0, .int 3, .int 6]) ++ List.replicate (6 - (lg_sl ([.ref h0, .int 3, .int 6])).length) Slot.unset).toArray = ls at hl ⊢
  have hl : lv_has ls 6 [(0, .ref h0), (1, .int 3), (2, .int 6)] := hl
  refine lv_bipush (v := 64) hx hb d_Mo_isGoodHeader_0 (by decide) ?_
  refine lv_iload_n hx hb d_Mo_isGoodHeader_2 rfl (lv_at hl 2 rfl) ?_
  refine lv_imul hx hb d_Mo_isGoodHeader_3 ?_
  refine lv_topi (fun z1 z1_e => ?_)
  obtain rfl : z1 = 384 := z1_e.trans (by decide)
  refine lv_istore_n hx hb d_Mo_isGoodHeader_4 rfl hl (by decide) rfl (fun ls hl => ?_)
  have hl : lv_has ls 6 [(3, .int 384), (0, .ref h0), (1, .int 3), (2, .int 6)] := hl
  refine lv_aload_n hx hb d_Mo_isGoodHeader_5 rfl (lv_at hl 1 rfl) ?_
  refine va_get (D := (dC, dI)) (ci := 9) (v := .ref (q 1)) (C := RMo) (T := FMo) (N := 45) hx hb hB in_Mo hown hK hP 0 rfl rfl 1 (by decide) (hB _ hw_891) (fun _ h9 => h9) rfl d_Mo_isGoodHeader_6 ?_
  refine lv_iload_n hx hb d_Mo_isGoodHeader_9 rfl (lv_at hl 0 rfl) ?_
  refine lv_iconst (v := 1) hx hb d_Mo_isGoodHeader_10 (by decide) ?_
  refine lv_iadd hx hb d_Mo_isGoodHeader_11 ?_
  refine lv_topi (fun z2 z2_e => ?_)
  obtain rfl : z2 = 385 := z2_e.trans (by decide)
  refine va_iald (D := (dC, dI)) hx hb hK hP 1 0 rfl rfl (by unfold vp_in; decide) d_Mo_isGoodHeader_12 ?_
  refine W.eq (g2 := F0 m 13 ls [.int 0]) rfl ?_
  refine lv_istore hx hb d_Mo_isGoodHeader_13 hl (by decide) rfl (fun ls hl => ?_)
  have hl : lv_has ls 6 [(4, .int 0), (3, .int 384), (0, .ref h0), (1, .int 3), (2, .int 6)] := hl
  refine lv_aload_n hx hb d_Mo_isGoodHeader_15 rfl (lv_at hl 2 rfl) ?_
  refine va_get (D := (dC, dI)) (ci := 9) (v := .ref (q 2)) (C := RMo) (T := FMo) (N := 45) hx hb hB in_Mo hown hK hP 0 rfl rfl 2 (by decide) (hB _ hw_892) (fun _ h9 => h9) rfl d_Mo_isGoodHeader_16 ?_
  refine lv_iload_n hx hb d_Mo_isGoodHeader_19 rfl (lv_at hl 4 rfl) ?_
  refine va_zald (D := (dC, dI)) hx hb hK hP 2 1 rfl rfl (by unfold vp_in; decide) d_Mo_isGoodHeader_20 ?_
  refine W.eq (g2 := F0 m 21 ls [.int 0]) rfl ?_
  refine lv_if_ne (tgt := 61) hx hb d_Mo_isGoodHeader_21 (by decide) (fun h9 => absurd (by decide) h9) (fun _ => ?_)
  refine lv_aload_n hx hb d_Mo_isGoodHeader_24 rfl (lv_at hl 2 rfl) ?_
  refine va_get (D := (dC, dI)) (ci := 9) (v := .ref (q 1)) (C := RMo) (T := FMo) (N := 45) hx hb hB in_Mo hown hK hP 0 rfl rfl 1 (by decide) (hB _ hw_891) (fun _ h9 => h9) rfl d_Mo_isGoodHeader_25 ?_
  refine lv_iload_n hx hb d_Mo_isGoodHeader_28 rfl (lv_at hl 1 rfl) ?_
  refine va_iald (D := (dC, dI)) hx hb hK hP 1 0 rfl rfl (by unfold vp_in; decide) d_Mo_isGoodHeader_29 ?_
  refine W.eq (g2 := F0 m 30 ls [.int 0]) rfl ?_
  refine lv_iload_n hx hb d_Mo_isGoodHeader_30 rfl (lv_at hl 3 rfl) ?_
  refine lv_iconst (v := 1) hx hb d_Mo_isGoodHeader_31 (by decide) ?_
  refine lv_iadd hx hb d_Mo_isGoodHeader_32 ?_
  refine lv_topi (fun z3 z3_e => ?_)
  obtain rfl : z3 = 4 := z3_e.trans (by decide)
  refine lv_icmp_ne (tgt := 61) hx hb d_Mo_isGoodHeader_33 (by decide) (fun _ => ?_) (fun h9 => absurd h9 (by decide))
  refine lv_iconst (v := 0) hx hb d_Mo_isGoodHeader_61 (by decide) ?_
  exact W.zret (v := 0) hx hb hr rfl (fun t ht _ => ⟨rfl, ht⟩) (fun _ h => nomatch h) d_Mo_isGoodHeader_62
set_option maxHeartbeats 4000000 in
set_option maxRecDepth 100000 in
theorem p_Mo_good7 (l : Launch) (dC : Nat → ClassId) (dI : Nat → Nat → Nat) (h0 : Nat) (q : Nat → Nat) (ci : Nat → ClassId) : Met l y_Mo_isGoodHeader w_Mo_isGoodHeader ({ frames := 0, cells := 0, slots := 0, locals := 0 }) (va_Pc [.ref h0, .int 3, .int 7] (fun U => va_P (dC, dI) gx_cl (wMo h0 q ci) U.heap ∧ va_K (dC, dI) gx_cl (kMo ci) U)) (px_Q (some (.int 0))) 0 0 (fun _ => False) := by
  refine Met.ofW (cc := b_Mo_isGoodHeader) (maxL := 6) (ret := (some .boolean)) (by decide) rfl ?_
  intro p e s m args below meth c s₁ B hml hv
  obtain ⟨rfl, hP, hK⟩ := hv
  have hx := B.exec
  have hb := B.bytes
  have hr := B.returns
  have hts := atoms_spec (ws := w_Mo_isGoodHeader) B.pre
  have hB : ∀ w ∈ gx_B, w.before _ s = true := fun w h => hts w (List.mem_cons_of_mem _ h)
  have hown : s.vm.findClass "TapeSealerModel" = some m.cls := findClass_of_methodNamed B.named
  have hlocks := B.notSynchronized
  have hl := lv_entry ([.ref h0, .int 3, .int 7]) (n := 6) (Nat.le_of_ble_eq_true rfl)
  rw [lg_entry_eq]
  generalize (lg_sl ([.ref h0, .int 3, .int 7]) ++ List.replicate (6 - (lg_sl ([.ref h0, .int 3, .int 7])).length) Slot.unset).toArray = ls at hl ⊢
  have hl : lv_has ls 6 [(0, .ref h0), (1, .int 3), (2, .int 7)] := hl
  refine lv_bipush (v := 64) hx hb d_Mo_isGoodHeader_0 (by decide) ?_
  refine lv_iload_n hx hb d_Mo_isGoodHeader_2 rfl (lv_at hl 2 rfl) ?_
  refine lv_imul hx hb d_Mo_isGoodHeader_3 ?_
  refine lv_topi (fun z1 z1_e => ?_)
  obtain rfl : z1 = 448 := z1_e.trans (by decide)
  refine lv_istore_n hx hb d_Mo_isGoodHeader_4 rfl hl (by decide) rfl (fun ls hl => ?_)
  have hl : lv_has ls 6 [(3, .int 448), (0, .ref h0), (1, .int 3), (2, .int 7)] := hl
  refine lv_aload_n hx hb d_Mo_isGoodHeader_5 rfl (lv_at hl 1 rfl) ?_
  refine va_get (D := (dC, dI)) (ci := 9) (v := .ref (q 1)) (C := RMo) (T := FMo) (N := 45) hx hb hB in_Mo hown hK hP 0 rfl rfl 1 (by decide) (hB _ hw_891) (fun _ h9 => h9) rfl d_Mo_isGoodHeader_6 ?_
  refine lv_iload_n hx hb d_Mo_isGoodHeader_9 rfl (lv_at hl 0 rfl) ?_
  refine lv_iconst (v := 1) hx hb d_Mo_isGoodHeader_10 (by decide) ?_
  refine lv_iadd hx hb d_Mo_isGoodHeader_11 ?_
  refine lv_topi (fun z2 z2_e => ?_)
  obtain rfl : z2 = 449 := z2_e.trans (by decide)
  refine va_iald (D := (dC, dI)) hx hb hK hP 1 0 rfl rfl (by unfold vp_in; decide) d_Mo_isGoodHeader_12 ?_
  refine W.eq (g2 := F0 m 13 ls [.int 0]) rfl ?_
  refine lv_istore hx hb d_Mo_isGoodHeader_13 hl (by decide) rfl (fun ls hl => ?_)
  have hl : lv_has ls 6 [(4, .int 0), (3, .int 448), (0, .ref h0), (1, .int 3), (2, .int 7)] := hl
  refine lv_aload_n hx hb d_Mo_isGoodHeader_15 rfl (lv_at hl 2 rfl) ?_
  refine va_get (D := (dC, dI)) (ci := 9) (v := .ref (q 2)) (C := RMo) (T := FMo) (N := 45) hx hb hB in_Mo hown hK hP 0 rfl rfl 2 (by decide) (hB _ hw_892) (fun _ h9 => h9) rfl d_Mo_isGoodHeader_16 ?_
  refine lv_iload_n hx hb d_Mo_isGoodHeader_19 rfl (lv_at hl 4 rfl) ?_
  refine va_zald (D := (dC, dI)) hx hb hK hP 2 1 rfl rfl (by unfold vp_in; decide) d_Mo_isGoodHeader_20 ?_
  refine W.eq (g2 := F0 m 21 ls [.int 0]) rfl ?_
  refine lv_if_ne (tgt := 61) hx hb d_Mo_isGoodHeader_21 (by decide) (fun h9 => absurd (by decide) h9) (fun _ => ?_)
  refine lv_aload_n hx hb d_Mo_isGoodHeader_24 rfl (lv_at hl 2 rfl) ?_
  refine va_get (D := (dC, dI)) (ci := 9) (v := .ref (q 1)) (C := RMo) (T := FMo) (N := 45) hx hb hB in_Mo hown hK hP 0 rfl rfl 1 (by decide) (hB _ hw_891) (fun _ h9 => h9) rfl d_Mo_isGoodHeader_25 ?_
  refine lv_iload_n hx hb d_Mo_isGoodHeader_28 rfl (lv_at hl 1 rfl) ?_
  refine va_iald (D := (dC, dI)) hx hb hK hP 1 0 rfl rfl (by unfold vp_in; decide) d_Mo_isGoodHeader_29 ?_
  refine W.eq (g2 := F0 m 30 ls [.int 0]) rfl ?_
  refine lv_iload_n hx hb d_Mo_isGoodHeader_30 rfl (lv_at hl 3 rfl) ?_
  refine lv_iconst (v := 1) hx hb d_Mo_isGoodHeader_31 (by decide) ?_
  refine lv_iadd hx hb d_Mo_isGoodHeader_32 ?_
  refine lv_topi (fun z3 z3_e => ?_)
  obtain rfl : z3 = 4 := z3_e.trans (by decide)
  refine lv_icmp_ne (tgt := 61) hx hb d_Mo_isGoodHeader_33 (by decide) (fun _ => ?_) (fun h9 => absurd h9 (by decide))
  refine lv_iconst (v := 0) hx hb d_Mo_isGoodHeader_61 (by decide) ?_
  exact W.zret (v := 0) hx hb hr rfl (fun t ht _ => ⟨rfl, ht⟩) (fun _ h => nomatch h) d_Mo_isGoodHeader_62
set_option maxHeartbeats 4000000 in
set_option maxRecDepth 100000 in
theorem p_Mo_look (l : Launch) (dC : Nat → ClassId) (dI : Nat → Nat → Nat) (h0 : Nat) (q : Nat → Nat) (ci : Nat → ClassId) (f : Int32) : Met l y_Mo_look w_Mo_look ({ frames := 1, cells := 0, slots := 0, locals := 25 }) (va_Pc [.ref h0, .int f] (fun U => va_P (dC, dI) gx_cl (wMo h0 q ci) U.heap ∧ va_K (dC, dI) gx_cl (kMo ci) U)) (px_Q (some (.int 0))) 0 0 (fun _ => False) := by
  refine Met.ofW (cc := b_Mo_look) (maxL := 2) (ret := (some .boolean)) (by decide) rfl ?_
  intro p e s m args below meth c s₁ B hml hv
  obtain ⟨rfl, hP, hK⟩ := hv
  have hx := B.exec
  have hb := B.bytes
  have hr := B.returns
  have hts := atoms_spec (ws := w_Mo_look) B.pre
  have hB : ∀ w ∈ gx_B, w.before _ s = true := fun w h => hts w (List.mem_cons_of_mem _ h)
  have hown : s.vm.findClass "TapeSealerModel" = some m.cls := findClass_of_methodNamed B.named
  have hlocks := B.notSynchronized
  have hl := lv_entry ([.ref h0, .int f]) (n := 2) (Nat.le_of_ble_eq_true rfl)
  rw [lg_entry_eq]
  generalize (lg_sl ([.ref h0, .int f]) ++ List.replicate (2 - (lg_sl ([.ref h0, .int f])).length) Slot.unset).toArray = ls at hl ⊢
  have hl : lv_has ls 2 [(0, .ref h0), (1, .int f)] := hl
  rcases gx_4 f with hf | hf | rfl | rfl | rfl | rfl
  · refine lv_iload_n hx hb d_Mo_look_0 rfl (lv_at hl 1 rfl) ?_
    refine lv_if_lt (tgt := 37) hx hb d_Mo_look_1 (by decide) (fun _ => ?_) (fun h9 => absurd hf h9)
    refine lv_iconst (v := 0) hx hb d_Mo_look_37 (by decide) ?_
    exact W.zret (v := 0) hx hb hr rfl (fun t ht _ => ⟨rfl, ht⟩) (fun _ h => nomatch h) d_Mo_look_38
  · refine lv_iload_n hx hb d_Mo_look_0 rfl (lv_at hl 1 rfl) ?_
    refine lv_if_lt (tgt := 37) hx hb d_Mo_look_1 (by decide) (fun h9 => absurd h9 (gx_nlt hf)) (fun _ => ?_)
    refine lv_iload_n hx hb d_Mo_look_4 rfl (lv_at hl 1 rfl) ?_
    refine lv_iconst (v := 4) hx hb d_Mo_look_5 (by decide) ?_
    refine lv_icmp_ge (tgt := 37) hx hb d_Mo_look_6 (by decide) (fun _ => ?_) (fun h9 => absurd hf h9)
    refine lv_iconst (v := 0) hx hb d_Mo_look_37 (by decide) ?_
    exact W.zret (v := 0) hx hb hr rfl (fun t ht _ => ⟨rfl, ht⟩) (fun _ h => nomatch h) d_Mo_look_38
  · refine lv_iload_n hx hb d_Mo_look_0 rfl (lv_at hl 1 rfl) ?_
    refine lv_if_lt (tgt := 37) hx hb d_Mo_look_1 (by decide) (fun h9 => absurd h9 (by decide)) (fun _ => ?_)
    refine lv_iload_n hx hb d_Mo_look_4 rfl (lv_at hl 1 rfl) ?_
    refine lv_iconst (v := 4) hx hb d_Mo_look_5 (by decide) ?_
    refine lv_icmp_ge (tgt := 37) hx hb d_Mo_look_6 (by decide) (fun h9 => absurd h9 (by decide)) (fun _ => ?_)
    refine lv_aload_n hx hb d_Mo_look_9 rfl (lv_at hl 0 rfl) ?_
    refine lv_iload_n hx hb d_Mo_look_10 rfl (lv_at hl 1 rfl) ?_
    refine lv_iconst (v := 2) hx hb d_Mo_look_11 (by decide) ?_
    refine lv_iload_n hx hb d_Mo_look_12 rfl (lv_at hl 1 rfl) ?_
    refine lv_imul hx hb d_Mo_look_13 ?_
    refine lv_topi (fun z1 z1_e => ?_)
    obtain rfl : z1 = 0 := z1_e.trans (by decide)
    refine px_go (va_runV (C := "TapeSealerModel") (As := [.int 0, .int 0]) (rest := []) ⟨hx, hb, hml, hown, hts⟩ (p_Mo_good0 l dC dI h0 q ci) (cwV 2 hts (gx_goodV hw_1050 hw_1052 hw_33 hw_75 k_Mo_isGoodHeader) rfl rfl rfl (by decide +kernel) ⟨(Nat.le_of_ble_eq_true rfl), (Nat.le_of_ble_eq_true rfl)⟩) ⟨fun a U g mk q => by obtain ⟨q0, qP, qK⟩ := q; exact ⟨q0, qP, va_K.moved (u := U) (U := U.calling g mk a) (Vm.Alike.refl U.vm) qK⟩, va_recv hK hP rfl (q0 := 0) rfl, fun U hU hW => ⟨rfl, by rw [hU]; exact hP, va_K.moved hW.alike (hK)⟩⟩ rfl rfl hl.1 rfl (lv_room (Nat.le_of_ble_eq_true rfl)) d_Mo_look_14 ⟨(Nat.le_of_ble_eq_true rfl), (Nat.le_of_ble_eq_true rfl)⟩) ?_
    refine W.eq (g2 := F0 m 17 ls [.int 0]) rfl ?_
    refine lv_if_ne (tgt := 33) hx hb d_Mo_look_17 (by decide) (fun h9 => absurd (by decide) h9) (fun _ => ?_)
    refine lv_aload_n hx hb d_Mo_look_20 rfl (lv_at hl 0 rfl) ?_
    refine lv_iload_n hx hb d_Mo_look_21 rfl (lv_at hl 1 rfl) ?_
    refine lv_iconst (v := 2) hx hb d_Mo_look_22 (by decide) ?_
    refine lv_iload_n hx hb d_Mo_look_23 rfl (lv_at hl 1 rfl) ?_
    refine lv_imul hx hb d_Mo_look_24 ?_
    refine lv_topi (fun z2 z2_e => ?_)
    obtain rfl : z2 = 0 := z2_e.trans (by decide)
    refine lv_iconst (v := 1) hx hb d_Mo_look_25 (by decide) ?_
    refine lv_iadd hx hb d_Mo_look_26 ?_
    refine lv_topi (fun z3 z3_e => ?_)
    obtain rfl : z3 = 1 := z3_e.trans (by decide)
    refine px_go (va_runV (C := "TapeSealerModel") (As := [.int 0, .int 1]) (rest := []) ⟨hx, hb, hml, hown, hts⟩ (p_Mo_good1 l dC dI h0 q ci) (cwV 2 hts (gx_goodV hw_1050 hw_1052 hw_33 hw_75 k_Mo_isGoodHeader) rfl rfl rfl (by decide +kernel) ⟨(Nat.le_of_ble_eq_true rfl), (Nat.le_of_ble_eq_true rfl)⟩) ⟨fun a U g mk q => by obtain ⟨q0, qP, qK⟩ := q; exact ⟨q0, qP, va_K.moved (u := U) (U := U.calling g mk a) (Vm.Alike.refl U.vm) qK⟩, va_recv hK hP rfl (q0 := 0) rfl, fun U hU hW => ⟨rfl, by rw [hU]; exact hP, va_K.moved hW.alike (hK)⟩⟩ rfl rfl hl.1 rfl (lv_room (Nat.le_of_ble_eq_true rfl)) d_Mo_look_27 ⟨(Nat.le_of_ble_eq_true rfl), (Nat.le_of_ble_eq_true rfl)⟩) ?_
    refine W.eq (g2 := F0 m 30 ls [.int 0]) rfl ?_
    refine lv_if_eq (tgt := 37) hx hb d_Mo_look_30 (by decide) (fun _ => ?_) (fun h9 => absurd (by decide) h9)
    refine lv_iconst (v := 0) hx hb d_Mo_look_37 (by decide) ?_
    exact W.zret (v := 0) hx hb hr rfl (fun t ht _ => ⟨rfl, ht⟩) (fun _ h => nomatch h) d_Mo_look_38
  · refine lv_iload_n hx hb d_Mo_look_0 rfl (lv_at hl 1 rfl) ?_
    refine lv_if_lt (tgt := 37) hx hb d_Mo_look_1 (by decide) (fun h9 => absurd h9 (by decide)) (fun _ => ?_)
    refine lv_iload_n hx hb d_Mo_look_4 rfl (lv_at hl 1 rfl) ?_
    refine lv_iconst (v := 4) hx hb d_Mo_look_5 (by decide) ?_
    refine lv_icmp_ge (tgt := 37) hx hb d_Mo_look_6 (by decide) (fun h9 => absurd h9 (by decide)) (fun _ => ?_)
    refine lv_aload_n hx hb d_Mo_look_9 rfl (lv_at hl 0 rfl) ?_
    refine lv_iload_n hx hb d_Mo_look_10 rfl (lv_at hl 1 rfl) ?_
    refine lv_iconst (v := 2) hx hb d_Mo_look_11 (by decide) ?_
    refine lv_iload_n hx hb d_Mo_look_12 rfl (lv_at hl 1 rfl) ?_
    refine lv_imul hx hb d_Mo_look_13 ?_
    refine lv_topi (fun z1 z1_e => ?_)
    obtain rfl : z1 = 2 := z1_e.trans (by decide)
    refine px_go (va_runV (C := "TapeSealerModel") (As := [.int 1, .int 2]) (rest := []) ⟨hx, hb, hml, hown, hts⟩ (p_Mo_good2 l dC dI h0 q ci) (cwV 2 hts (gx_goodV hw_1050 hw_1052 hw_33 hw_75 k_Mo_isGoodHeader) rfl rfl rfl (by decide +kernel) ⟨(Nat.le_of_ble_eq_true rfl), (Nat.le_of_ble_eq_true rfl)⟩) ⟨fun a U g mk q => by obtain ⟨q0, qP, qK⟩ := q; exact ⟨q0, qP, va_K.moved (u := U) (U := U.calling g mk a) (Vm.Alike.refl U.vm) qK⟩, va_recv hK hP rfl (q0 := 0) rfl, fun U hU hW => ⟨rfl, by rw [hU]; exact hP, va_K.moved hW.alike (hK)⟩⟩ rfl rfl hl.1 rfl (lv_room (Nat.le_of_ble_eq_true rfl)) d_Mo_look_14 ⟨(Nat.le_of_ble_eq_true rfl), (Nat.le_of_ble_eq_true rfl)⟩) ?_
    refine W.eq (g2 := F0 m 17 ls [.int 0]) rfl ?_
    refine lv_if_ne (tgt := 33) hx hb d_Mo_look_17 (by decide) (fun h9 => absurd (by decide) h9) (fun _ => ?_)
    refine lv_aload_n hx hb d_Mo_look_20 rfl (lv_at hl 0 rfl) ?_
    refine lv_iload_n hx hb d_Mo_look_21 rfl (lv_at hl 1 rfl) ?_
    refine lv_iconst (v := 2) hx hb d_Mo_look_22 (by decide) ?_
    refine lv_iload_n hx hb d_Mo_look_23 rfl (lv_at hl 1 rfl) ?_
    refine lv_imul hx hb d_Mo_look_24 ?_
    refine lv_topi (fun z2 z2_e => ?_)
    obtain rfl : z2 = 2 := z2_e.trans (by decide)
    refine lv_iconst (v := 1) hx hb d_Mo_look_25 (by decide) ?_
    refine lv_iadd hx hb d_Mo_look_26 ?_
    refine lv_topi (fun z3 z3_e => ?_)
    obtain rfl : z3 = 3 := z3_e.trans (by decide)
    refine px_go (va_runV (C := "TapeSealerModel") (As := [.int 1, .int 3]) (rest := []) ⟨hx, hb, hml, hown, hts⟩ (p_Mo_good3 l dC dI h0 q ci) (cwV 2 hts (gx_goodV hw_1050 hw_1052 hw_33 hw_75 k_Mo_isGoodHeader) rfl rfl rfl (by decide +kernel) ⟨(Nat.le_of_ble_eq_true rfl), (Nat.le_of_ble_eq_true rfl)⟩) ⟨fun a U g mk q => by obtain ⟨q0, qP, qK⟩ := q; exact ⟨q0, qP, va_K.moved (u := U) (U := U.calling g mk a) (Vm.Alike.refl U.vm) qK⟩, va_recv hK hP rfl (q0 := 0) rfl, fun U hU hW => ⟨rfl, by rw [hU]; exact hP, va_K.moved hW.alike (hK)⟩⟩ rfl rfl hl.1 rfl (lv_room (Nat.le_of_ble_eq_true rfl)) d_Mo_look_27 ⟨(Nat.le_of_ble_eq_true rfl), (Nat.le_of_ble_eq_true rfl)⟩) ?_
    refine W.eq (g2 := F0 m 30 ls [.int 0]) rfl ?_
    refine lv_if_eq (tgt := 37) hx hb d_Mo_look_30 (by decide) (fun _ => ?_) (fun h9 => absurd (by decide) h9)
    refine lv_iconst (v := 0) hx hb d_Mo_look_37 (by decide) ?_
    exact W.zret (v := 0) hx hb hr rfl (fun t ht _ => ⟨rfl, ht⟩) (fun _ h => nomatch h) d_Mo_look_38
  · refine lv_iload_n hx hb d_Mo_look_0 rfl (lv_at hl 1 rfl) ?_
    refine lv_if_lt (tgt := 37) hx hb d_Mo_look_1 (by decide) (fun h9 => absurd h9 (by decide)) (fun _ => ?_)
    refine lv_iload_n hx hb d_Mo_look_4 rfl (lv_at hl 1 rfl) ?_
    refine lv_iconst (v := 4) hx hb d_Mo_look_5 (by decide) ?_
    refine lv_icmp_ge (tgt := 37) hx hb d_Mo_look_6 (by decide) (fun h9 => absurd h9 (by decide)) (fun _ => ?_)
    refine lv_aload_n hx hb d_Mo_look_9 rfl (lv_at hl 0 rfl) ?_
    refine lv_iload_n hx hb d_Mo_look_10 rfl (lv_at hl 1 rfl) ?_
    refine lv_iconst (v := 2) hx hb d_Mo_look_11 (by decide) ?_
    refine lv_iload_n hx hb d_Mo_look_12 rfl (lv_at hl 1 rfl) ?_
    refine lv_imul hx hb d_Mo_look_13 ?_
    refine lv_topi (fun z1 z1_e => ?_)
    obtain rfl : z1 = 4 := z1_e.trans (by decide)
    refine px_go (va_runV (C := "TapeSealerModel") (As := [.int 2, .int 4]) (rest := []) ⟨hx, hb, hml, hown, hts⟩ (p_Mo_good4 l dC dI h0 q ci) (cwV 2 hts (gx_goodV hw_1050 hw_1052 hw_33 hw_75 k_Mo_isGoodHeader) rfl rfl rfl (by decide +kernel) ⟨(Nat.le_of_ble_eq_true rfl), (Nat.le_of_ble_eq_true rfl)⟩) ⟨fun a U g mk q => by obtain ⟨q0, qP, qK⟩ := q; exact ⟨q0, qP, va_K.moved (u := U) (U := U.calling g mk a) (Vm.Alike.refl U.vm) qK⟩, va_recv hK hP rfl (q0 := 0) rfl, fun U hU hW => ⟨rfl, by rw [hU]; exact hP, va_K.moved hW.alike (hK)⟩⟩ rfl rfl hl.1 rfl (lv_room (Nat.le_of_ble_eq_true rfl)) d_Mo_look_14 ⟨(Nat.le_of_ble_eq_true rfl), (Nat.le_of_ble_eq_true rfl)⟩) ?_
    refine W.eq (g2 := F0 m 17 ls [.int 0]) rfl ?_
    refine lv_if_ne (tgt := 33) hx hb d_Mo_look_17 (by decide) (fun h9 => absurd (by decide) h9) (fun _ => ?_)
    refine lv_aload_n hx hb d_Mo_look_20 rfl (lv_at hl 0 rfl) ?_
    refine lv_iload_n hx hb d_Mo_look_21 rfl (lv_at hl 1 rfl) ?_
    refine lv_iconst (v := 2) hx hb d_Mo_look_22 (by decide) ?_
    refine lv_iload_n hx hb d_Mo_look_23 rfl (lv_at hl 1 rfl) ?_
    refine lv_imul hx hb d_Mo_look_24 ?_
    refine lv_topi (fun z2 z2_e => ?_)
    obtain rfl : z2 = 4 := z2_e.trans (by decide)
    refine lv_iconst (v := 1) hx hb d_Mo_look_25 (by decide) ?_
    refine lv_iadd hx hb d_Mo_look_26 ?_
    refine lv_topi (fun z3 z3_e => ?_)
    obtain rfl : z3 = 5 := z3_e.trans (by decide)
    refine px_go (va_runV (C := "TapeSealerModel") (As := [.int 2, .int 5]) (rest := []) ⟨hx, hb, hml, hown, hts⟩ (p_Mo_good5 l dC dI h0 q ci) (cwV 2 hts (gx_goodV hw_1050 hw_1052 hw_33 hw_75 k_Mo_isGoodHeader) rfl rfl rfl (by decide +kernel) ⟨(Nat.le_of_ble_eq_true rfl), (Nat.le_of_ble_eq_true rfl)⟩) ⟨fun a U g mk q => by obtain ⟨q0, qP, qK⟩ := q; exact ⟨q0, qP, va_K.moved (u := U) (U := U.calling g mk a) (Vm.Alike.refl U.vm) qK⟩, va_recv hK hP rfl (q0 := 0) rfl, fun U hU hW => ⟨rfl, by rw [hU]; exact hP, va_K.moved hW.alike (hK)⟩⟩ rfl rfl hl.1 rfl (lv_room (Nat.le_of_ble_eq_true rfl)) d_Mo_look_27 ⟨(Nat.le_of_ble_eq_true rfl), (Nat.le_of_ble_eq_true rfl)⟩) ?_
    refine W.eq (g2 := F0 m 30 ls [.int 0]) rfl ?_
    refine lv_if_eq (tgt := 37) hx hb d_Mo_look_30 (by decide) (fun _ => ?_) (fun h9 => absurd (by decide) h9)
    refine lv_iconst (v := 0) hx hb d_Mo_look_37 (by decide) ?_
    exact W.zret (v := 0) hx hb hr rfl (fun t ht _ => ⟨rfl, ht⟩) (fun _ h => nomatch h) d_Mo_look_38
  · refine lv_iload_n hx hb d_Mo_look_0 rfl (lv_at hl 1 rfl) ?_
    refine lv_if_lt (tgt := 37) hx hb d_Mo_look_1 (by decide) (fun h9 => absurd h9 (by decide)) (fun _ => ?_)
    refine lv_iload_n hx hb d_Mo_look_4 rfl (lv_at hl 1 rfl) ?_
    refine lv_iconst (v := 4) hx hb d_Mo_look_5 (by decide) ?_
    refine lv_icmp_ge (tgt := 37) hx hb d_Mo_look_6 (by decide) (fun h9 => absurd h9 (by decide)) (fun _ => ?_)
    refine lv_aload_n hx hb d_Mo_look_9 rfl (lv_at hl 0 rfl) ?_
    refine lv_iload_n hx hb d_Mo_look_10 rfl (lv_at hl 1 rfl) ?_
    refine lv_iconst (v := 2) hx hb d_Mo_look_11 (by decide) ?_
    refine lv_iload_n hx hb d_Mo_look_12 rfl (lv_at hl 1 rfl) ?_
    refine lv_imul hx hb d_Mo_look_13 ?_
    refine lv_topi (fun z1 z1_e => ?_)
    obtain rfl : z1 = 6 := z1_e.trans (by decide)
    refine px_go (va_runV (C := "TapeSealerModel") (As := [.int 3, .int 6]) (rest := []) ⟨hx, hb, hml, hown, hts⟩ (p_Mo_good6 l dC dI h0 q ci) (cwV 2 hts (gx_goodV hw_1050 hw_1052 hw_33 hw_75 k_Mo_isGoodHeader) rfl rfl rfl (by decide +kernel) ⟨(Nat.le_of_ble_eq_true rfl), (Nat.le_of_ble_eq_true rfl)⟩) ⟨fun a U g mk q => by obtain ⟨q0, qP, qK⟩ := q; exact ⟨q0, qP, va_K.moved (u := U) (U := U.calling g mk a) (Vm.Alike.refl U.vm) qK⟩, va_recv hK hP rfl (q0 := 0) rfl, fun U hU hW => ⟨rfl, by rw [hU]; exact hP, va_K.moved hW.alike (hK)⟩⟩ rfl rfl hl.1 rfl (lv_room (Nat.le_of_ble_eq_true rfl)) d_Mo_look_14 ⟨(Nat.le_of_ble_eq_true rfl), (Nat.le_of_ble_eq_true rfl)⟩) ?_
    refine W.eq (g2 := F0 m 17 ls [.int 0]) rfl ?_
    refine lv_if_ne (tgt := 33) hx hb d_Mo_look_17 (by decide) (fun h9 => absurd (by decide) h9) (fun _ => ?_)
    refine lv_aload_n hx hb d_Mo_look_20 rfl (lv_at hl 0 rfl) ?_
    refine lv_iload_n hx hb d_Mo_look_21 rfl (lv_at hl 1 rfl) ?_
    refine lv_iconst (v := 2) hx hb d_Mo_look_22 (by decide) ?_
    refine lv_iload_n hx hb d_Mo_look_23 rfl (lv_at hl 1 rfl) ?_
    refine lv_imul hx hb d_Mo_look_24 ?_
    refine lv_topi (fun z2 z2_e => ?_)
    obtain rfl : z2 = 6 := z2_e.trans (by decide)
    refine lv_iconst (v := 1) hx hb d_Mo_look_25 (by decide) ?_
    refine lv_iadd hx hb d_Mo_look_26 ?_
    refine lv_topi (fun z3 z3_e => ?_)
    obtain rfl : z3 = 7 := z3_e.trans (by decide)
    refine px_go (va_runV (C := "TapeSealerModel") (As := [.int 3, .int 7]) (rest := []) ⟨hx, hb, hml, hown, hts⟩ (p_Mo_good7 l dC dI h0 q ci) (cwV 2 hts (gx_goodV hw_1050 hw_1052 hw_33 hw_75 k_Mo_isGoodHeader) rfl rfl rfl (by decide +kernel) ⟨(Nat.le_of_ble_eq_true rfl), (Nat.le_of_ble_eq_true rfl)⟩) ⟨fun a U g mk q => by obtain ⟨q0, qP, qK⟩ := q; exact ⟨q0, qP, va_K.moved (u := U) (U := U.calling g mk a) (Vm.Alike.refl U.vm) qK⟩, va_recv hK hP rfl (q0 := 0) rfl, fun U hU hW => ⟨rfl, by rw [hU]; exact hP, va_K.moved hW.alike (hK)⟩⟩ rfl rfl hl.1 rfl (lv_room (Nat.le_of_ble_eq_true rfl)) d_Mo_look_27 ⟨(Nat.le_of_ble_eq_true rfl), (Nat.le_of_ble_eq_true rfl)⟩) ?_
    refine W.eq (g2 := F0 m 30 ls [.int 0]) rfl ?_
    refine lv_if_eq (tgt := 37) hx hb d_Mo_look_30 (by decide) (fun _ => ?_) (fun h9 => absurd (by decide) h9)
    refine lv_iconst (v := 0) hx hb d_Mo_look_37 (by decide) ?_
    exact W.zret (v := 0) hx hb hr rfl (fun t ht _ => ⟨rfl, ht⟩) (fun _ h => nomatch h) d_Mo_look_38
set_option maxHeartbeats 4000000 in
set_option maxRecDepth 100000 in
theorem p_Mo_files (l : Launch) (dC : Nat → ClassId) (dI : Nat → Nat → Nat) (h0 : Nat) (q : Nat → Nat) (ci : Nat → ClassId) : Met l y_Mo_files w_Mo_files ({ frames := 2, cells := 0, slots := 0, locals := 46 }) (va_Pc [.ref h0] (fun U => va_P (dC, dI) gx_cl (wMo h0 q ci) U.heap ∧ va_K (dC, dI) gx_cl (kMo ci) U)) (px_Q (some (.int 0))) 0 0 (fun _ => False) := by
  refine Met.ofW (cc := b_Mo_files) (maxL := 3) (ret := (some .int)) (by decide) rfl ?_
  intro p e s m args below meth c s₁ B hml hv
  obtain ⟨rfl, hP, hK⟩ := hv
  have hx := B.exec
  have hb := B.bytes
  have hr := B.returns
  have hts := atoms_spec (ws := w_Mo_files) B.pre
  have hB : ∀ w ∈ gx_B, w.before _ s = true := fun w h => hts w (List.mem_cons_of_mem _ h)
  have hown : s.vm.findClass "TapeSealerModel" = some m.cls := findClass_of_methodNamed B.named
  have hlocks := B.notSynchronized
  have hl := lv_entry ([.ref h0]) (n := 3) (Nat.le_of_ble_eq_true rfl)
  rw [lg_entry_eq]
  generalize (lg_sl ([.ref h0]) ++ List.replicate (3 - (lg_sl ([.ref h0])).length) Slot.unset).toArray = ls at hl ⊢
  have hl : lv_has ls 3 [(0, .ref h0)] := hl
  refine lv_iconst (v := 0) hx hb d_Mo_files_0 (by decide) ?_
  refine lv_istore_n hx hb d_Mo_files_1 rfl hl (by decide) rfl (fun ls hl => ?_)
  have hl : lv_has ls 3 [(1, .int 0), (0, .ref h0)] := hl
  refine lv_iconst (v := 0) hx hb d_Mo_files_2 (by decide) ?_
  refine lv_istore_n hx hb d_Mo_files_3 rfl hl (by decide) rfl (fun ls hl => ?_)
  have hl : lv_has ls 3 [(2, .int 0), (1, .int 0), (0, .ref h0)] := hl
  refine lv_iload_n hx hb d_Mo_files_4 rfl (lv_at hl 0 rfl) ?_
  refine lv_iconst (v := 4) hx hb d_Mo_files_5 (by decide) ?_
  refine lv_icmp_ge (tgt := 31) hx hb d_Mo_files_6 (by decide) (fun h9 => absurd h9 (by decide)) (fun _ => ?_)
  refine lv_iload_n hx hb d_Mo_files_9 rfl (lv_at hl 1 rfl) ?_
  refine lv_aload_n hx hb d_Mo_files_10 rfl (lv_at hl 2 rfl) ?_
  refine lv_iload_n hx hb d_Mo_files_11 rfl (lv_at hl 0 rfl) ?_
  refine px_go (va_runV (C := "TapeSealerModel") (As := [.int 0]) (rest := [.int 0]) ⟨hx, hb, hml, hown, hts⟩ (p_Mo_look l dC dI h0 q ci 0) (cwV 1 hts (gx_goodV hw_1046 hw_1048 hw_32 hw_75 k_Mo_look) rfl rfl rfl (by decide +kernel) ⟨(Nat.le_of_ble_eq_true rfl), (Nat.le_of_ble_eq_true rfl)⟩) ⟨fun a U g mk q => by obtain ⟨q0, qP, qK⟩ := q; exact ⟨q0, qP, va_K.moved (u := U) (U := U.calling g mk a) (Vm.Alike.refl U.vm) qK⟩, va_recv hK hP rfl (q0 := 0) rfl, fun U hU hW => ⟨rfl, by rw [hU]; exact hP, va_K.moved hW.alike (hK)⟩⟩ rfl rfl hl.1 rfl (lv_room (Nat.le_of_ble_eq_true rfl)) d_Mo_files_12 ⟨(Nat.le_of_ble_eq_true rfl), (Nat.le_of_ble_eq_true rfl)⟩) ?_
  refine W.eq (g2 := F0 m 15 ls [.int 0, .int 0]) rfl ?_
  refine lv_if_eq (tgt := 22) hx hb d_Mo_files_15 (by decide) (fun _ => ?_) (fun h9 => absurd (by decide) h9)
  refine lv_iconst (v := 0) hx hb d_Mo_files_22 (by decide) ?_
  refine lv_iadd hx hb d_Mo_files_23 ?_
  refine lv_topi (fun z1 z1_e => ?_)
  obtain rfl : z1 = 0 := z1_e.trans (by decide)
  refine lv_istore_n hx hb d_Mo_files_24 rfl hl (by decide) rfl (fun ls hl => ?_)
  have hl : lv_has ls 3 [(1, .int 0), (2, .int 0), (0, .ref h0)] := hl
  refine lv_iinc (k := 1) (v := 1) hx hb d_Mo_files_25 hl rfl (by decide) (by decide) rfl (fun ls hl => ?_)
  have hl : lv_has ls 3 [(2, .int 1), (1, .int 0), (0, .ref h0)] := hl
  refine lv_goto (tgt := 4) hx hb d_Mo_files_28 (by decide) ?_
  refine lv_iload_n hx hb d_Mo_files_4 rfl (lv_at hl 0 rfl) ?_
  refine lv_iconst (v := 4) hx hb d_Mo_files_5 (by decide) ?_
  refine lv_icmp_ge (tgt := 31) hx hb d_Mo_files_6 (by decide) (fun h9 => absurd h9 (by decide)) (fun _ => ?_)
  refine lv_iload_n hx hb d_Mo_files_9 rfl (lv_at hl 1 rfl) ?_
  refine lv_aload_n hx hb d_Mo_files_10 rfl (lv_at hl 2 rfl) ?_
  refine lv_iload_n hx hb d_Mo_files_11 rfl (lv_at hl 0 rfl) ?_
  refine px_go (va_runV (C := "TapeSealerModel") (As := [.int 1]) (rest := [.int 0]) ⟨hx, hb, hml, hown, hts⟩ (p_Mo_look l dC dI h0 q ci 1) (cwV 1 hts (gx_goodV hw_1046 hw_1048 hw_32 hw_75 k_Mo_look) rfl rfl rfl (by decide +kernel) ⟨(Nat.le_of_ble_eq_true rfl), (Nat.le_of_ble_eq_true rfl)⟩) ⟨fun a U g mk q => by obtain ⟨q0, qP, qK⟩ := q; exact ⟨q0, qP, va_K.moved (u := U) (U := U.calling g mk a) (Vm.Alike.refl U.vm) qK⟩, va_recv hK hP rfl (q0 := 0) rfl, fun U hU hW => ⟨rfl, by rw [hU]; exact hP, va_K.moved hW.alike (hK)⟩⟩ rfl rfl hl.1 rfl (lv_room (Nat.le_of_ble_eq_true rfl)) d_Mo_files_12 ⟨(Nat.le_of_ble_eq_true rfl), (Nat.le_of_ble_eq_true rfl)⟩) ?_
  refine W.eq (g2 := F0 m 15 ls [.int 0, .int 0]) rfl ?_
  refine lv_if_eq (tgt := 22) hx hb d_Mo_files_15 (by decide) (fun _ => ?_) (fun h9 => absurd (by decide) h9)
  refine lv_iconst (v := 0) hx hb d_Mo_files_22 (by decide) ?_
  refine lv_iadd hx hb d_Mo_files_23 ?_
  refine lv_topi (fun z2 z2_e => ?_)
  obtain rfl : z2 = 0 := z2_e.trans (by decide)
  refine lv_istore_n hx hb d_Mo_files_24 rfl hl (by decide) rfl (fun ls hl => ?_)
  have hl : lv_has ls 3 [(1, .int 0), (2, .int 1), (0, .ref h0)] := hl
  refine lv_iinc (k := 1) (v := 2) hx hb d_Mo_files_25 hl rfl (by decide) (by decide) rfl (fun ls hl => ?_)
  have hl : lv_has ls 3 [(2, .int 2), (1, .int 0), (0, .ref h0)] := hl
  refine lv_goto (tgt := 4) hx hb d_Mo_files_28 (by decide) ?_
  refine lv_iload_n hx hb d_Mo_files_4 rfl (lv_at hl 0 rfl) ?_
  refine lv_iconst (v := 4) hx hb d_Mo_files_5 (by decide) ?_
  refine lv_icmp_ge (tgt := 31) hx hb d_Mo_files_6 (by decide) (fun h9 => absurd h9 (by decide)) (fun _ => ?_)
  refine lv_iload_n hx hb d_Mo_files_9 rfl (lv_at hl 1 rfl) ?_
  refine lv_aload_n hx hb d_Mo_files_10 rfl (lv_at hl 2 rfl) ?_
  refine lv_iload_n hx hb d_Mo_files_11 rfl (lv_at hl 0 rfl) ?_
  refine px_go (va_runV (C := "TapeSealerModel") (As := [.int 2]) (rest := [.int 0]) ⟨hx, hb, hml, hown, hts⟩ (p_Mo_look l dC dI h0 q ci 2) (cwV 1 hts (gx_goodV hw_1046 hw_1048 hw_32 hw_75 k_Mo_look) rfl rfl rfl (by decide +kernel) ⟨(Nat.le_of_ble_eq_true rfl), (Nat.le_of_ble_eq_true rfl)⟩) ⟨fun a U g mk q => by obtain ⟨q0, qP, qK⟩ := q; exact ⟨q0, qP, va_K.moved (u := U) (U := U.calling g mk a) (Vm.Alike.refl U.vm) qK⟩, va_recv hK hP rfl (q0 := 0) rfl, fun U hU hW => ⟨rfl, by rw [hU]; exact hP, va_K.moved hW.alike (hK)⟩⟩ rfl rfl hl.1 rfl (lv_room (Nat.le_of_ble_eq_true rfl)) d_Mo_files_12 ⟨(Nat.le_of_ble_eq_true rfl), (Nat.le_of_ble_eq_true rfl)⟩) ?_
  refine W.eq (g2 := F0 m 15 ls [.int 0, .int 0]) rfl ?_
  refine lv_if_eq (tgt := 22) hx hb d_Mo_files_15 (by decide) (fun _ => ?_) (fun h9 => absurd (by decide) h9)
  refine lv_iconst (v := 0) hx hb d_Mo_files_22 (by decide) ?_
  refine lv_iadd hx hb d_Mo_files_23 ?_
  refine lv_topi (fun z3 z3_e => ?_)
  obtain rfl : z3 = 0 := z3_e.trans (by decide)
  refine lv_istore_n hx hb d_Mo_files_24 rfl hl (by decide) rfl (fun ls hl => ?_)
  have hl : lv_has ls 3 [(1, .int 0), (2, .int 2), (0, .ref h0)] := hl
  refine lv_iinc (k := 1) (v := 3) hx hb d_Mo_files_25 hl rfl (by decide) (by decide) rfl (fun ls hl => ?_)
  have hl : lv_has ls 3 [(2, .int 3), (1, .int 0), (0, .ref h0)] := hl
  refine lv_goto (tgt := 4) hx hb d_Mo_files_28 (by decide) ?_
  refine lv_iload_n hx hb d_Mo_files_4 rfl (lv_at hl 0 rfl) ?_
  refine lv_iconst (v := 4) hx hb d_Mo_files_5 (by decide) ?_
  refine lv_icmp_ge (tgt := 31) hx hb d_Mo_files_6 (by decide) (fun h9 => absurd h9 (by decide)) (fun _ => ?_)
  refine lv_iload_n hx hb d_Mo_files_9 rfl (lv_at hl 1 rfl) ?_
  refine lv_aload_n hx hb d_Mo_files_10 rfl (lv_at hl 2 rfl) ?_
  refine lv_iload_n hx hb d_Mo_files_11 rfl (lv_at hl 0 rfl) ?_
  refine px_go (va_runV (C := "TapeSealerModel") (As := [.int 3]) (rest := [.int 0]) ⟨hx, hb, hml, hown, hts⟩ (p_Mo_look l dC dI h0 q ci 3) (cwV 1 hts (gx_goodV hw_1046 hw_1048 hw_32 hw_75 k_Mo_look) rfl rfl rfl (by decide +kernel) ⟨(Nat.le_of_ble_eq_true rfl), (Nat.le_of_ble_eq_true rfl)⟩) ⟨fun a U g mk q => by obtain ⟨q0, qP, qK⟩ := q; exact ⟨q0, qP, va_K.moved (u := U) (U := U.calling g mk a) (Vm.Alike.refl U.vm) qK⟩, va_recv hK hP rfl (q0 := 0) rfl, fun U hU hW => ⟨rfl, by rw [hU]; exact hP, va_K.moved hW.alike (hK)⟩⟩ rfl rfl hl.1 rfl (lv_room (Nat.le_of_ble_eq_true rfl)) d_Mo_files_12 ⟨(Nat.le_of_ble_eq_true rfl), (Nat.le_of_ble_eq_true rfl)⟩) ?_
  refine W.eq (g2 := F0 m 15 ls [.int 0, .int 0]) rfl ?_
  refine lv_if_eq (tgt := 22) hx hb d_Mo_files_15 (by decide) (fun _ => ?_) (fun h9 => absurd (by decide) h9)
  refine lv_iconst (v := 0) hx hb d_Mo_files_22 (by decide) ?_
  refine lv_iadd hx hb d_Mo_files_23 ?_
  refine lv_topi (fun z4 z4_e => ?_)
  obtain rfl : z4 = 0 := z4_e.trans (by decide)
  refine lv_istore_n hx hb d_Mo_files_24 rfl hl (by decide) rfl (fun ls hl => ?_)
  have hl : lv_has ls 3 [(1, .int 0), (2, .int 3), (0, .ref h0)] := hl
  refine lv_iinc (k := 1) (v := 4) hx hb d_Mo_files_25 hl rfl (by decide) (by decide) rfl (fun ls hl => ?_)
  have hl : lv_has ls 3 [(2, .int 4), (1, .int 0), (0, .ref h0)] := hl
  refine lv_goto (tgt := 4) hx hb d_Mo_files_28 (by decide) ?_
  refine lv_iload_n hx hb d_Mo_files_4 rfl (lv_at hl 0 rfl) ?_
  refine lv_iconst (v := 4) hx hb d_Mo_files_5 (by decide) ?_
  refine lv_icmp_ge (tgt := 31) hx hb d_Mo_files_6 (by decide) (fun _ => ?_) (fun h9 => absurd (by decide) h9)
  refine lv_iload_n hx hb d_Mo_files_31 rfl (lv_at hl 1 rfl) ?_
  exact W.iret (v := 0) hx hb hr (fun t ht _ => ⟨rfl, ht⟩) (fun _ h => nomatch h) d_Mo_files_32
set_option maxHeartbeats 4000000 in
set_option maxRecDepth 100000 in
theorem p_Mo_taken (l : Launch) (dC : Nat → ClassId) (dI : Nat → Nat → Nat) (h0 : Nat) (q : Nat → Nat) (ci : Nat → ClassId) : Met l y_Mo_taken w_Mo_taken ({ frames := 2, cells := 0, slots := 0, locals := 46 }) (va_Pc [.ref h0] (fun U => va_P (dC, dI) gx_cl (wMo h0 q ci) U.heap ∧ va_K (dC, dI) gx_cl (kMo ci) U)) (px_Q (some (.int 0))) 0 0 (fun _ => False) := by
  refine Met.ofW (cc := b_Mo_taken) (maxL := 4) (ret := (some .int)) (by decide) rfl ?_
  intro p e s m args below meth c s₁ B hml hv
  obtain ⟨rfl, hP, hK⟩ := hv
  have hx := B.exec
  have hb := B.bytes
  have hr := B.returns
  have hts := atoms_spec (ws := w_Mo_taken) B.pre
  have hB : ∀ w ∈ gx_B, w.before _ s = true := fun w h => hts w (List.mem_cons_of_mem _ h)
  have hown : s.vm.findClass "TapeSealerModel" = some m.cls := findClass_of_methodNamed B.named
  have hlocks := B.notSynchronized
  have hl := lv_entry ([.ref h0]) (n := 4) (Nat.le_of_ble_eq_true rfl)
  rw [lg_entry_eq]
  generalize (lg_sl ([.ref h0]) ++ List.replicate (4 - (lg_sl ([.ref h0])).length) Slot.unset).toArray = ls at hl ⊢
  have hl : lv_has ls 4 [(0, .ref h0)] := hl
  refine lv_iconst (v := 0) hx hb d_Mo_taken_0 (by decide) ?_
  refine lv_istore_n hx hb d_Mo_taken_1 rfl hl (by decide) rfl (fun ls hl => ?_)
  have hl : lv_has ls 4 [(1, .int 0), (0, .ref h0)] := hl
  refine lv_iconst (v := 0) hx hb d_Mo_taken_2 (by decide) ?_
  refine lv_istore_n hx hb d_Mo_taken_3 rfl hl (by decide) rfl (fun ls hl => ?_)
  have hl : lv_has ls 4 [(2, .int 0), (1, .int 0), (0, .ref h0)] := hl
  refine lv_iload_n hx hb d_Mo_taken_4 rfl (lv_at hl 0 rfl) ?_
  refine lv_iconst (v := 4) hx hb d_Mo_taken_5 (by decide) ?_
  refine lv_icmp_ge (tgt := 53) hx hb d_Mo_taken_6 (by decide) (fun h9 => absurd h9 (by decide)) (fun _ => ?_)
  refine lv_aload_n hx hb d_Mo_taken_9 rfl (lv_at hl 2 rfl) ?_
  refine lv_iload_n hx hb d_Mo_taken_10 rfl (lv_at hl 0 rfl) ?_
  refine px_go (va_runV (C := "TapeSealerModel") (As := [.int 0]) (rest := []) ⟨hx, hb, hml, hown, hts⟩ (p_Mo_look l dC dI h0 q ci 0) (cwV 1 hts (gx_goodV hw_1046 hw_1048 hw_32 hw_75 k_Mo_look) rfl rfl rfl (by decide +kernel) ⟨(Nat.le_of_ble_eq_true rfl), (Nat.le_of_ble_eq_true rfl)⟩) ⟨fun a U g mk q => by obtain ⟨q0, qP, qK⟩ := q; exact ⟨q0, qP, va_K.moved (u := U) (U := U.calling g mk a) (Vm.Alike.refl U.vm) qK⟩, va_recv hK hP rfl (q0 := 0) rfl, fun U hU hW => ⟨rfl, by rw [hU]; exact hP, va_K.moved hW.alike (hK)⟩⟩ rfl rfl hl.1 rfl (lv_room (Nat.le_of_ble_eq_true rfl)) d_Mo_taken_11 ⟨(Nat.le_of_ble_eq_true rfl), (Nat.le_of_ble_eq_true rfl)⟩) ?_
  refine W.eq (g2 := F0 m 14 ls [.int 0]) rfl ?_
  refine lv_if_ne (tgt := 20) hx hb d_Mo_taken_14 (by decide) (fun h9 => absurd (by decide) h9) (fun _ => ?_)
  refine lv_goto (tgt := 47) hx hb d_Mo_taken_17 (by decide) ?_
  refine lv_iinc (k := 0) (v := 1) hx hb d_Mo_taken_47 hl rfl (by decide) (by decide) rfl (fun ls hl => ?_)
  have hl : lv_has ls 4 [(2, .int 1), (1, .int 0), (0, .ref h0)] := hl
  refine lv_goto (tgt := 4) hx hb d_Mo_taken_50 (by decide) ?_
  refine lv_iload_n hx hb d_Mo_taken_4 rfl (lv_at hl 0 rfl) ?_
  refine lv_iconst (v := 4) hx hb d_Mo_taken_5 (by decide) ?_
  refine lv_icmp_ge (tgt := 53) hx hb d_Mo_taken_6 (by decide) (fun h9 => absurd h9 (by decide)) (fun _ => ?_)
  refine lv_aload_n hx hb d_Mo_taken_9 rfl (lv_at hl 2 rfl) ?_
  refine lv_iload_n hx hb d_Mo_taken_10 rfl (lv_at hl 0 rfl) ?_
  refine px_go (va_runV (C := "TapeSealerModel") (As := [.int 1]) (rest := []) ⟨hx, hb, hml, hown, hts⟩ (p_Mo_look l dC dI h0 q ci 1) (cwV 1 hts (gx_goodV hw_1046 hw_1048 hw_32 hw_75 k_Mo_look) rfl rfl rfl (by decide +kernel) ⟨(Nat.le_of_ble_eq_true rfl), (Nat.le_of_ble_eq_true rfl)⟩) ⟨fun a U g mk q => by obtain ⟨q0, qP, qK⟩ := q; exact ⟨q0, qP, va_K.moved (u := U) (U := U.calling g mk a) (Vm.Alike.refl U.vm) qK⟩, va_recv hK hP rfl (q0 := 0) rfl, fun U hU hW => ⟨rfl, by rw [hU]; exact hP, va_K.moved hW.alike (hK)⟩⟩ rfl rfl hl.1 rfl (lv_room (Nat.le_of_ble_eq_true rfl)) d_Mo_taken_11 ⟨(Nat.le_of_ble_eq_true rfl), (Nat.le_of_ble_eq_true rfl)⟩) ?_
  refine W.eq (g2 := F0 m 14 ls [.int 0]) rfl ?_
  refine lv_if_ne (tgt := 20) hx hb d_Mo_taken_14 (by decide) (fun h9 => absurd (by decide) h9) (fun _ => ?_)
  refine lv_goto (tgt := 47) hx hb d_Mo_taken_17 (by decide) ?_
  refine lv_iinc (k := 0) (v := 2) hx hb d_Mo_taken_47 hl rfl (by decide) (by decide) rfl (fun ls hl => ?_)
  have hl : lv_has ls 4 [(2, .int 2), (1, .int 0), (0, .ref h0)] := hl
  refine lv_goto (tgt := 4) hx hb d_Mo_taken_50 (by decide) ?_
  refine lv_iload_n hx hb d_Mo_taken_4 rfl (lv_at hl 0 rfl) ?_
  refine lv_iconst (v := 4) hx hb d_Mo_taken_5 (by decide) ?_
  refine lv_icmp_ge (tgt := 53) hx hb d_Mo_taken_6 (by decide) (fun h9 => absurd h9 (by decide)) (fun _ => ?_)
  refine lv_aload_n hx hb d_Mo_taken_9 rfl (lv_at hl 2 rfl) ?_
  refine lv_iload_n hx hb d_Mo_taken_10 rfl (lv_at hl 0 rfl) ?_
  refine px_go (va_runV (C := "TapeSealerModel") (As := [.int 2]) (rest := []) ⟨hx, hb, hml, hown, hts⟩ (p_Mo_look l dC dI h0 q ci 2) (cwV 1 hts (gx_goodV hw_1046 hw_1048 hw_32 hw_75 k_Mo_look) rfl rfl rfl (by decide +kernel) ⟨(Nat.le_of_ble_eq_true rfl), (Nat.le_of_ble_eq_true rfl)⟩) ⟨fun a U g mk q => by obtain ⟨q0, qP, qK⟩ := q; exact ⟨q0, qP, va_K.moved (u := U) (U := U.calling g mk a) (Vm.Alike.refl U.vm) qK⟩, va_recv hK hP rfl (q0 := 0) rfl, fun U hU hW => ⟨rfl, by rw [hU]; exact hP, va_K.moved hW.alike (hK)⟩⟩ rfl rfl hl.1 rfl (lv_room (Nat.le_of_ble_eq_true rfl)) d_Mo_taken_11 ⟨(Nat.le_of_ble_eq_true rfl), (Nat.le_of_ble_eq_true rfl)⟩) ?_
  refine W.eq (g2 := F0 m 14 ls [.int 0]) rfl ?_
  refine lv_if_ne (tgt := 20) hx hb d_Mo_taken_14 (by decide) (fun h9 => absurd (by decide) h9) (fun _ => ?_)
  refine lv_goto (tgt := 47) hx hb d_Mo_taken_17 (by decide) ?_
  refine lv_iinc (k := 0) (v := 3) hx hb d_Mo_taken_47 hl rfl (by decide) (by decide) rfl (fun ls hl => ?_)
  have hl : lv_has ls 4 [(2, .int 3), (1, .int 0), (0, .ref h0)] := hl
  refine lv_goto (tgt := 4) hx hb d_Mo_taken_50 (by decide) ?_
  refine lv_iload_n hx hb d_Mo_taken_4 rfl (lv_at hl 0 rfl) ?_
  refine lv_iconst (v := 4) hx hb d_Mo_taken_5 (by decide) ?_
  refine lv_icmp_ge (tgt := 53) hx hb d_Mo_taken_6 (by decide) (fun h9 => absurd h9 (by decide)) (fun _ => ?_)
  refine lv_aload_n hx hb d_Mo_taken_9 rfl (lv_at hl 2 rfl) ?_
  refine lv_iload_n hx hb d_Mo_taken_10 rfl (lv_at hl 0 rfl) ?_
  refine px_go (va_runV (C := "TapeSealerModel") (As := [.int 3]) (rest := []) ⟨hx, hb, hml, hown, hts⟩ (p_Mo_look l dC dI h0 q ci 3) (cwV 1 hts (gx_goodV hw_1046 hw_1048 hw_32 hw_75 k_Mo_look) rfl rfl rfl (by decide +kernel) ⟨(Nat.le_of_ble_eq_true rfl), (Nat.le_of_ble_eq_true rfl)⟩) ⟨fun a U g mk q => by obtain ⟨q0, qP, qK⟩ := q; exact ⟨q0, qP, va_K.moved (u := U) (U := U.calling g mk a) (Vm.Alike.refl U.vm) qK⟩, va_recv hK hP rfl (q0 := 0) rfl, fun U hU hW => ⟨rfl, by rw [hU]; exact hP, va_K.moved hW.alike (hK)⟩⟩ rfl rfl hl.1 rfl (lv_room (Nat.le_of_ble_eq_true rfl)) d_Mo_taken_11 ⟨(Nat.le_of_ble_eq_true rfl), (Nat.le_of_ble_eq_true rfl)⟩) ?_
  refine W.eq (g2 := F0 m 14 ls [.int 0]) rfl ?_
  refine lv_if_ne (tgt := 20) hx hb d_Mo_taken_14 (by decide) (fun h9 => absurd (by decide) h9) (fun _ => ?_)
  refine lv_goto (tgt := 47) hx hb d_Mo_taken_17 (by decide) ?_
  refine lv_iinc (k := 0) (v := 4) hx hb d_Mo_taken_47 hl rfl (by decide) (by decide) rfl (fun ls hl => ?_)
  have hl : lv_has ls 4 [(2, .int 4), (1, .int 0), (0, .ref h0)] := hl
  refine lv_goto (tgt := 4) hx hb d_Mo_taken_50 (by decide) ?_
  refine lv_iload_n hx hb d_Mo_taken_4 rfl (lv_at hl 0 rfl) ?_
  refine lv_iconst (v := 4) hx hb d_Mo_taken_5 (by decide) ?_
  refine lv_icmp_ge (tgt := 53) hx hb d_Mo_taken_6 (by decide) (fun _ => ?_) (fun h9 => absurd (by decide) h9)
  refine lv_iload_n hx hb d_Mo_taken_53 rfl (lv_at hl 1 rfl) ?_
  exact W.iret (v := 0) hx hb hr (fun t ht _ => ⟨rfl, ht⟩) (fun _ h => nomatch h) d_Mo_taken_54
set_option maxHeartbeats 4000000 in
set_option maxRecDepth 100000 in
theorem p_Mo_isOfFile (l : Launch) (dC : Nat → ClassId) (dI : Nat → Nat → Nat) (h0 : Nat) (q : Nat → Nat) (ci : Nat → ClassId) (g : Int32) : Met l y_Mo_isOfFile w_Mo_isOfFile ({ frames := 2, cells := 0, slots := 0, locals := 46 }) (va_Pc [.ref h0, .int g] (fun U => va_P (dC, dI) gx_cl (wMo h0 q ci) U.heap ∧ va_K (dC, dI) gx_cl (kMo ci) U)) (px_Q (some (.int 0))) 0 0 (fun _ => False) := by
  refine Met.ofW (cc := b_Mo_isOfFile) (maxL := 3) (ret := (some .boolean)) (by decide) rfl ?_
  intro p e s m args below meth c s₁ B hml hv
  obtain ⟨rfl, hP, hK⟩ := hv
  have hx := B.exec
  have hb := B.bytes
  have hr := B.returns
  have hts := atoms_spec (ws := w_Mo_isOfFile) B.pre
  have hB : ∀ w ∈ gx_B, w.before _ s = true := fun w h => hts w (List.mem_cons_of_mem _ h)
  have hown : s.vm.findClass "TapeSealerModel" = some m.cls := findClass_of_methodNamed B.named
  have hlocks := B.notSynchronized
  have hl := lv_entry ([.ref h0, .int g]) (n := 3) (Nat.le_of_ble_eq_true rfl)
  rw [lg_entry_eq]
  generalize (lg_sl ([.ref h0, .int g]) ++ List.replicate (3 - (lg_sl ([.ref h0, .int g])).length) Slot.unset).toArray = ls at hl ⊢
  have hl : lv_has ls 3 [(0, .ref h0), (1, .int g)] := hl
  refine lv_iconst (v := 0) hx hb d_Mo_isOfFile_0 (by decide) ?_
  refine lv_istore_n hx hb d_Mo_isOfFile_1 rfl hl (by decide) rfl (fun ls hl => ?_)
  have hl : lv_has ls 3 [(2, .int 0), (0, .ref h0), (1, .int g)] := hl
  refine lv_iload_n hx hb d_Mo_isOfFile_2 rfl (lv_at hl 0 rfl) ?_
  refine lv_iconst (v := 4) hx hb d_Mo_isOfFile_3 (by decide) ?_
  refine lv_icmp_ge (tgt := 44) hx hb d_Mo_isOfFile_4 (by decide) (fun h9 => absurd h9 (by decide)) (fun _ => ?_)
  refine lv_aload_n hx hb d_Mo_isOfFile_7 rfl (lv_at hl 1 rfl) ?_
  refine lv_iload_n hx hb d_Mo_isOfFile_8 rfl (lv_at hl 0 rfl) ?_
  refine px_go (va_runV (C := "TapeSealerModel") (As := [.int 0]) (rest := []) ⟨hx, hb, hml, hown, hts⟩ (p_Mo_look l dC dI h0 q ci 0) (cwV 1 hts (gx_goodV hw_1046 hw_1048 hw_32 hw_75 k_Mo_look) rfl rfl rfl (by decide +kernel) ⟨(Nat.le_of_ble_eq_true rfl), (Nat.le_of_ble_eq_true rfl)⟩) ⟨fun a U g mk q => by obtain ⟨q0, qP, qK⟩ := q; exact ⟨q0, qP, va_K.moved (u := U) (U := U.calling g mk a) (Vm.Alike.refl U.vm) qK⟩, va_recv hK hP rfl (q0 := 0) rfl, fun U hU hW => ⟨rfl, by rw [hU]; exact hP, va_K.moved hW.alike (hK)⟩⟩ rfl rfl hl.1 rfl (lv_room (Nat.le_of_ble_eq_true rfl)) d_Mo_isOfFile_9 ⟨(Nat.le_of_ble_eq_true rfl), (Nat.le_of_ble_eq_true rfl)⟩) ?_
  refine W.eq (g2 := F0 m 12 ls [.int 0]) rfl ?_
  refine lv_if_eq (tgt := 38) hx hb d_Mo_isOfFile_12 (by decide) (fun _ => ?_) (fun h9 => absurd (by decide) h9)
  refine lv_iinc (k := 0) (v := 1) hx hb d_Mo_isOfFile_38 hl rfl (by decide) (by decide) rfl (fun ls hl => ?_)
  have hl : lv_has ls 3 [(2, .int 1), (0, .ref h0), (1, .int g)] := hl
  refine lv_goto (tgt := 2) hx hb d_Mo_isOfFile_41 (by decide) ?_
  refine lv_iload_n hx hb d_Mo_isOfFile_2 rfl (lv_at hl 0 rfl) ?_
  refine lv_iconst (v := 4) hx hb d_Mo_isOfFile_3 (by decide) ?_
  refine lv_icmp_ge (tgt := 44) hx hb d_Mo_isOfFile_4 (by decide) (fun h9 => absurd h9 (by decide)) (fun _ => ?_)
  refine lv_aload_n hx hb d_Mo_isOfFile_7 rfl (lv_at hl 1 rfl) ?_
  refine lv_iload_n hx hb d_Mo_isOfFile_8 rfl (lv_at hl 0 rfl) ?_
  refine px_go (va_runV (C := "TapeSealerModel") (As := [.int 1]) (rest := []) ⟨hx, hb, hml, hown, hts⟩ (p_Mo_look l dC dI h0 q ci 1) (cwV 1 hts (gx_goodV hw_1046 hw_1048 hw_32 hw_75 k_Mo_look) rfl rfl rfl (by decide +kernel) ⟨(Nat.le_of_ble_eq_true rfl), (Nat.le_of_ble_eq_true rfl)⟩) ⟨fun a U g mk q => by obtain ⟨q0, qP, qK⟩ := q; exact ⟨q0, qP, va_K.moved (u := U) (U := U.calling g mk a) (Vm.Alike.refl U.vm) qK⟩, va_recv hK hP rfl (q0 := 0) rfl, fun U hU hW => ⟨rfl, by rw [hU]; exact hP, va_K.moved hW.alike (hK)⟩⟩ rfl rfl hl.1 rfl (lv_room (Nat.le_of_ble_eq_true rfl)) d_Mo_isOfFile_9 ⟨(Nat.le_of_ble_eq_true rfl), (Nat.le_of_ble_eq_true rfl)⟩) ?_
  refine W.eq (g2 := F0 m 12 ls [.int 0]) rfl ?_
  refine lv_if_eq (tgt := 38) hx hb d_Mo_isOfFile_12 (by decide) (fun _ => ?_) (fun h9 => absurd (by decide) h9)
  refine lv_iinc (k := 0) (v := 2) hx hb d_Mo_isOfFile_38 hl rfl (by decide) (by decide) rfl (fun ls hl => ?_)
  have hl : lv_has ls 3 [(2, .int 2), (0, .ref h0), (1, .int g)] := hl
  refine lv_goto (tgt := 2) hx hb d_Mo_isOfFile_41 (by decide) ?_
  refine lv_iload_n hx hb d_Mo_isOfFile_2 rfl (lv_at hl 0 rfl) ?_
  refine lv_iconst (v := 4) hx hb d_Mo_isOfFile_3 (by decide) ?_
  refine lv_icmp_ge (tgt := 44) hx hb d_Mo_isOfFile_4 (by decide) (fun h9 => absurd h9 (by decide)) (fun _ => ?_)
  refine lv_aload_n hx hb d_Mo_isOfFile_7 rfl (lv_at hl 1 rfl) ?_
  refine lv_iload_n hx hb d_Mo_isOfFile_8 rfl (lv_at hl 0 rfl) ?_
  refine px_go (va_runV (C := "TapeSealerModel") (As := [.int 2]) (rest := []) ⟨hx, hb, hml, hown, hts⟩ (p_Mo_look l dC dI h0 q ci 2) (cwV 1 hts (gx_goodV hw_1046 hw_1048 hw_32 hw_75 k_Mo_look) rfl rfl rfl (by decide +kernel) ⟨(Nat.le_of_ble_eq_true rfl), (Nat.le_of_ble_eq_true rfl)⟩) ⟨fun a U g mk q => by obtain ⟨q0, qP, qK⟩ := q; exact ⟨q0, qP, va_K.moved (u := U) (U := U.calling g mk a) (Vm.Alike.refl U.vm) qK⟩, va_recv hK hP rfl (q0 := 0) rfl, fun U hU hW => ⟨rfl, by rw [hU]; exact hP, va_K.moved hW.alike (hK)⟩⟩ rfl rfl hl.1 rfl (lv_room (Nat.le_of_ble_eq_true rfl)) d_Mo_isOfFile_9 ⟨(Nat.le_of_ble_eq_true rfl), (Nat.le_of_ble_eq_true rfl)⟩) ?_
  refine W.eq (g2 := F0 m 12 ls [.int 0]) rfl ?_
  refine lv_if_eq (tgt := 38) hx hb d_Mo_isOfFile_12 (by decide) (fun _ => ?_) (fun h9 => absurd (by decide) h9)
  refine lv_iinc (k := 0) (v := 3) hx hb d_Mo_isOfFile_38 hl rfl (by decide) (by decide) rfl (fun ls hl => ?_)
  have hl : lv_has ls 3 [(2, .int 3), (0, .ref h0), (1, .int g)] := hl
  refine lv_goto (tgt := 2) hx hb d_Mo_isOfFile_41 (by decide) ?_
  refine lv_iload_n hx hb d_Mo_isOfFile_2 rfl (lv_at hl 0 rfl) ?_
  refine lv_iconst (v := 4) hx hb d_Mo_isOfFile_3 (by decide) ?_
  refine lv_icmp_ge (tgt := 44) hx hb d_Mo_isOfFile_4 (by decide) (fun h9 => absurd h9 (by decide)) (fun _ => ?_)
  refine lv_aload_n hx hb d_Mo_isOfFile_7 rfl (lv_at hl 1 rfl) ?_
  refine lv_iload_n hx hb d_Mo_isOfFile_8 rfl (lv_at hl 0 rfl) ?_
  refine px_go (va_runV (C := "TapeSealerModel") (As := [.int 3]) (rest := []) ⟨hx, hb, hml, hown, hts⟩ (p_Mo_look l dC dI h0 q ci 3) (cwV 1 hts (gx_goodV hw_1046 hw_1048 hw_32 hw_75 k_Mo_look) rfl rfl rfl (by decide +kernel) ⟨(Nat.le_of_ble_eq_true rfl), (Nat.le_of_ble_eq_true rfl)⟩) ⟨fun a U g mk q => by obtain ⟨q0, qP, qK⟩ := q; exact ⟨q0, qP, va_K.moved (u := U) (U := U.calling g mk a) (Vm.Alike.refl U.vm) qK⟩, va_recv hK hP rfl (q0 := 0) rfl, fun U hU hW => ⟨rfl, by rw [hU]; exact hP, va_K.moved hW.alike (hK)⟩⟩ rfl rfl hl.1 rfl (lv_room (Nat.le_of_ble_eq_true rfl)) d_Mo_isOfFile_9 ⟨(Nat.le_of_ble_eq_true rfl), (Nat.le_of_ble_eq_true rfl)⟩) ?_
  refine W.eq (g2 := F0 m 12 ls [.int 0]) rfl ?_
  refine lv_if_eq (tgt := 38) hx hb d_Mo_isOfFile_12 (by decide) (fun _ => ?_) (fun h9 => absurd (by decide) h9)
  refine lv_iinc (k := 0) (v := 4) hx hb d_Mo_isOfFile_38 hl rfl (by decide) (by decide) rfl (fun ls hl => ?_)
  have hl : lv_has ls 3 [(2, .int 4), (0, .ref h0), (1, .int g)] := hl
  refine lv_goto (tgt := 2) hx hb d_Mo_isOfFile_41 (by decide) ?_
  refine lv_iload_n hx hb d_Mo_isOfFile_2 rfl (lv_at hl 0 rfl) ?_
  refine lv_iconst (v := 4) hx hb d_Mo_isOfFile_3 (by decide) ?_
  refine lv_icmp_ge (tgt := 44) hx hb d_Mo_isOfFile_4 (by decide) (fun _ => ?_) (fun h9 => absurd (by decide) h9)
  refine lv_iconst (v := 0) hx hb d_Mo_isOfFile_44 (by decide) ?_
  exact W.zret (v := 0) hx hb hr rfl (fun t ht _ => ⟨rfl, ht⟩) (fun _ h => nomatch h) d_Mo_isOfFile_45
set_option maxHeartbeats 4000000 in
set_option maxRecDepth 100000 in
theorem p_Mo_isBlock1 (l : Launch) (b : Int32) (h1 : ¬ b < 0) (h2 : ¬ 44 ≤ b) : Met l y_Mo_isBlock w_Mo_isBlock ({ frames := 0, cells := 0, slots := 0, locals := 0 }) (va_Pc [.int b] (fun U => True)) (px_Q (some (.int 1))) 0 0 (fun _ => False) := by
  refine Met.ofW (cc := b_Mo_isBlock) (maxL := 1) (ret := (some .boolean)) (by decide) rfl ?_
  intro p e s m args below meth c s₁ B hml hv
  obtain ⟨rfl, -⟩ := hv
  have hx := B.exec
  have hb := B.bytes
  have hr := B.returns
  have hts := atoms_spec (ws := w_Mo_isBlock) B.pre
  have hB : ∀ w ∈ gx_B, w.before _ s = true := fun w h => hts w (List.mem_cons_of_mem _ h)
  have hown : s.vm.findClass "TapeSealerModel" = some m.cls := findClass_of_methodNamed B.named
  have hlocks := B.notSynchronized
  have hl := lv_entry ([.int b]) (n := 1) (Nat.le_of_ble_eq_true rfl)
  rw [lg_entry_eq]
  generalize (lg_sl ([.int b]) ++ List.replicate (1 - (lg_sl ([.int b])).length) Slot.unset).toArray = ls at hl ⊢
  have hl : lv_has ls 1 [(0, .int b)] := hl
  refine lv_iload_n hx hb d_Mo_isBlock_0 rfl (lv_at hl 0 rfl) ?_
  refine lv_if_lt (tgt := 14) hx hb d_Mo_isBlock_1 (by decide) (fun h9 => absurd h9 h1) (fun _ => ?_)
  refine lv_iload_n hx hb d_Mo_isBlock_4 rfl (lv_at hl 0 rfl) ?_
  refine lv_bipush (v := 44) hx hb d_Mo_isBlock_5 (by decide) ?_
  refine lv_icmp_ge (tgt := 14) hx hb d_Mo_isBlock_7 (by decide) (fun h9 => absurd h9 h2) (fun _ => ?_)
  refine lv_iconst (v := 1) hx hb d_Mo_isBlock_10 (by decide) ?_
  refine lv_goto (tgt := 15) hx hb d_Mo_isBlock_11 (by decide) ?_
  exact W.zret (v := 1) hx hb hr rfl (fun t ht _ => ⟨rfl, ht⟩) (fun _ h => nomatch h) d_Mo_isBlock_15
set_option maxHeartbeats 4000000 in
set_option maxRecDepth 100000 in
theorem p_Mo_isBlock0 (l : Launch) (b : Int32) (h : b < 0 ∨ 44 ≤ b) : Met l y_Mo_isBlock w_Mo_isBlock ({ frames := 0, cells := 0, slots := 0, locals := 0 }) (va_Pc [.int b] (fun U => True)) (px_Q (some (.int 0))) 0 0 (fun _ => False) := by
  refine Met.ofW (cc := b_Mo_isBlock) (maxL := 1) (ret := (some .boolean)) (by decide) rfl ?_
  intro p e s m args below meth c s₁ B hml hv
  obtain ⟨rfl, -⟩ := hv
  have hx := B.exec
  have hb := B.bytes
  have hr := B.returns
  have hts := atoms_spec (ws := w_Mo_isBlock) B.pre
  have hB : ∀ w ∈ gx_B, w.before _ s = true := fun w h => hts w (List.mem_cons_of_mem _ h)
  have hown : s.vm.findClass "TapeSealerModel" = some m.cls := findClass_of_methodNamed B.named
  have hlocks := B.notSynchronized
  have hl := lv_entry ([.int b]) (n := 1) (Nat.le_of_ble_eq_true rfl)
  rw [lg_entry_eq]
  generalize (lg_sl ([.int b]) ++ List.replicate (1 - (lg_sl ([.int b])).length) Slot.unset).toArray = ls at hl ⊢
  have hl : lv_has ls 1 [(0, .int b)] := hl
  rcases h with h1 | h1
  · refine lv_iload_n hx hb d_Mo_isBlock_0 rfl (lv_at hl 0 rfl) ?_
    refine lv_if_lt (tgt := 14) hx hb d_Mo_isBlock_1 (by decide) (fun _ => ?_) (fun h9 => absurd h1 h9)
    refine lv_iconst (v := 0) hx hb d_Mo_isBlock_14 (by decide) ?_
    exact W.zret (v := 0) hx hb hr rfl (fun t ht _ => ⟨rfl, ht⟩) (fun _ h => nomatch h) d_Mo_isBlock_15
  · refine lv_iload_n hx hb d_Mo_isBlock_0 rfl (lv_at hl 0 rfl) ?_
    refine lv_if_lt (tgt := 14) hx hb d_Mo_isBlock_1 (by decide) (fun h9 => absurd h9 (gx_nlt44 h1)) (fun _ => ?_)
    refine lv_iload_n hx hb d_Mo_isBlock_4 rfl (lv_at hl 0 rfl) ?_
    refine lv_bipush (v := 44) hx hb d_Mo_isBlock_5 (by decide) ?_
    refine lv_icmp_ge (tgt := 14) hx hb d_Mo_isBlock_7 (by decide) (fun _ => ?_) (fun h9 => absurd h1 h9)
    refine lv_iconst (v := 0) hx hb d_Mo_isBlock_14 (by decide) ?_
    exact W.zret (v := 0) hx hb hr rfl (fun t ht _ => ⟨rfl, ht⟩) (fun _ h => nomatch h) d_Mo_isBlock_15
set_option maxHeartbeats 4000000 in
set_option maxRecDepth 100000 in
theorem p_Mo_thrown (l : Launch) (dC : Nat → ClassId) (dI : Nat → Nat → Nat) (h0 : Nat) (k : Int32) (fs : List Value) : Met l y_Mo_thrown w_Mo_thrown ({ frames := 0, cells := 0, slots := 0, locals := 0 }) (va_Pc [.ref h0] (fun U => va_P (dC, dI) gx_cl [(h0, .inr (9, .int k :: fs))] U.heap ∧ va_K (dC, dI) gx_cl [] U)) (px_Q (some (.int k))) 0 0 (fun _ => False) := by
  refine Met.ofW (cc := b_Mo_thrown) (maxL := 1) (ret := (some .int)) (by decide) rfl ?_
  intro p e s m args below meth c s₁ B hml hv
  obtain ⟨rfl, hP, hK⟩ := hv
  have hx := B.exec
  have hb := B.bytes
  have hr := B.returns
  have hts := atoms_spec (ws := w_Mo_thrown) B.pre
  have hB : ∀ w ∈ gx_B, w.before _ s = true := fun w h => hts w (List.mem_cons_of_mem _ h)
  have hown : s.vm.findClass "TapeSealerModel" = some m.cls := findClass_of_methodNamed B.named
  have hlocks := B.notSynchronized
  have hl := lv_entry ([.ref h0]) (n := 1) (Nat.le_of_ble_eq_true rfl)
  rw [lg_entry_eq]
  generalize (lg_sl ([.ref h0]) ++ List.replicate (1 - (lg_sl ([.ref h0])).length) Slot.unset).toArray = ls at hl ⊢
  have hl : lv_has ls 1 [(0, .ref h0)] := hl
  refine lv_aload_n hx hb d_Mo_thrown_0 rfl (lv_at hl 0 rfl) ?_
  refine va_get (D := (dC, dI)) (ci := 9) (v := .int k) (C := RMo) (T := FMo) (N := 45) hx hb hB in_Mo hown hK hP 0 rfl rfl 0 (by decide) (hB _ hw_890) (fun _ h9 => h9) rfl d_Mo_thrown_1 ?_
  exact W.iret (v := k) hx hb hr (fun t ht _ => ⟨rfl, ht⟩) (fun _ h => nomatch h) d_Mo_thrown_4
end
