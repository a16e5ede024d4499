section
def lw_okq (q : MethodName × Nat) : Prop := (q.1.cls ≠ "java/lang/invoke/MethodHandle" ∧ q.1.cls ≠ "java/lang/invoke/VarHandle") ∧ Cond.instantiable q.1.cls q.2 ∈ tables_1 ∧ Cond.privateMethod q.1 ∈ tables_1 ∧ Cond.instanceMethod q.1 ∈ tables_1
theorem lw_p0 : lw_okq (⟨"java/lang/Throwable", "fillInStackTrace", "(I)Ljava/lang/Throwable;"⟩, 6) := ⟨⟨by decide +kernel, by decide +kernel⟩, List.mem_of_getElem? (i := 196) (by decide +kernel), List.mem_of_getElem? (i := 194) (by decide +kernel), List.mem_of_getElem? (i := 195) (by decide +kernel)⟩
theorem lw_p1 : lw_okq (⟨"SpongeDigests$Bytes", "append", "(I)V"⟩, 2) := ⟨⟨by decide +kernel, by decide +kernel⟩, List.mem_of_getElem? (i := 33) (by decide +kernel), List.mem_of_getElem? (i := 225) (by decide +kernel), List.mem_of_getElem? (i := 226) (by decide +kernel)⟩
theorem lw_p2 : lw_okq (⟨"SpongeDigests", "slotAt", "(I)LSpongeDigests$Bytes;"⟩, 9) := ⟨⟨by decide +kernel, by decide +kernel⟩, List.mem_of_getElem? (i := 24) (by decide +kernel), List.mem_of_getElem? (i := 237) (by decide +kernel), List.mem_of_getElem? (i := 238) (by decide +kernel)⟩
theorem lw_p3 : lw_okq (⟨"SpongeDigests$Bytes", "take", "(LSpongeDigests$Bytes;I)V"⟩, 2) := ⟨⟨by decide +kernel, by decide +kernel⟩, List.mem_of_getElem? (i := 33) (by decide +kernel), List.mem_of_getElem? (i := 261) (by decide +kernel), List.mem_of_getElem? (i := 262) (by decide +kernel)⟩
theorem lw_p4 : lw_okq (⟨"SpongeDigests$Bytes", "cutOrFill", "(I)V"⟩, 2) := ⟨⟨by decide +kernel, by decide +kernel⟩, List.mem_of_getElem? (i := 33) (by decide +kernel), List.mem_of_getElem? (i := 282) (by decide +kernel), List.mem_of_getElem? (i := 283) (by decide +kernel)⟩
theorem lw_p5 : lw_okq (⟨"SpongeDigests$Bytes", "eightFrom", "(I)J"⟩, 2) := ⟨⟨by decide +kernel, by decide +kernel⟩, List.mem_of_getElem? (i := 33) (by decide +kernel), List.mem_of_getElem? (i := 576) (by decide +kernel), List.mem_of_getElem? (i := 577) (by decide +kernel)⟩
theorem lw_p6 : lw_okq (⟨"SpongeDigests$Bytes", "matches", "(LSpongeDigests$Bytes;)Z"⟩, 2) := ⟨⟨by decide +kernel, by decide +kernel⟩, List.mem_of_getElem? (i := 33) (by decide +kernel), List.mem_of_getElem? (i := 587) (by decide +kernel), List.mem_of_getElem? (i := 588) (by decide +kernel)⟩
theorem lw_p7 : lw_okq (⟨"SpongeDigests", "hashInBlocks", "(LSpongeDigests$BlockHash;[JI)V"⟩, 9) := ⟨⟨by decide +kernel, by decide +kernel⟩, List.mem_of_getElem? (i := 24) (by decide +kernel), List.mem_of_getElem? (i := 600) (by decide +kernel), List.mem_of_getElem? (i := 601) (by decide +kernel)⟩
theorem lw_p8 : lw_okq (⟨"SpongeDigests$BlockHash", "begin", "([J)V"⟩, 14) := ⟨⟨by decide +kernel, by decide +kernel⟩, List.mem_of_getElem? (i := 66) (by decide +kernel), List.mem_of_getElem? (i := 604) (by decide +kernel), List.mem_of_getElem? (i := 605) (by decide +kernel)⟩
theorem lw_p9 : lw_okq (⟨"SpongeDigests$BlockHash", "absorb", "([BII)V"⟩, 14) := ⟨⟨by decide +kernel, by decide +kernel⟩, List.mem_of_getElem? (i := 66) (by decide +kernel), List.mem_of_getElem? (i := 609) (by decide +kernel), List.mem_of_getElem? (i := 610) (by decide +kernel)⟩
theorem lw_p10 : lw_okq (⟨"SpongeDigests$BlockHash", "compress", "()V"⟩, 14) := ⟨⟨by decide +kernel, by decide +kernel⟩, List.mem_of_getElem? (i := 66) (by decide +kernel), List.mem_of_getElem? (i := 613) (by decide +kernel), List.mem_of_getElem? (i := 614) (by decide +kernel)⟩
theorem lw_p11 : lw_okq (⟨"SpongeDigests$BlockHash", "fillSchedule", "()V"⟩, 14) := ⟨⟨by decide +kernel, by decide +kernel⟩, List.mem_of_getElem? (i := 66) (by decide +kernel), List.mem_of_getElem? (i := 617) (by decide +kernel), List.mem_of_getElem? (i := 618) (by decide +kernel)⟩
theorem lw_p12 : lw_okq (⟨"SpongeDigests$BlockHash", "twoTurnsAndShift", "(JI)J"⟩, 14) := ⟨⟨by decide +kernel, by decide +kernel⟩, List.mem_of_getElem? (i := 66) (by decide +kernel), List.mem_of_getElem? (i := 621) (by decide +kernel), List.mem_of_getElem? (i := 622) (by decide +kernel)⟩
theorem lw_p13 : lw_okq (⟨"SpongeDigests$BlockHash", "rotr", "(JI)J"⟩, 14) := ⟨⟨by decide +kernel, by decide +kernel⟩, List.mem_of_getElem? (i := 66) (by decide +kernel), List.mem_of_getElem? (i := 625) (by decide +kernel), List.mem_of_getElem? (i := 626) (by decide +kernel)⟩
theorem lw_p14 : lw_okq (⟨"SpongeDigests$BlockHash", "threeTurns", "(JI)J"⟩, 14) := ⟨⟨by decide +kernel, by decide +kernel⟩, List.mem_of_getElem? (i := 66) (by decide +kernel), List.mem_of_getElem? (i := 631) (by decide +kernel), List.mem_of_getElem? (i := 632) (by decide +kernel)⟩
theorem lw_p15 : lw_okq (⟨"SpongeDigests$BlockHash", "addToState", "(IJJJJ)V"⟩, 14) := ⟨⟨by decide +kernel, by decide +kernel⟩, List.mem_of_getElem? (i := 66) (by decide +kernel), List.mem_of_getElem? (i := 635) (by decide +kernel), List.mem_of_getElem? (i := 636) (by decide +kernel)⟩
def lw_privs_1 : List (MethodName × Nat) := [(⟨"java/lang/Throwable", "fillInStackTrace", "(I)Ljava/lang/Throwable;"⟩, 6), (⟨"SpongeDigests$Bytes", "append", "(I)V"⟩, 2), (⟨"SpongeDigests", "slotAt", "(I)LSpongeDigests$Bytes;"⟩, 9), (⟨"SpongeDigests$Bytes", "take", "(LSpongeDigests$Bytes;I)V"⟩, 2), (⟨"SpongeDigests$Bytes", "cutOrFill", "(I)V"⟩, 2), (⟨"SpongeDigests$Bytes", "eightFrom", "(I)J"⟩, 2), (⟨"SpongeDigests$Bytes", "matches", "(LSpongeDigests$Bytes;)Z"⟩, 2), (⟨"SpongeDigests", "hashInBlocks", "(LSpongeDigests$BlockHash;[JI)V"⟩, 9), (⟨"SpongeDigests$BlockHash", "begin", "([J)V"⟩, 14), (⟨"SpongeDigests$BlockHash", "absorb", "([BII)V"⟩, 14), (⟨"SpongeDigests$BlockHash", "compress", "()V"⟩, 14), (⟨"SpongeDigests$BlockHash", "fillSchedule", "()V"⟩, 14), (⟨"SpongeDigests$BlockHash", "twoTurnsAndShift", "(JI)J"⟩, 14), (⟨"SpongeDigests$BlockHash", "rotr", "(JI)J"⟩, 14), (⟨"SpongeDigests$BlockHash", "threeTurns", "(JI)J"⟩, 14), (⟨"SpongeDigests$BlockHash", "addToState", "(IJJJJ)V"⟩, 14)]
theorem lw_r1 : ∀ q ∈ lw_privs_1, lw_okq q := List.forall_mem_cons.mpr ⟨lw_p0, List.forall_mem_cons.mpr ⟨lw_p1, List.forall_mem_cons.mpr ⟨lw_p2, List.forall_mem_cons.mpr ⟨lw_p3, List.forall_mem_cons.mpr ⟨lw_p4, List.forall_mem_cons.mpr ⟨lw_p5, List.forall_mem_cons.mpr ⟨lw_p6, List.forall_mem_cons.mpr ⟨lw_p7, List.forall_mem_cons.mpr ⟨lw_p8, List.forall_mem_cons.mpr ⟨lw_p9, List.forall_mem_cons.mpr ⟨lw_p10, List.forall_mem_cons.mpr ⟨lw_p11, List.forall_mem_cons.mpr ⟨lw_p12, List.forall_mem_cons.mpr ⟨lw_p13, List.forall_mem_cons.mpr ⟨lw_p14, List.forall_mem_cons.mpr ⟨lw_p15, fun _ h => absurd h List.not_mem_nil⟩⟩⟩⟩⟩⟩⟩⟩⟩⟩⟩⟩⟩⟩⟩⟩
theorem lw_p16 : lw_okq (⟨"SpongeDigests$BlockHash", "finish", "([BII)V"⟩, 14) := ⟨⟨by decide +kernel, by decide +kernel⟩, List.mem_of_getElem? (i := 66) (by decide +kernel), List.mem_of_getElem? (i := 639) (by decide +kernel), List.mem_of_getElem? (i := 640) (by decide +kernel)⟩
theorem lw_p17 : lw_okq (⟨"SpongeDigests$BlockHash", "writeState", "([BII)V"⟩, 14) := ⟨⟨by decide +kernel, by decide +kernel⟩, List.mem_of_getElem? (i := 66) (by decide +kernel), List.mem_of_getElem? (i := 645) (by decide +kernel), List.mem_of_getElem? (i := 646) (by decide +kernel)⟩
theorem lw_p18 : lw_okq (⟨"SpongeDigests", "hashInSponge", "(III)V"⟩, 9) := ⟨⟨by decide +kernel, by decide +kernel⟩, List.mem_of_getElem? (i := 24) (by decide +kernel), List.mem_of_getElem? (i := 659) (by decide +kernel), List.mem_of_getElem? (i := 660) (by decide +kernel)⟩
theorem lw_p19 : lw_okq (⟨"SpongeDigests$Sponge", "absorb", "(II[BI)V"⟩, 3) := ⟨⟨by decide +kernel, by decide +kernel⟩, List.mem_of_getElem? (i := 49) (by decide +kernel), List.mem_of_getElem? (i := 663) (by decide +kernel), List.mem_of_getElem? (i := 664) (by decide +kernel)⟩
theorem lw_p20 : lw_okq (⟨"SpongeDigests$Sponge", "mixIn", "(II)V"⟩, 3) := ⟨⟨by decide +kernel, by decide +kernel⟩, List.mem_of_getElem? (i := 49) (by decide +kernel), List.mem_of_getElem? (i := 670) (by decide +kernel), List.mem_of_getElem? (i := 671) (by decide +kernel)⟩
theorem lw_p21 : lw_okq (⟨"SpongeDigests$Sponge", "permute", "()V"⟩, 3) := ⟨⟨by decide +kernel, by decide +kernel⟩, List.mem_of_getElem? (i := 49) (by decide +kernel), List.mem_of_getElem? (i := 674) (by decide +kernel), List.mem_of_getElem? (i := 675) (by decide +kernel)⟩
theorem lw_p22 : lw_okq (⟨"SpongeDigests$Sponge", "mixColumns", "()V"⟩, 3) := ⟨⟨by decide +kernel, by decide +kernel⟩, List.mem_of_getElem? (i := 49) (by decide +kernel), List.mem_of_getElem? (i := 678) (by decide +kernel), List.mem_of_getElem? (i := 679) (by decide +kernel)⟩
theorem lw_p23 : lw_okq (⟨"SpongeDigests$Sponge", "turnAndMove", "()V"⟩, 3) := ⟨⟨by decide +kernel, by decide +kernel⟩, List.mem_of_getElem? (i := 49) (by decide +kernel), List.mem_of_getElem? (i := 685) (by decide +kernel), List.mem_of_getElem? (i := 686) (by decide +kernel)⟩
theorem lw_p24 : lw_okq (⟨"SpongeDigests$Sponge", "mixRows", "()V"⟩, 3) := ⟨⟨by decide +kernel, by decide +kernel⟩, List.mem_of_getElem? (i := 49) (by decide +kernel), List.mem_of_getElem? (i := 693) (by decide +kernel), List.mem_of_getElem? (i := 694) (by decide +kernel)⟩
theorem lw_p25 : lw_okq (⟨"SpongeDigests$Sponge", "squeeze", "(I[BI)V"⟩, 3) := ⟨⟨by decide +kernel, by decide +kernel⟩, List.mem_of_getElem? (i := 49) (by decide +kernel), List.mem_of_getElem? (i := 700) (by decide +kernel), List.mem_of_getElem? (i := 701) (by decide +kernel)⟩
theorem lw_p26 : lw_okq (⟨"SpongeDigests", "hashWithKey", "(LSpongeDigests$BlockHash;[J)V"⟩, 9) := ⟨⟨by decide +kernel, by decide +kernel⟩, List.mem_of_getElem? (i := 24) (by decide +kernel), List.mem_of_getElem? (i := 704) (by decide +kernel), List.mem_of_getElem? (i := 705) (by decide +kernel)⟩
theorem lw_p27 : lw_okq (⟨"SpongeDigests", "setKey", "(LSpongeDigests$BlockHash;[J)V"⟩, 9) := ⟨⟨by decide +kernel, by decide +kernel⟩, List.mem_of_getElem? (i := 24) (by decide +kernel), List.mem_of_getElem? (i := 708) (by decide +kernel), List.mem_of_getElem? (i := 709) (by decide +kernel)⟩
theorem lw_p28 : lw_okq (⟨"SpongeDigests", "beginWithKey", "(LSpongeDigests$BlockHash;[JI)V"⟩, 9) := ⟨⟨by decide +kernel, by decide +kernel⟩, List.mem_of_getElem? (i := 24) (by decide +kernel), List.mem_of_getElem? (i := 716) (by decide +kernel), List.mem_of_getElem? (i := 717) (by decide +kernel)⟩
theorem lw_p29 : lw_okq (⟨"SpongeDigests", "hashWithCounter", "(LSpongeDigests$BlockHash;[JI)V"⟩, 9) := ⟨⟨by decide +kernel, by decide +kernel⟩, List.mem_of_getElem? (i := 24) (by decide +kernel), List.mem_of_getElem? (i := 720) (by decide +kernel), List.mem_of_getElem? (i := 721) (by decide +kernel)⟩
theorem lw_p30 : lw_okq (⟨"SpongeDigests$BlockHash", "setMark", "()V"⟩, 14) := ⟨⟨by decide +kernel, by decide +kernel⟩, List.mem_of_getElem? (i := 66) (by decide +kernel), List.mem_of_getElem? (i := 724) (by decide +kernel), List.mem_of_getElem? (i := 725) (by decide +kernel)⟩
theorem lw_p31 : lw_okq (⟨"SpongeDigests", "setCounter", "(I)V"⟩, 9) := ⟨⟨by decide +kernel, by decide +kernel⟩, List.mem_of_getElem? (i := 24) (by decide +kernel), List.mem_of_getElem? (i := 729) (by decide +kernel), List.mem_of_getElem? (i := 730) (by decide +kernel)⟩
def lw_privs_2 : List (MethodName × Nat) := [(⟨"SpongeDigests$BlockHash", "finish", "([BII)V"⟩, 14), (⟨"SpongeDigests$BlockHash", "writeState", "([BII)V"⟩, 14), (⟨"SpongeDigests", "hashInSponge", "(III)V"⟩, 9), (⟨"SpongeDigests$Sponge", "absorb", "(II[BI)V"⟩, 3), (⟨"SpongeDigests$Sponge", "mixIn", "(II)V"⟩, 3), (⟨"SpongeDigests$Sponge", "permute", "()V"⟩, 3), (⟨"SpongeDigests$Sponge", "mixColumns", "()V"⟩, 3), (⟨"SpongeDigests$Sponge", "turnAndMove", "()V"⟩, 3), (⟨"SpongeDigests$Sponge", "mixRows", "()V"⟩, 3), (⟨"SpongeDigests$Sponge", "squeeze", "(I[BI)V"⟩, 3), (⟨"SpongeDigests", "hashWithKey", "(LSpongeDigests$BlockHash;[J)V"⟩, 9), (⟨"SpongeDigests", "setKey", "(LSpongeDigests$BlockHash;[J)V"⟩, 9), (⟨"SpongeDigests", "beginWithKey", "(LSpongeDigests$BlockHash;[JI)V"⟩, 9), (⟨"SpongeDigests", "hashWithCounter", "(LSpongeDigests$BlockHash;[JI)V"⟩, 9), (⟨"SpongeDigests$BlockHash", "setMark", "()V"⟩, 14), (⟨"SpongeDigests", "setCounter", "(I)V"⟩, 9)]
theorem lw_r2 : ∀ q ∈ lw_privs_2, lw_okq q := List.forall_mem_cons.mpr ⟨lw_p16, List.forall_mem_cons.mpr ⟨lw_p17, List.forall_mem_cons.mpr ⟨lw_p18, List.forall_mem_cons.mpr ⟨lw_p19, List.forall_mem_cons.mpr ⟨lw_p20, List.forall_mem_cons.mpr ⟨lw_p21, List.forall_mem_cons.mpr ⟨lw_p22, List.forall_mem_cons.mpr ⟨lw_p23, List.forall_mem_cons.mpr ⟨lw_p24, List.forall_mem_cons.mpr ⟨lw_p25, List.forall_mem_cons.mpr ⟨lw_p26, List.forall_mem_cons.mpr ⟨lw_p27, List.forall_mem_cons.mpr ⟨lw_p28, List.forall_mem_cons.mpr ⟨lw_p29, List.forall_mem_cons.mpr ⟨lw_p30, List.forall_mem_cons.mpr ⟨lw_p31, fun _ h => absurd h List.not_mem_nil⟩⟩⟩⟩⟩⟩⟩⟩⟩⟩⟩⟩⟩⟩⟩⟩
theorem lw_p32 : lw_okq (⟨"SpongeDigests$BlockHash", "goToMark", "()V"⟩, 14) := ⟨⟨by decide +kernel, by decide +kernel⟩, List.mem_of_getElem? (i := 66) (by decide +kernel), List.mem_of_getElem? (i := 733) (by decide +kernel), List.mem_of_getElem? (i := 734) (by decide +kernel)⟩
theorem lw_p33 : lw_okq (⟨"SpongeDigestsModel", "constants", "()V"⟩, 24) := ⟨⟨by decide +kernel, by decide +kernel⟩, List.mem_of_getElem? (i := 737) (by decide +kernel), List.mem_of_getElem? (i := 745) (by decide +kernel), List.mem_of_getElem? (i := 746) (by decide +kernel)⟩
theorem lw_p34 : lw_okq (⟨"SpongeDigestsModel", "root", "(II)J"⟩, 24) := ⟨⟨by decide +kernel, by decide +kernel⟩, List.mem_of_getElem? (i := 737) (by decide +kernel), List.mem_of_getElem? (i := 752) (by decide +kernel), List.mem_of_getElem? (i := 753) (by decide +kernel)⟩
theorem lw_p35 : lw_okq (⟨"SpongeDigestsModel", "above", "(IJII)Z"⟩, 24) := ⟨⟨by decide +kernel, by decide +kernel⟩, List.mem_of_getElem? (i := 737) (by decide +kernel), List.mem_of_getElem? (i := 756) (by decide +kernel), List.mem_of_getElem? (i := 757) (by decide +kernel)⟩
theorem lw_p36 : lw_okq (⟨"SpongeDigestsModel", "named", "([JII)V"⟩, 24) := ⟨⟨by decide +kernel, by decide +kernel⟩, List.mem_of_getElem? (i := 737) (by decide +kernel), List.mem_of_getElem? (i := 764) (by decide +kernel), List.mem_of_getElem? (i := 765) (by decide +kernel)⟩
theorem lw_p37 : lw_okq (⟨"SpongeDigestsModel", "begin", "(I)V"⟩, 24) := ⟨⟨by decide +kernel, by decide +kernel⟩, List.mem_of_getElem? (i := 737) (by decide +kernel), List.mem_of_getElem? (i := 768) (by decide +kernel), List.mem_of_getElem? (i := 769) (by decide +kernel)⟩
theorem lw_p38 : lw_okq (⟨"SpongeDigestsModel", "put", "(I)V"⟩, 24) := ⟨⟨by decide +kernel, by decide +kernel⟩, List.mem_of_getElem? (i := 737) (by decide +kernel), List.mem_of_getElem? (i := 780) (by decide +kernel), List.mem_of_getElem? (i := 781) (by decide +kernel)⟩
theorem lw_p39 : lw_okq (⟨"SpongeDigestsModel", "sponge", "()Z"⟩, 24) := ⟨⟨by decide +kernel, by decide +kernel⟩, List.mem_of_getElem? (i := 737) (by decide +kernel), List.mem_of_getElem? (i := 784) (by decide +kernel), List.mem_of_getElem? (i := 785) (by decide +kernel)⟩
theorem lw_p40 : lw_okq (⟨"SpongeDigestsModel", "flip", "(II)V"⟩, 24) := ⟨⟨by decide +kernel, by decide +kernel⟩, List.mem_of_getElem? (i := 737) (by decide +kernel), List.mem_of_getElem? (i := 788) (by decide +kernel), List.mem_of_getElem? (i := 789) (by decide +kernel)⟩
theorem lw_p41 : lw_okq (⟨"SpongeDigestsModel", "permute", "()V"⟩, 24) := ⟨⟨by decide +kernel, by decide +kernel⟩, List.mem_of_getElem? (i := 737) (by decide +kernel), List.mem_of_getElem? (i := 793) (by decide +kernel), List.mem_of_getElem? (i := 794) (by decide +kernel)⟩
theorem lw_p42 : lw_okq (⟨"SpongeDigestsModel", "compress32", "()V"⟩, 24) := ⟨⟨by decide +kernel, by decide +kernel⟩, List.mem_of_getElem? (i := 737) (by decide +kernel), List.mem_of_getElem? (i := 801) (by decide +kernel), List.mem_of_getElem? (i := 802) (by decide +kernel)⟩
theorem lw_p43 : lw_okq (⟨"SpongeDigestsModel", "compress64", "()V"⟩, 24) := ⟨⟨by decide +kernel, by decide +kernel⟩, List.mem_of_getElem? (i := 737) (by decide +kernel), List.mem_of_getElem? (i := 808) (by decide +kernel), List.mem_of_getElem? (i := 809) (by decide +kernel)⟩
theorem lw_p44 : lw_okq (⟨"SpongeDigestsModel", "finish", "()V"⟩, 24) := ⟨⟨by decide +kernel, by decide +kernel⟩, List.mem_of_getElem? (i := 737) (by decide +kernel), List.mem_of_getElem? (i := 815) (by decide +kernel), List.mem_of_getElem? (i := 816) (by decide +kernel)⟩
theorem lw_p45 : lw_okq (⟨"SpongeDigestsModel", "good", "(ZI)Z"⟩, 24) := ⟨⟨by decide +kernel, by decide +kernel⟩, List.mem_of_getElem? (i := 737) (by decide +kernel), List.mem_of_getElem? (i := 902) (by decide +kernel), List.mem_of_getElem? (i := 903) (by decide +kernel)⟩
theorem lw_p46 : lw_okq (⟨"SpongeDigestsModel", "word", "(I)V"⟩, 24) := ⟨⟨by decide +kernel, by decide +kernel⟩, List.mem_of_getElem? (i := 737) (by decide +kernel), List.mem_of_getElem? (i := 906) (by decide +kernel), List.mem_of_getElem? (i := 907) (by decide +kernel)⟩
theorem lw_p47 : lw_okq (⟨"SpongeDigestsModel", "put", "([BII)V"⟩, 24) := ⟨⟨by decide +kernel, by decide +kernel⟩, List.mem_of_getElem? (i := 737) (by decide +kernel), List.mem_of_getElem? (i := 945) (by decide +kernel), List.mem_of_getElem? (i := 946) (by decide +kernel)⟩
def lw_privs_3 : List (MethodName × Nat) := [(⟨"SpongeDigests$BlockHash", "goToMark", "()V"⟩, 14), (⟨"SpongeDigestsModel", "constants", "()V"⟩, 24), (⟨"SpongeDigestsModel", "root", "(II)J"⟩, 24), (⟨"SpongeDigestsModel", "above", "(IJII)Z"⟩, 24), (⟨"SpongeDigestsModel", "named", "([JII)V"⟩, 24), (⟨"SpongeDigestsModel", "begin", "(I)V"⟩, 24), (⟨"SpongeDigestsModel", "put", "(I)V"⟩, 24), (⟨"SpongeDigestsModel", "sponge", "()Z"⟩, 24), (⟨"SpongeDigestsModel", "flip", "(II)V"⟩, 24), (⟨"SpongeDigestsModel", "permute", "()V"⟩, 24), (⟨"SpongeDigestsModel", "compress32", "()V"⟩, 24), (⟨"SpongeDigestsModel", "compress64", "()V"⟩, 24), (⟨"SpongeDigestsModel", "finish", "()V"⟩, 24), (⟨"SpongeDigestsModel", "good", "(ZI)Z"⟩, 24), (⟨"SpongeDigestsModel", "word", "(I)V"⟩, 24), (⟨"SpongeDigestsModel", "put", "([BII)V"⟩, 24)]
theorem lw_r3 : ∀ q ∈ lw_privs_3, lw_okq q := List.forall_mem_cons.mpr ⟨lw_p32, List.forall_mem_cons.mpr ⟨lw_p33, List.forall_mem_cons.mpr ⟨lw_p34, List.forall_mem_cons.mpr ⟨lw_p35, List.forall_mem_cons.mpr ⟨lw_p36, List.forall_mem_cons.mpr ⟨lw_p37, List.forall_mem_cons.mpr ⟨lw_p38, List.forall_mem_cons.mpr ⟨lw_p39, List.forall_mem_cons.mpr ⟨lw_p40, List.forall_mem_cons.mpr ⟨lw_p41, List.forall_mem_cons.mpr ⟨lw_p42, List.forall_mem_cons.mpr ⟨lw_p43, List.forall_mem_cons.mpr ⟨lw_p44, List.forall_mem_cons.mpr ⟨lw_p45, List.forall_mem_cons.mpr ⟨lw_p46, List.forall_mem_cons.mpr ⟨lw_p47, fun _ h => absurd h List.not_mem_nil⟩⟩⟩⟩⟩⟩⟩⟩⟩⟩⟩⟩⟩⟩⟩⟩
theorem lw_p48 : lw_okq (⟨"SpongeDigestsModel", "give", "([BII)V"⟩, 24) := ⟨⟨by decide +kernel, by decide +kernel⟩, List.mem_of_getElem? (i := 737) (by decide +kernel), List.mem_of_getElem? (i := 949) (by decide +kernel), List.mem_of_getElem? (i := 950) (by decide +kernel)⟩
theorem lw_p49 : lw_okq (⟨"SpongeDigestsModel", "squeeze", "()I"⟩, 24) := ⟨⟨by decide +kernel, by decide +kernel⟩, List.mem_of_getElem? (i := 737) (by decide +kernel), List.mem_of_getElem? (i := 953) (by decide +kernel), List.mem_of_getElem? (i := 954) (by decide +kernel)⟩
theorem lw_p50 : lw_okq (⟨"SpongeDigestsModel", "startMac", "(I[BII)V"⟩, 24) := ⟨⟨by decide +kernel, by decide +kernel⟩, List.mem_of_getElem? (i := 737) (by decide +kernel), List.mem_of_getElem? (i := 957) (by decide +kernel), List.mem_of_getElem? (i := 958) (by decide +kernel)⟩
theorem lw_p51 : lw_okq (⟨"SpongeDigestsModel", "endMac", "(I[BII)V"⟩, 24) := ⟨⟨by decide +kernel, by decide +kernel⟩, List.mem_of_getElem? (i := 737) (by decide +kernel), List.mem_of_getElem? (i := 964) (by decide +kernel), List.mem_of_getElem? (i := 965) (by decide +kernel)⟩
theorem lw_p52 : lw_okq (⟨"SpongeDigestsModel", "mask", "(I[BI[BII)V"⟩, 24) := ⟨⟨by decide +kernel, by decide +kernel⟩, List.mem_of_getElem? (i := 737) (by decide +kernel), List.mem_of_getElem? (i := 968) (by decide +kernel), List.mem_of_getElem? (i := 969) (by decide +kernel)⟩
def lw_privs_4 : List (MethodName × Nat) := [(⟨"SpongeDigestsModel", "give", "([BII)V"⟩, 24), (⟨"SpongeDigestsModel", "squeeze", "()I"⟩, 24), (⟨"SpongeDigestsModel", "startMac", "(I[BII)V"⟩, 24), (⟨"SpongeDigestsModel", "endMac", "(I[BII)V"⟩, 24), (⟨"SpongeDigestsModel", "mask", "(I[BI[BII)V"⟩, 24)]
theorem lw_r4 : ∀ q ∈ lw_privs_4, lw_okq q := List.forall_mem_cons.mpr ⟨lw_p48, List.forall_mem_cons.mpr ⟨lw_p49, List.forall_mem_cons.mpr ⟨lw_p50, List.forall_mem_cons.mpr ⟨lw_p51, List.forall_mem_cons.mpr ⟨lw_p52, fun _ h => absurd h List.not_mem_nil⟩⟩⟩⟩⟩
def lw_privs : List (MethodName × Nat) := lw_privs_1 ++ (lw_privs_2 ++ (lw_privs_3 ++ (lw_privs_4)))
def lw_tbl : List Cond := k2_sels lw_privs ++ tables_1
theorem lw_privs_ok : ∀ q ∈ lw_privs, lw_okq q := by
  show ∀ q ∈ lw_privs_1 ++ (lw_privs_2 ++ (lw_privs_3 ++ (lw_privs_4))), lw_okq q
  exact List.forall_mem_append.mpr ⟨lw_r1, List.forall_mem_append.mpr ⟨lw_r2, List.forall_mem_append.mpr ⟨lw_r3, lw_r4⟩⟩⟩
end
section
def R_H : String := "SpongeDigests$BlockHash"
def T_H : u_T := fun k => match k with
  | 0 => ("SpongeDigests$BlockHash", "wordBytes", "I", true)
  | 1 => ("SpongeDigests$BlockHash", "wordBits", "I", true)
  | 2 => ("SpongeDigests$BlockHash", "rounds", "I", true)
  | 3 => ("SpongeDigests$BlockHash", "distances", "[I", true)
  | 4 => ("SpongeDigests$BlockHash", "mask", "J", true)
  | 5 => ("SpongeDigests$BlockHash", "blockBytes", "I", true)
  | 6 => ("SpongeDigests$BlockHash", "resultBytes", "I", true)
  | 7 => ("SpongeDigests$BlockHash", "block", "[B", true)
  | 8 => ("SpongeDigests$BlockHash", "state", "[J", true)
  | 9 => ("SpongeDigests$BlockHash", "schedule", "[J", true)
  | 10 => ("SpongeDigests$BlockHash", "markedState", "[J", true)
  | 11 => ("SpongeDigests$BlockHash", "filled", "I", false)
  | 12 => ("SpongeDigests$BlockHash", "total", "J", false)
  | _ => ("SpongeDigests$BlockHash", "markedTotal", "J", false)
def ty_H : Nat → FieldType := fun k => match k with
  | 0 => .int
  | 1 => .int
  | 2 => .int
  | 3 => .array .int
  | 4 => .long
  | 5 => .int
  | 6 => .int
  | 7 => .array .byte
  | 8 => .array .long
  | 9 => .array .long
  | 10 => .array .long
  | 11 => .int
  | 12 => .long
  | _ => .long
theorem nm_H : ∀ a, a < 14 → ∀ b, b < 14 → a ≠ b → (T_H a).2.1 ≠ (T_H b).2.1 := by decide +kernel
theorem ok_H : ∀ k, k < 14 → parseFieldDescriptor (T_H k).2.2.1 = some (ty_H k) := by decide +kernel
def R_Y : String := "SpongeDigests$Bytes"
def T_Y : u_T := fun k => match k with
  | 0 => ("SpongeDigests$Bytes", "data", "[B", true)
  | _ => ("SpongeDigests$Bytes", "size", "I", false)
def ty_Y : Nat → FieldType := fun k => match k with
  | 0 => .array .byte
  | _ => .int
theorem nm_Y : ∀ a, a < 2 → ∀ b, b < 2 → a ≠ b → (T_Y a).2.1 ≠ (T_Y b).2.1 := by decide +kernel
theorem ok_Y : ∀ k, k < 2 → parseFieldDescriptor (T_Y k).2.2.1 = some (ty_Y k) := by decide +kernel
def R_P : String := "SpongeDigests$Sponge"
def T_P : u_T := fun k => match k with
  | 0 => ("SpongeDigests$Sponge", "lanes", "[J", true)
  | 1 => ("SpongeDigests$Sponge", "moved", "[J", true)
  | _ => ("SpongeDigests$Sponge", "columns", "[J", true)
def ty_P : Nat → FieldType := fun k => match k with
  | 0 => .array .long
  | 1 => .array .long
  | _ => .array .long
theorem nm_P : ∀ a, a < 3 → ∀ b, b < 3 → a ≠ b → (T_P a).2.1 ≠ (T_P b).2.1 := by decide +kernel
theorem ok_P : ∀ k, k < 3 → parseFieldDescriptor (T_P k).2.2.1 = some (ty_P k) := by decide +kernel
def R_D : String := "SpongeDigests"
def T_D : u_T := fun k => match k with
  | 0 => ("SpongeDigests", "slots", "[LSpongeDigests$Bytes;", true)
  | 1 => ("SpongeDigests", "tape", "LSpongeDigests$Bytes;", true)
  | 2 => ("SpongeDigests", "sponge", "LSpongeDigests$Sponge;", true)
  | 3 => ("SpongeDigests", "hash256", "LSpongeDigests$BlockHash;", true)
  | 4 => ("SpongeDigests", "hash512", "LSpongeDigests$BlockHash;", true)
  | 5 => ("SpongeDigests", "key", "[B", true)
  | 6 => ("SpongeDigests", "padded", "[B", true)
  | 7 => ("SpongeDigests", "inner", "[B", true)
  | _ => ("SpongeDigests", "counter", "[B", true)
def ty_D : Nat → FieldType := fun k => match k with
  | 0 => .array (.object "SpongeDigests$Bytes")
  | 1 => .object "SpongeDigests$Bytes"
  | 2 => .object "SpongeDigests$Sponge"
  | 3 => .object "SpongeDigests$BlockHash"
  | 4 => .object "SpongeDigests$BlockHash"
  | 5 => .array .byte
  | 6 => .array .byte
  | 7 => .array .byte
  | _ => .array .byte
theorem nm_D : ∀ a, a < 9 → ∀ b, b < 9 → a ≠ b → (T_D a).2.1 ≠ (T_D b).2.1 := by decide +kernel
theorem ok_D : ∀ k, k < 9 → parseFieldDescriptor (T_D k).2.2.1 = some (ty_D k) := by decide +kernel
def R_O : String := "SpongeDigestsModel"
def T_O : u_T := fun k => match k with
  | 0 => ("SpongeDigestsModel", "tape", "[B", true)
  | 1 => ("SpongeDigestsModel", "slot", "[[B", true)
  | 2 => ("SpongeDigestsModel", "length", "[I", true)
  | 3 => ("SpongeDigestsModel", "taped", "I", false)
  | 4 => ("SpongeDigestsModel", "code", "I", false)
  | 5 => ("SpongeDigestsModel", "roots", "[J", true)
  | 6 => ("SpongeDigestsModel", "cubes", "[J", true)
  | 7 => ("SpongeDigestsModel", "start224", "[J", true)
  | 8 => ("SpongeDigestsModel", "start256", "[J", true)
  | 9 => ("SpongeDigestsModel", "limbs", "[J", true)
  | 10 => ("SpongeDigestsModel", "product", "[J", true)
  | 11 => ("SpongeDigestsModel", "turns", "[I", true)
  | 12 => ("SpongeDigestsModel", "round", "[J", true)
  | 13 => ("SpongeDigestsModel", "state", "[J", true)
  | 14 => ("SpongeDigestsModel", "other", "[J", true)
  | 15 => ("SpongeDigestsModel", "column", "[J", true)
  | 16 => ("SpongeDigestsModel", "words", "[J", true)
  | 17 => ("SpongeDigestsModel", "block", "[B", true)
  | 18 => ("SpongeDigestsModel", "kind", "I", false)
  | 19 => ("SpongeDigestsModel", "rate", "I", false)
  | 20 => ("SpongeDigestsModel", "filled", "I", false)
  | 21 => ("SpongeDigestsModel", "total", "J", false)
  | 22 => ("SpongeDigestsModel", "hashKey", "[B", true)
  | _ => ("SpongeDigestsModel", "inner", "[B", true)
def ty_O : Nat → FieldType := fun k => match k with
  | 0 => .array .byte
  | 1 => .array (.array .byte)
  | 2 => .array .int
  | 3 => .int
  | 4 => .int
  | 5 => .array .long
  | 6 => .array .long
  | 7 => .array .long
  | 8 => .array .long
  | 9 => .array .long
  | 10 => .array .long
  | 11 => .array .int
  | 12 => .array .long
  | 13 => .array .long
  | 14 => .array .long
  | 15 => .array .long
  | 16 => .array .long
  | 17 => .array .byte
  | 18 => .int
  | 19 => .int
  | 20 => .int
  | 21 => .long
  | 22 => .array .byte
  | _ => .array .byte
theorem nm_O : ∀ a, a < 24 → ∀ b, b < 24 → a ≠ b → (T_O a).2.1 ≠ (T_O b).2.1 := by decide +kernel
theorem ok_O : ∀ k, k < 24 → parseFieldDescriptor (T_O k).2.2.1 = some (ty_O k) := by decide +kernel
def R_L : String := "SpongeDigestsLaw"
abbrev classes : List vw_C := [(R_H, T_H, 14), (R_Y, T_Y, 2), (R_P, T_P, 3), (R_D, T_D, 9), (R_O, T_O, 24)]
def W0 : List Cond := lw_tbl.filter goodWord
theorem W0_i {i : Nat} {w : Cond} (h : tables_1[i]? = some w) (hg : goodWord w = true) : w ∈ W0 := List.mem_filter.mpr ⟨List.mem_append_right _ (List.mem_of_getElem? h), hg⟩
theorem W0_p {i : Nat} {w : Cond} (h : (k2_sels lw_privs)[i]? = some w) (hg : goodWord w = true) : w ∈ W0 := List.mem_filter.mpr ⟨List.mem_append_left _ (List.mem_of_getElem? h), hg⟩
theorem W0_c {c : List Cond} (hs : ∀ w ∈ c, w ∈ tables_1) {i : Nat} {w : Cond} (h : c[i]? = some w) (hg : goodWord w = true) : w ∈ W0 := List.mem_filter.mpr ⟨List.mem_append_right _ (hs w (List.mem_of_getElem? h)), hg⟩
theorem tk_1 : ∀ w ∈ tables_1_1, w ∈ tables_1 := fun w h => List.mem_append_left _ h
theorem tk_2 : ∀ w ∈ tables_1_2, w ∈ tables_1 := fun w h => List.mem_append_right _ (List.mem_append_left _ h)
theorem tk_3 : ∀ w ∈ tables_1_3, w ∈ tables_1 := fun w h => List.mem_append_right _ (List.mem_append_right _ (List.mem_append_left _ h))
theorem tk_4 : ∀ w ∈ tables_1_4, w ∈ tables_1 := fun w h => List.mem_append_right _ (List.mem_append_right _ (List.mem_append_right _ (List.mem_append_left _ h)))
theorem tk_5 : ∀ w ∈ tables_1_5, w ∈ tables_1 := fun w h => List.mem_append_right _ (List.mem_append_right _ (List.mem_append_right _ (List.mem_append_right _ (h))))
theorem in_H : ∀ w ∈ u_ws R_H T_H 14, w ∈ W0 := by decide +kernel
theorem in_Y : ∀ w ∈ u_ws R_Y T_Y 2, w ∈ W0 := by decide +kernel
theorem in_P : ∀ w ∈ u_ws R_P T_P 3, w ∈ W0 := by decide +kernel
theorem in_D : ∀ w ∈ u_ws R_D T_D 9, w ∈ W0 := by decide +kernel
theorem in_O : ∀ w ∈ u_ws R_O T_O 24, w ∈ W0 := by decide +kernel
def nestWords : List Cond := [(Jvm.Cond.methodLinkNest "SpongeDigests" (15 : Nat) ({ cls := "SpongeDigests$Bytes", name := "<init>", desc := "()V" } : Jvm.MethodName) "SpongeDigests"), (Jvm.Cond.fieldLinkNest "SpongeDigests" (100 : Nat) "SpongeDigests$Bytes" "data" "[B" "SpongeDigests"), (Jvm.Cond.fieldLinkNest "SpongeDigests" (66 : Nat) "SpongeDigests$Bytes" "size" "I" "SpongeDigests"), (Jvm.Cond.methodLinkNest "SpongeDigests" (22 : Nat) ({ cls := "SpongeDigests$Sponge", name := "<init>", desc := "()V" } : Jvm.MethodName) "SpongeDigests"), (Jvm.Cond.methodLinkNest "SpongeDigests" (33 : Nat) ({ cls := "SpongeDigests$BlockHash", name := "<init>", desc := "(II[I)V" } : Jvm.MethodName) "SpongeDigests"), (Jvm.Cond.fieldLinkNest "SpongeDigests" (46 : Nat) "SpongeDigests$BlockHash" "blockBytes" "I" "SpongeDigests"), (Jvm.Cond.fieldLinkNest "SpongeDigests" (57 : Nat) "SpongeDigests$BlockHash" "resultBytes" "I" "SpongeDigests"), (Jvm.Cond.methodLinkNest "SpongeDigests" (76 : Nat) ({ cls := "SpongeDigests$Bytes", name := "append", desc := "(I)V" } : Jvm.MethodName) "SpongeDigests"), (Jvm.Cond.methodLinkNest "SpongeDigests" (90 : Nat) ({ cls := "SpongeDigests$Bytes", name := "take", desc := "(LSpongeDigests$Bytes;I)V" } : Jvm.MethodName) "SpongeDigests"), (Jvm.Cond.methodLinkNest "SpongeDigests" (94 : Nat) ({ cls := "SpongeDigests$Bytes", name := "cutOrFill", desc := "(I)V" } : Jvm.MethodName) "SpongeDigests"), (Jvm.Cond.methodLinkNest "SpongeDigests" (103 : Nat) ({ cls := "SpongeDigests$Bytes", name := "eightFrom", desc := "(I)J" } : Jvm.MethodName) "SpongeDigests"), (Jvm.Cond.methodLinkNest "SpongeDigests" (107 : Nat) ({ cls := "SpongeDigests$Bytes", name := "matches", desc := "(LSpongeDigests$Bytes;)Z" } : Jvm.MethodName) "SpongeDigests"), (Jvm.Cond.methodLinkNest "SpongeDigests" (151 : Nat) ({ cls := "SpongeDigests$BlockHash", name := "begin", desc := "([J)V" } : Jvm.MethodName) "SpongeDigests"), (Jvm.Cond.methodLinkNest "SpongeDigests" (155 : Nat) ({ cls := "SpongeDigests$BlockHash", name := "absorb", desc := "([BII)V" } : Jvm.MethodName) "SpongeDigests"), (Jvm.Cond.fieldLinkNest "SpongeDigests$BlockHash" (84 : Nat) "SpongeDigests" "CUBE_ROOTS" "[J" "SpongeDigests"), (Jvm.Cond.methodLinkNest "SpongeDigests" (159 : Nat) ({ cls := "SpongeDigests$BlockHash", name := "finish", desc := "([BII)V" } : Jvm.MethodName) "SpongeDigests"), (Jvm.Cond.methodLinkNest "SpongeDigests" (162 : Nat) ({ cls := "SpongeDigests$Sponge", name := "absorb", desc := "(II[BI)V" } : Jvm.MethodName) "SpongeDigests"), (Jvm.Cond.fieldLinkNest "SpongeDigests$Sponge" (50 : Nat) "SpongeDigests" "LANE_TARGETS" "[I" "SpongeDigests"), (Jvm.Cond.fieldLinkNest "SpongeDigests$Sponge" (54 : Nat) "SpongeDigests" "LANE_TURNS" "[I" "SpongeDigests"), (Jvm.Cond.fieldLinkNest "SpongeDigests$Sponge" (43 : Nat) "SpongeDigests" "ROUND_CONSTANTS" "[J" "SpongeDigests"), (Jvm.Cond.methodLinkNest "SpongeDigests" (165 : Nat) ({ cls := "SpongeDigests$Sponge", name := "squeeze", desc := "(I[BI)V" } : Jvm.MethodName) "SpongeDigests"), (Jvm.Cond.methodLinkNest "SpongeDigests" (187 : Nat) ({ cls := "SpongeDigests$BlockHash", name := "setMark", desc := "()V" } : Jvm.MethodName) "SpongeDigests"), (Jvm.Cond.methodLinkNest "SpongeDigests" (199 : Nat) ({ cls := "SpongeDigests$BlockHash", name := "goToMark", desc := "()V" } : Jvm.MethodName) "SpongeDigests")]
theorem wd_0 : (Jvm.Cond.initialized "SpongeDigestsLaw") ∈ W0 := W0_c tk_1 (i := 0) rfl rfl
theorem wd_1 : (Jvm.Cond.initialized "SpongeDigests") ∈ W0 := W0_c tk_1 (i := 1) rfl rfl
theorem wd_2 : (Jvm.Cond.initialized "SpongeDigests$Bytes") ∈ W0 := W0_c tk_1 (i := 2) rfl rfl
theorem wd_3 : (Jvm.Cond.initialized "SpongeDigests$Sponge") ∈ W0 := W0_c tk_1 (i := 3) rfl rfl
theorem wd_4 : (Jvm.Cond.initialized "SpongeDigests$BlockHash") ∈ W0 := W0_c tk_1 (i := 4) rfl rfl
theorem wd_5 : (Jvm.Cond.initialized "SpongeDigestsModel") ∈ W0 := W0_c tk_1 (i := 5) rfl rfl
theorem wd_9 : (Jvm.Cond.initialized "java/lang/IndexOutOfBoundsException") ∈ W0 := W0_c tk_1 (i := 9) rfl rfl
theorem wd_10 : (Jvm.Cond.initialized "java/lang/IllegalArgumentException") ∈ W0 := W0_c tk_1 (i := 10) rfl rfl
theorem wd_11 : (Jvm.Cond.initialized "java/lang/System") ∈ W0 := W0_c tk_1 (i := 11) rfl rfl
theorem wd_12 : (Jvm.Cond.initialized "java/util/Arrays") ∈ W0 := W0_c tk_1 (i := 12) rfl rfl
theorem wd_18 : (Jvm.Cond.initialized "java/lang/Math") ∈ W0 := W0_c tk_1 (i := 18) rfl rfl
theorem wd_23 : (Jvm.Cond.classLink "SpongeDigestsLaw" (8 : Nat) "SpongeDigests") ∈ W0 := W0_c tk_1 (i := 23) rfl rfl
theorem wd_24 : (Jvm.Cond.instantiable "SpongeDigests" (9 : Nat)) ∈ W0 := W0_c tk_1 (i := 24) rfl rfl
theorem wd_25 : (Jvm.Cond.methodLink "SpongeDigestsLaw" (46 : Nat) ({ cls := "SpongeDigests", name := "<init>", desc := "()V" } : Jvm.MethodName)) ∈ W0 := W0_c tk_1 (i := 25) rfl rfl
theorem wd_26 : (Jvm.Cond.instanceMethod ({ cls := "SpongeDigests", name := "<init>", desc := "()V" } : Jvm.MethodName)) ∈ W0 := W0_c tk_1 (i := 26) rfl rfl
theorem wd_27 : (Jvm.Cond.code ({ cls := "SpongeDigests", name := "<init>", desc := "()V" } : Jvm.MethodName) prog_1_method_1_code (2 : Nat) (Option.none : Option Jvm.ClassFile.FieldType)) ∈ W0 := W0_c tk_1 (i := 27) rfl rfl
theorem wd_28 : (Jvm.Cond.methodLink "SpongeDigests" (3 : Nat) ({ cls := "java/lang/Object", name := "<init>", desc := "()V" } : Jvm.MethodName)) ∈ W0 := W0_c tk_1 (i := 28) rfl rfl
theorem wd_29 : (Jvm.Cond.instanceMethod ({ cls := "java/lang/Object", name := "<init>", desc := "()V" } : Jvm.MethodName)) ∈ W0 := W0_c tk_1 (i := 29) rfl rfl
theorem wd_30 : (Jvm.Cond.code ({ cls := "java/lang/Object", name := "<init>", desc := "()V" } : Jvm.MethodName) object_method_1_code (1 : Nat) (Option.none : Option Jvm.ClassFile.FieldType)) ∈ W0 := W0_c tk_1 (i := 30) rfl rfl
theorem wd_31 : (Jvm.Cond.classLink "SpongeDigests" (9 : Nat) "SpongeDigests$Bytes") ∈ W0 := W0_c tk_1 (i := 31) rfl rfl
theorem wd_33 : (Jvm.Cond.instantiable "SpongeDigests$Bytes" (2 : Nat)) ∈ W0 := W0_c tk_1 (i := 33) rfl rfl
theorem wd_35 : (Jvm.Cond.instanceMethod ({ cls := "SpongeDigests$Bytes", name := "<init>", desc := "()V" } : Jvm.MethodName)) ∈ W0 := W0_c tk_1 (i := 35) rfl rfl
theorem wd_36 : (Jvm.Cond.code ({ cls := "SpongeDigests$Bytes", name := "<init>", desc := "()V" } : Jvm.MethodName) prog_3_method_1_code (1 : Nat) (Option.none : Option Jvm.ClassFile.FieldType)) ∈ W0 := W0_c tk_1 (i := 36) rfl rfl
theorem wd_37 : (Jvm.Cond.methodLink "SpongeDigests$Bytes" (3 : Nat) ({ cls := "java/lang/Object", name := "<init>", desc := "()V" } : Jvm.MethodName)) ∈ W0 := W0_c tk_1 (i := 37) rfl rfl
theorem wd_38 : (Jvm.Cond.fieldLink "SpongeDigests$Bytes" (9 : Nat) "SpongeDigests$Bytes" "data" "[B") ∈ W0 := W0_c tk_1 (i := 38) rfl rfl
theorem wd_41 : (Jvm.Cond.fieldLink "SpongeDigests$Bytes" (15 : Nat) "SpongeDigests$Bytes" "size" "I") ∈ W0 := W0_c tk_1 (i := 41) rfl rfl
theorem wd_47 : (Jvm.Cond.arrayClass Jvm.ClassFile.FieldType.byte) ∈ W0 := W0_c tk_1 (i := 47) rfl rfl
theorem wd_48 : (Jvm.Cond.classLink "SpongeDigests" (20 : Nat) "SpongeDigests$Sponge") ∈ W0 := W0_c tk_1 (i := 48) rfl rfl
theorem wd_49 : (Jvm.Cond.instantiable "SpongeDigests$Sponge" (3 : Nat)) ∈ W0 := W0_c tk_1 (i := 49) rfl rfl
theorem wd_51 : (Jvm.Cond.instanceMethod ({ cls := "SpongeDigests$Sponge", name := "<init>", desc := "()V" } : Jvm.MethodName)) ∈ W0 := W0_c tk_1 (i := 51) rfl rfl
theorem wd_52 : (Jvm.Cond.code ({ cls := "SpongeDigests$Sponge", name := "<init>", desc := "()V" } : Jvm.MethodName) prog_4_method_1_code (1 : Nat) (Option.none : Option Jvm.ClassFile.FieldType)) ∈ W0 := W0_c tk_1 (i := 52) rfl rfl
theorem wd_53 : (Jvm.Cond.methodLink "SpongeDigests$Sponge" (3 : Nat) ({ cls := "java/lang/Object", name := "<init>", desc := "()V" } : Jvm.MethodName)) ∈ W0 := W0_c tk_1 (i := 53) rfl rfl
theorem wd_54 : (Jvm.Cond.fieldLink "SpongeDigests$Sponge" (9 : Nat) "SpongeDigests$Sponge" "lanes" "[J") ∈ W0 := W0_c tk_1 (i := 54) rfl rfl
theorem wd_55 : (Jvm.Cond.fieldLink "SpongeDigests$Sponge" (15 : Nat) "SpongeDigests$Sponge" "moved" "[J") ∈ W0 := W0_c tk_1 (i := 55) rfl rfl
theorem wd_56 : (Jvm.Cond.fieldLink "SpongeDigests$Sponge" (18 : Nat) "SpongeDigests$Sponge" "columns" "[J") ∈ W0 := W0_c tk_1 (i := 56) rfl rfl
theorem wd_64 : (Jvm.Cond.arrayClass Jvm.ClassFile.FieldType.long) ∈ W0 := W0_c tk_1 (i := 64) rfl rfl
theorem wd_65 : (Jvm.Cond.classLink "SpongeDigests" (27 : Nat) "SpongeDigests$BlockHash") ∈ W0 := W0_c tk_1 (i := 65) rfl rfl
theorem wd_66 : (Jvm.Cond.instantiable "SpongeDigests$BlockHash" (14 : Nat)) ∈ W0 := W0_c tk_1 (i := 66) rfl rfl
theorem wd_67 : (Jvm.Cond.fieldLink "SpongeDigests" (29 : Nat) "SpongeDigests" "DISTANCES_256" "[I") ∈ W0 := W0_c tk_1 (i := 67) rfl rfl
theorem wd_70 : (Jvm.Cond.instanceMethod ({ cls := "SpongeDigests$BlockHash", name := "<init>", desc := "(II[I)V" } : Jvm.MethodName)) ∈ W0 := W0_c tk_1 (i := 70) rfl rfl
theorem wd_71 : (Jvm.Cond.code ({ cls := "SpongeDigests$BlockHash", name := "<init>", desc := "(II[I)V" } : Jvm.MethodName) prog_2_method_1_code (4 : Nat) (Option.none : Option Jvm.ClassFile.FieldType)) ∈ W0 := W0_c tk_1 (i := 71) rfl rfl
theorem wd_72 : (Jvm.Cond.methodLink "SpongeDigests$BlockHash" (3 : Nat) ({ cls := "java/lang/Object", name := "<init>", desc := "()V" } : Jvm.MethodName)) ∈ W0 := W0_c tk_1 (i := 72) rfl rfl
theorem wd_73 : (Jvm.Cond.constantLong "SpongeDigests$BlockHash" (25 : Nat) (-1 : Int64)) ∈ W0 := W0_c tk_1 (i := 73) rfl rfl
theorem wd_74 : (Jvm.Cond.fieldLink "SpongeDigests$BlockHash" (9 : Nat) "SpongeDigests$BlockHash" "wordBytes" "I") ∈ W0 := W0_c tk_1 (i := 74) rfl rfl
theorem wd_75 : (Jvm.Cond.fieldLink "SpongeDigests$BlockHash" (22 : Nat) "SpongeDigests$BlockHash" "wordBits" "I") ∈ W0 := W0_c tk_1 (i := 75) rfl rfl
theorem wd_76 : (Jvm.Cond.fieldLink "SpongeDigests$BlockHash" (15 : Nat) "SpongeDigests$BlockHash" "rounds" "I") ∈ W0 := W0_c tk_1 (i := 76) rfl rfl
theorem wd_77 : (Jvm.Cond.fieldLink "SpongeDigests$BlockHash" (18 : Nat) "SpongeDigests$BlockHash" "distances" "[I") ∈ W0 := W0_c tk_1 (i := 77) rfl rfl
theorem wd_78 : (Jvm.Cond.fieldLink "SpongeDigests$BlockHash" (27 : Nat) "SpongeDigests$BlockHash" "mask" "J") ∈ W0 := W0_c tk_1 (i := 78) rfl rfl
theorem wd_79 : (Jvm.Cond.fieldLink "SpongeDigests$BlockHash" (31 : Nat) "SpongeDigests$BlockHash" "blockBytes" "I") ∈ W0 := W0_c tk_1 (i := 79) rfl rfl
theorem wd_81 : (Jvm.Cond.fieldLink "SpongeDigests$BlockHash" (34 : Nat) "SpongeDigests$BlockHash" "resultBytes" "I") ∈ W0 := W0_c tk_1 (i := 81) rfl rfl
theorem wd_83 : (Jvm.Cond.fieldLink "SpongeDigests$BlockHash" (37 : Nat) "SpongeDigests$BlockHash" "block" "[B") ∈ W0 := W0_c tk_1 (i := 83) rfl rfl
theorem wd_84 : (Jvm.Cond.fieldLink "SpongeDigests$BlockHash" (41 : Nat) "SpongeDigests$BlockHash" "state" "[J") ∈ W0 := W0_c tk_1 (i := 84) rfl rfl
theorem wd_85 : (Jvm.Cond.fieldLink "SpongeDigests$BlockHash" (45 : Nat) "SpongeDigests$BlockHash" "schedule" "[J") ∈ W0 := W0_c tk_1 (i := 85) rfl rfl
theorem wd_86 : (Jvm.Cond.fieldLink "SpongeDigests$BlockHash" (48 : Nat) "SpongeDigests$BlockHash" "markedState" "[J") ∈ W0 := W0_c tk_1 (i := 86) rfl rfl
theorem wd_87 : (Jvm.Cond.fieldLink "SpongeDigests$BlockHash" (57 : Nat) "SpongeDigests$BlockHash" "filled" "I") ∈ W0 := W0_c tk_1 (i := 87) rfl rfl
theorem wd_88 : (Jvm.Cond.fieldLink "SpongeDigests$BlockHash" (60 : Nat) "SpongeDigests$BlockHash" "total" "J") ∈ W0 := W0_c tk_1 (i := 88) rfl rfl
theorem wd_89 : (Jvm.Cond.fieldLink "SpongeDigests$BlockHash" (66 : Nat) "SpongeDigests$BlockHash" "markedTotal" "J") ∈ W0 := W0_c tk_1 (i := 89) rfl rfl
theorem wd_119 : (Jvm.Cond.fieldLink "SpongeDigests" (40 : Nat) "SpongeDigests" "DISTANCES_512" "[I") ∈ W0 := W0_c tk_1 (i := 119) rfl rfl
theorem wd_121 : (Jvm.Cond.fieldLink "SpongeDigests" (11 : Nat) "SpongeDigests" "slots" "[LSpongeDigests$Bytes;") ∈ W0 := W0_c tk_1 (i := 121) rfl rfl
theorem wd_122 : (Jvm.Cond.fieldLink "SpongeDigests" (16 : Nat) "SpongeDigests" "tape" "LSpongeDigests$Bytes;") ∈ W0 := W0_c tk_1 (i := 122) rfl rfl
theorem wd_123 : (Jvm.Cond.fieldLink "SpongeDigests" (23 : Nat) "SpongeDigests" "sponge" "LSpongeDigests$Sponge;") ∈ W0 := W0_c tk_1 (i := 123) rfl rfl
theorem wd_124 : (Jvm.Cond.fieldLink "SpongeDigests" (36 : Nat) "SpongeDigests" "hash256" "LSpongeDigests$BlockHash;") ∈ W0 := W0_c tk_1 (i := 124) rfl rfl
theorem wd_125 : (Jvm.Cond.fieldLink "SpongeDigests" (43 : Nat) "SpongeDigests" "hash512" "LSpongeDigests$BlockHash;") ∈ W0 := W0_c tk_1 (i := 125) rfl rfl
theorem wd_126 : (Jvm.Cond.fieldLink "SpongeDigests" (50 : Nat) "SpongeDigests" "key" "[B") ∈ W0 := W0_c tk_1 (i := 126) rfl rfl
theorem wd_127 : (Jvm.Cond.fieldLink "SpongeDigests" (54 : Nat) "SpongeDigests" "padded" "[B") ∈ W0 := W0_c tk_1 (i := 127) rfl rfl
theorem wd_128 : (Jvm.Cond.fieldLink "SpongeDigests" (60 : Nat) "SpongeDigests" "inner" "[B") ∈ W0 := W0_c tk_1 (i := 128) rfl rfl
theorem wd_129 : (Jvm.Cond.fieldLink "SpongeDigests" (63 : Nat) "SpongeDigests" "counter" "[B") ∈ W0 := W0_c tk_1 (i := 129) rfl rfl
theorem wd_149 : (Jvm.Cond.methodLink "SpongeDigestsLaw" (50 : Nat) ({ cls := "SpongeDigestsLaw", name := "feed", desc := "(LSpongeDigests;IIIII[J)I" } : Jvm.MethodName)) ∈ W0 := W0_c tk_1 (i := 149) rfl rfl
theorem wd_150 : (Jvm.Cond.static ({ cls := "SpongeDigestsLaw", name := "feed", desc := "(LSpongeDigests;IIIII[J)I" } : Jvm.MethodName)) ∈ W0 := W0_c tk_1 (i := 150) rfl rfl
theorem wd_151 : (Jvm.Cond.codeWith ({ cls := "SpongeDigestsLaw", name := "feed", desc := "(LSpongeDigests;IIIII[J)I" } : Jvm.MethodName) method_3_code (8 : Nat) (Option.some Jvm.ClassFile.FieldType.int) [((0 : Nat), (16 : Nat), (19 : Nat), (13 : Nat))]) ∈ W0 := W0_c tk_1 (i := 151) rfl rfl
theorem wd_152 : (Jvm.Cond.classLink "SpongeDigestsLaw" (13 : Nat) "java/lang/IndexOutOfBoundsException") ∈ W0 := W0_c tk_1 (i := 152) rfl rfl
theorem wd_153 : (Jvm.Cond.methodLink "SpongeDigestsLaw" (7 : Nat) ({ cls := "SpongeDigests", name := "feed", desc := "(IIIII)I" } : Jvm.MethodName)) ∈ W0 := W0_c tk_1 (i := 153) rfl rfl
theorem wd_154 : (Jvm.Cond.instanceMethod ({ cls := "SpongeDigests", name := "feed", desc := "(IIIII)I" } : Jvm.MethodName)) ∈ W0 := W0_c tk_1 (i := 154) rfl rfl
theorem wd_155 : (Jvm.Cond.selects "SpongeDigests" ({ cls := "SpongeDigests", name := "feed", desc := "(IIIII)I" } : Jvm.MethodName) ({ cls := "SpongeDigests", name := "feed", desc := "(IIIII)I" } : Jvm.MethodName)) ∈ W0 := W0_c tk_1 (i := 155) rfl rfl
theorem wd_156 : (Jvm.Cond.code ({ cls := "SpongeDigests", name := "feed", desc := "(IIIII)I" } : Jvm.MethodName) prog_1_method_2_code (6 : Nat) (Option.some Jvm.ClassFile.FieldType.int)) ∈ W0 := W0_c tk_1 (i := 156) rfl rfl
theorem wd_157 : (Jvm.Cond.classLink "SpongeDigests" (69 : Nat) "java/lang/IndexOutOfBoundsException") ∈ W0 := W0_c tk_1 (i := 157) rfl rfl
theorem wd_199 : (Jvm.Cond.methodLink "SpongeDigests" (73 : Nat) ({ cls := "java/lang/IndexOutOfBoundsException", name := "<init>", desc := "(Ljava/lang/String;)V" } : Jvm.MethodName)) ∈ W0 := W0_c tk_1 (i := 199) rfl rfl
theorem wd_226 : (Jvm.Cond.instanceMethod ({ cls := "SpongeDigests$Bytes", name := "append", desc := "(I)V" } : Jvm.MethodName)) ∈ W0 := W0_c tk_1 (i := 226) rfl rfl
theorem wd_227 : (Jvm.Cond.code ({ cls := "SpongeDigests$Bytes", name := "append", desc := "(I)V" } : Jvm.MethodName) prog_3_method_2_code (3 : Nat) (Option.none : Option Jvm.ClassFile.FieldType)) ∈ W0 := W0_c tk_1 (i := 227) rfl rfl
theorem wd_228 : (Jvm.Cond.methodLink "SpongeDigestsLaw" (60 : Nat) ({ cls := "SpongeDigestsLaw", name := "end", desc := "(LSpongeDigests;II[J)I" } : Jvm.MethodName)) ∈ W0 := W0_c tk_1 (i := 228) rfl rfl
theorem wd_229 : (Jvm.Cond.static ({ cls := "SpongeDigestsLaw", name := "end", desc := "(LSpongeDigests;II[J)I" } : Jvm.MethodName)) ∈ W0 := W0_c tk_1 (i := 229) rfl rfl
theorem wd_230 : (Jvm.Cond.codeWith ({ cls := "SpongeDigestsLaw", name := "end", desc := "(LSpongeDigests;II[J)I" } : Jvm.MethodName) method_4_code (5 : Nat) (Option.some Jvm.ClassFile.FieldType.int) [((0 : Nat), (10 : Nat), (13 : Nat), (19 : Nat)), ((0 : Nat), (10 : Nat), (17 : Nat), (13 : Nat))]) ∈ W0 := W0_c tk_1 (i := 230) rfl rfl
theorem wd_231 : (Jvm.Cond.classLink "SpongeDigestsLaw" (19 : Nat) "java/lang/IllegalArgumentException") ∈ W0 := W0_c tk_1 (i := 231) rfl rfl
theorem wd_232 : (Jvm.Cond.methodLink "SpongeDigestsLaw" (15 : Nat) ({ cls := "SpongeDigests", name := "end", desc := "(II)I" } : Jvm.MethodName)) ∈ W0 := W0_c tk_1 (i := 232) rfl rfl
theorem wd_233 : (Jvm.Cond.instanceMethod ({ cls := "SpongeDigests", name := "end", desc := "(II)I" } : Jvm.MethodName)) ∈ W0 := W0_c tk_1 (i := 233) rfl rfl
theorem wd_234 : (Jvm.Cond.selects "SpongeDigests" ({ cls := "SpongeDigests", name := "end", desc := "(II)I" } : Jvm.MethodName) ({ cls := "SpongeDigests", name := "end", desc := "(II)I" } : Jvm.MethodName)) ∈ W0 := W0_c tk_1 (i := 234) rfl rfl
theorem wd_235 : (Jvm.Cond.code ({ cls := "SpongeDigests", name := "end", desc := "(II)I" } : Jvm.MethodName) prog_1_method_3_code (4 : Nat) (Option.some Jvm.ClassFile.FieldType.int)) ∈ W0 := W0_c tk_1 (i := 235) rfl rfl
theorem wd_236 : (Jvm.Cond.methodLink "SpongeDigests" (80 : Nat) ({ cls := "SpongeDigests", name := "slotAt", desc := "(I)LSpongeDigests$Bytes;" } : Jvm.MethodName)) ∈ W0 := W0_c tk_1 (i := 236) rfl rfl
theorem wd_238 : (Jvm.Cond.instanceMethod ({ cls := "SpongeDigests", name := "slotAt", desc := "(I)LSpongeDigests$Bytes;" } : Jvm.MethodName)) ∈ W0 := W0_c tk_1 (i := 238) rfl rfl
theorem wd_239 : (Jvm.Cond.code ({ cls := "SpongeDigests", name := "slotAt", desc := "(I)LSpongeDigests$Bytes;" } : Jvm.MethodName) prog_1_method_11_code (2 : Nat) (Option.some (Jvm.ClassFile.FieldType.object "SpongeDigests$Bytes"))) ∈ W0 := W0_c tk_1 (i := 239) rfl rfl
theorem wd_240 : (Jvm.Cond.methodLink "SpongeDigests" (84 : Nat) ({ cls := "SpongeDigests", name := "requireWithin", desc := "(III)V" } : Jvm.MethodName)) ∈ W0 := W0_c tk_2 (i := 0) rfl rfl
theorem wd_241 : (Jvm.Cond.static ({ cls := "SpongeDigests", name := "requireWithin", desc := "(III)V" } : Jvm.MethodName)) ∈ W0 := W0_c tk_2 (i := 1) rfl rfl
theorem wd_242 : (Jvm.Cond.code ({ cls := "SpongeDigests", name := "requireWithin", desc := "(III)V" } : Jvm.MethodName) prog_1_method_12_code (3 : Nat) (Option.none : Option Jvm.ClassFile.FieldType)) ∈ W0 := W0_c tk_2 (i := 2) rfl rfl
theorem wd_243 : (Jvm.Cond.classLink "SpongeDigests" (144 : Nat) "java/lang/IllegalArgumentException") ∈ W0 := W0_c tk_2 (i := 3) rfl rfl
theorem wd_253 : (Jvm.Cond.methodLink "SpongeDigests" (148 : Nat) ({ cls := "java/lang/IllegalArgumentException", name := "<init>", desc := "(Ljava/lang/String;)V" } : Jvm.MethodName)) ∈ W0 := W0_c tk_2 (i := 13) rfl rfl
theorem wd_262 : (Jvm.Cond.instanceMethod ({ cls := "SpongeDigests$Bytes", name := "take", desc := "(LSpongeDigests$Bytes;I)V" } : Jvm.MethodName)) ∈ W0 := W0_c tk_2 (i := 22) rfl rfl
theorem wd_263 : (Jvm.Cond.code ({ cls := "SpongeDigests$Bytes", name := "take", desc := "(LSpongeDigests$Bytes;I)V" } : Jvm.MethodName) prog_3_method_3_code (3 : Nat) (Option.none : Option Jvm.ClassFile.FieldType)) ∈ W0 := W0_c tk_2 (i := 23) rfl rfl
theorem wd_264 : (Jvm.Cond.methodLink "SpongeDigests$Bytes" (19 : Nat) ({ cls := "java/lang/System", name := "arraycopy", desc := "(Ljava/lang/Object;ILjava/lang/Object;II)V" } : Jvm.MethodName)) ∈ W0 := W0_c tk_2 (i := 24) rfl rfl
theorem wd_265 : (Jvm.Cond.static ({ cls := "java/lang/System", name := "arraycopy", desc := "(Ljava/lang/Object;ILjava/lang/Object;II)V" } : Jvm.MethodName)) ∈ W0 := W0_c tk_2 (i := 25) rfl rfl
theorem wd_266 : (Jvm.Cond.native ({ cls := "java/lang/System", name := "arraycopy", desc := "(Ljava/lang/Object;ILjava/lang/Object;II)V" } : Jvm.MethodName)) ∈ W0 := W0_c tk_2 (i := 26) rfl rfl
theorem wd_267 : (Jvm.Cond.methodLink "SpongeDigestsLaw" (64 : Nat) ({ cls := "SpongeDigestsLaw", name := "copy", desc := "(LSpongeDigests;II[J)I" } : Jvm.MethodName)) ∈ W0 := W0_c tk_2 (i := 27) rfl rfl
theorem wd_268 : (Jvm.Cond.static ({ cls := "SpongeDigestsLaw", name := "copy", desc := "(LSpongeDigests;II[J)I" } : Jvm.MethodName)) ∈ W0 := W0_c tk_2 (i := 28) rfl rfl
theorem wd_269 : (Jvm.Cond.codeWith ({ cls := "SpongeDigestsLaw", name := "copy", desc := "(LSpongeDigests;II[J)I" } : Jvm.MethodName) method_5_code (5 : Nat) (Option.some Jvm.ClassFile.FieldType.int) [((0 : Nat), (10 : Nat), (13 : Nat), (19 : Nat))]) ∈ W0 := W0_c tk_2 (i := 29) rfl rfl
theorem wd_270 : (Jvm.Cond.methodLink "SpongeDigestsLaw" (21 : Nat) ({ cls := "SpongeDigests", name := "copy", desc := "(II)I" } : Jvm.MethodName)) ∈ W0 := W0_c tk_2 (i := 30) rfl rfl
theorem wd_271 : (Jvm.Cond.instanceMethod ({ cls := "SpongeDigests", name := "copy", desc := "(II)I" } : Jvm.MethodName)) ∈ W0 := W0_c tk_2 (i := 31) rfl rfl
theorem wd_272 : (Jvm.Cond.selects "SpongeDigests" ({ cls := "SpongeDigests", name := "copy", desc := "(II)I" } : Jvm.MethodName) ({ cls := "SpongeDigests", name := "copy", desc := "(II)I" } : Jvm.MethodName)) ∈ W0 := W0_c tk_2 (i := 32) rfl rfl
theorem wd_273 : (Jvm.Cond.code ({ cls := "SpongeDigests", name := "copy", desc := "(II)I" } : Jvm.MethodName) prog_1_method_4_code (5 : Nat) (Option.some Jvm.ClassFile.FieldType.int)) ∈ W0 := W0_c tk_2 (i := 33) rfl rfl
theorem wd_274 : (Jvm.Cond.methodLink "SpongeDigestsLaw" (67 : Nat) ({ cls := "SpongeDigestsLaw", name := "resize", desc := "(LSpongeDigests;II[J)I" } : Jvm.MethodName)) ∈ W0 := W0_c tk_2 (i := 34) rfl rfl
theorem wd_275 : (Jvm.Cond.static ({ cls := "SpongeDigestsLaw", name := "resize", desc := "(LSpongeDigests;II[J)I" } : Jvm.MethodName)) ∈ W0 := W0_c tk_2 (i := 35) rfl rfl
theorem wd_276 : (Jvm.Cond.codeWith ({ cls := "SpongeDigestsLaw", name := "resize", desc := "(LSpongeDigests;II[J)I" } : Jvm.MethodName) method_6_code (5 : Nat) (Option.some Jvm.ClassFile.FieldType.int) [((0 : Nat), (10 : Nat), (13 : Nat), (19 : Nat))]) ∈ W0 := W0_c tk_2 (i := 36) rfl rfl
theorem wd_277 : (Jvm.Cond.methodLink "SpongeDigestsLaw" (24 : Nat) ({ cls := "SpongeDigests", name := "resize", desc := "(II)I" } : Jvm.MethodName)) ∈ W0 := W0_c tk_2 (i := 37) rfl rfl
theorem wd_278 : (Jvm.Cond.instanceMethod ({ cls := "SpongeDigests", name := "resize", desc := "(II)I" } : Jvm.MethodName)) ∈ W0 := W0_c tk_2 (i := 38) rfl rfl
theorem wd_279 : (Jvm.Cond.selects "SpongeDigests" ({ cls := "SpongeDigests", name := "resize", desc := "(II)I" } : Jvm.MethodName) ({ cls := "SpongeDigests", name := "resize", desc := "(II)I" } : Jvm.MethodName)) ∈ W0 := W0_c tk_2 (i := 39) rfl rfl
theorem wd_280 : (Jvm.Cond.code ({ cls := "SpongeDigests", name := "resize", desc := "(II)I" } : Jvm.MethodName) prog_1_method_5_code (5 : Nat) (Option.some Jvm.ClassFile.FieldType.int)) ∈ W0 := W0_c tk_2 (i := 40) rfl rfl
theorem wd_283 : (Jvm.Cond.instanceMethod ({ cls := "SpongeDigests$Bytes", name := "cutOrFill", desc := "(I)V" } : Jvm.MethodName)) ∈ W0 := W0_c tk_2 (i := 43) rfl rfl
theorem wd_284 : (Jvm.Cond.code ({ cls := "SpongeDigests$Bytes", name := "cutOrFill", desc := "(I)V" } : Jvm.MethodName) prog_3_method_4_code (2 : Nat) (Option.none : Option Jvm.ClassFile.FieldType)) ∈ W0 := W0_c tk_2 (i := 44) rfl rfl
theorem wd_285 : (Jvm.Cond.methodLink "SpongeDigests$Bytes" (25 : Nat) ({ cls := "java/util/Arrays", name := "fill", desc := "([BIIB)V" } : Jvm.MethodName)) ∈ W0 := W0_c tk_2 (i := 45) rfl rfl
theorem wd_286 : (Jvm.Cond.static ({ cls := "java/util/Arrays", name := "fill", desc := "([BIIB)V" } : Jvm.MethodName)) ∈ W0 := W0_c tk_2 (i := 46) rfl rfl
theorem wd_287 : (Jvm.Cond.code ({ cls := "java/util/Arrays", name := "fill", desc := "([BIIB)V" } : Jvm.MethodName) prog_22_method_110_code (5 : Nat) (Option.none : Option Jvm.ClassFile.FieldType)) ∈ W0 := W0_c tk_2 (i := 47) rfl rfl
theorem wd_288 : (Jvm.Cond.methodLink "java/util/Arrays" (13 : Nat) ({ cls := "java/util/Arrays", name := "rangeCheck", desc := "(III)V" } : Jvm.MethodName)) ∈ W0 := W0_c tk_2 (i := 48) rfl rfl
theorem wd_289 : (Jvm.Cond.static ({ cls := "java/util/Arrays", name := "rangeCheck", desc := "(III)V" } : Jvm.MethodName)) ∈ W0 := W0_c tk_2 (i := 49) rfl rfl
theorem wd_290 : (Jvm.Cond.code ({ cls := "java/util/Arrays", name := "rangeCheck", desc := "(III)V" } : Jvm.MethodName) prog_22_method_30_code (3 : Nat) (Option.none : Option Jvm.ClassFile.FieldType)) ∈ W0 := W0_c tk_2 (i := 50) rfl rfl
theorem wd_365 : (Jvm.Cond.static ({ cls := "java/lang/Math", name := "min", desc := "(II)I" } : Jvm.MethodName)) ∈ W0 := W0_c tk_2 (i := 125) rfl rfl
theorem wd_366 : (Jvm.Cond.code ({ cls := "java/lang/Math", name := "min", desc := "(II)I" } : Jvm.MethodName) prog_14_method_69_code (2 : Nat) (Option.some Jvm.ClassFile.FieldType.int)) ∈ W0 := W0_c tk_2 (i := 126) rfl rfl
theorem wd_550 : (Jvm.Cond.methodLink "SpongeDigestsLaw" (70 : Nat) ({ cls := "SpongeDigestsLaw", name := "alter", desc := "(LSpongeDigests;III[J)I" } : Jvm.MethodName)) ∈ W0 := W0_c tk_3 (i := 70) rfl rfl
theorem wd_551 : (Jvm.Cond.static ({ cls := "SpongeDigestsLaw", name := "alter", desc := "(LSpongeDigests;III[J)I" } : Jvm.MethodName)) ∈ W0 := W0_c tk_3 (i := 71) rfl rfl
theorem wd_552 : (Jvm.Cond.codeWith ({ cls := "SpongeDigestsLaw", name := "alter", desc := "(LSpongeDigests;III[J)I" } : Jvm.MethodName) method_7_code (6 : Nat) (Option.some Jvm.ClassFile.FieldType.int) [((0 : Nat), (12 : Nat), (15 : Nat), (19 : Nat)), ((0 : Nat), (12 : Nat), (19 : Nat), (13 : Nat))]) ∈ W0 := W0_c tk_3 (i := 72) rfl rfl
theorem wd_553 : (Jvm.Cond.methodLink "SpongeDigestsLaw" (27 : Nat) ({ cls := "SpongeDigests", name := "alter", desc := "(III)I" } : Jvm.MethodName)) ∈ W0 := W0_c tk_3 (i := 73) rfl rfl
theorem wd_554 : (Jvm.Cond.instanceMethod ({ cls := "SpongeDigests", name := "alter", desc := "(III)I" } : Jvm.MethodName)) ∈ W0 := W0_c tk_3 (i := 74) rfl rfl
theorem wd_555 : (Jvm.Cond.selects "SpongeDigests" ({ cls := "SpongeDigests", name := "alter", desc := "(III)I" } : Jvm.MethodName) ({ cls := "SpongeDigests", name := "alter", desc := "(III)I" } : Jvm.MethodName)) ∈ W0 := W0_c tk_3 (i := 75) rfl rfl
theorem wd_556 : (Jvm.Cond.code ({ cls := "SpongeDigests", name := "alter", desc := "(III)I" } : Jvm.MethodName) prog_1_method_6_code (5 : Nat) (Option.some Jvm.ClassFile.FieldType.int)) ∈ W0 := W0_c tk_3 (i := 76) rfl rfl
theorem wd_557 : (Jvm.Cond.methodLink "SpongeDigests" (97 : Nat) ({ cls := "SpongeDigests", name := "requirePlace", desc := "(LSpongeDigests$Bytes;I)V" } : Jvm.MethodName)) ∈ W0 := W0_c tk_3 (i := 77) rfl rfl
theorem wd_558 : (Jvm.Cond.static ({ cls := "SpongeDigests", name := "requirePlace", desc := "(LSpongeDigests$Bytes;I)V" } : Jvm.MethodName)) ∈ W0 := W0_c tk_3 (i := 78) rfl rfl
theorem wd_559 : (Jvm.Cond.code ({ cls := "SpongeDigests", name := "requirePlace", desc := "(LSpongeDigests$Bytes;I)V" } : Jvm.MethodName) prog_1_method_13_code (2 : Nat) (Option.none : Option Jvm.ClassFile.FieldType)) ∈ W0 := W0_c tk_3 (i := 79) rfl rfl
theorem wd_561 : (Jvm.Cond.methodLink "SpongeDigestsLaw" (74 : Nat) ({ cls := "SpongeDigestsLaw", name := "length", desc := "(LSpongeDigests;I[J)I" } : Jvm.MethodName)) ∈ W0 := W0_c tk_3 (i := 81) rfl rfl
theorem wd_562 : (Jvm.Cond.static ({ cls := "SpongeDigestsLaw", name := "length", desc := "(LSpongeDigests;I[J)I" } : Jvm.MethodName)) ∈ W0 := W0_c tk_3 (i := 82) rfl rfl
theorem wd_563 : (Jvm.Cond.codeWith ({ cls := "SpongeDigestsLaw", name := "length", desc := "(LSpongeDigests;I[J)I" } : Jvm.MethodName) method_8_code (4 : Nat) (Option.some Jvm.ClassFile.FieldType.int) [((0 : Nat), (9 : Nat), (12 : Nat), (19 : Nat))]) ∈ W0 := W0_c tk_3 (i := 83) rfl rfl
theorem wd_564 : (Jvm.Cond.methodLink "SpongeDigestsLaw" (31 : Nat) ({ cls := "SpongeDigests", name := "length", desc := "(I)I" } : Jvm.MethodName)) ∈ W0 := W0_c tk_3 (i := 84) rfl rfl
theorem wd_565 : (Jvm.Cond.instanceMethod ({ cls := "SpongeDigests", name := "length", desc := "(I)I" } : Jvm.MethodName)) ∈ W0 := W0_c tk_3 (i := 85) rfl rfl
theorem wd_566 : (Jvm.Cond.selects "SpongeDigests" ({ cls := "SpongeDigests", name := "length", desc := "(I)I" } : Jvm.MethodName) ({ cls := "SpongeDigests", name := "length", desc := "(I)I" } : Jvm.MethodName)) ∈ W0 := W0_c tk_3 (i := 86) rfl rfl
theorem wd_567 : (Jvm.Cond.code ({ cls := "SpongeDigests", name := "length", desc := "(I)I" } : Jvm.MethodName) prog_1_method_7_code (2 : Nat) (Option.some Jvm.ClassFile.FieldType.int)) ∈ W0 := W0_c tk_3 (i := 87) rfl rfl
theorem wd_568 : (Jvm.Cond.methodLink "SpongeDigestsLaw" (78 : Nat) ({ cls := "SpongeDigestsLaw", name := "word", desc := "(LSpongeDigests;II[J)I" } : Jvm.MethodName)) ∈ W0 := W0_c tk_3 (i := 88) rfl rfl
theorem wd_569 : (Jvm.Cond.static ({ cls := "SpongeDigestsLaw", name := "word", desc := "(LSpongeDigests;II[J)I" } : Jvm.MethodName)) ∈ W0 := W0_c tk_3 (i := 89) rfl rfl
theorem wd_570 : (Jvm.Cond.codeWith ({ cls := "SpongeDigestsLaw", name := "word", desc := "(LSpongeDigests;II[J)I" } : Jvm.MethodName) method_9_code (5 : Nat) (Option.some Jvm.ClassFile.FieldType.int) [((0 : Nat), (9 : Nat), (12 : Nat), (19 : Nat)), ((0 : Nat), (9 : Nat), (16 : Nat), (13 : Nat))]) ∈ W0 := W0_c tk_3 (i := 90) rfl rfl
theorem wd_571 : (Jvm.Cond.methodLink "SpongeDigestsLaw" (35 : Nat) ({ cls := "SpongeDigests", name := "word", desc := "(II)J" } : Jvm.MethodName)) ∈ W0 := W0_c tk_3 (i := 91) rfl rfl
theorem wd_572 : (Jvm.Cond.instanceMethod ({ cls := "SpongeDigests", name := "word", desc := "(II)J" } : Jvm.MethodName)) ∈ W0 := W0_c tk_3 (i := 92) rfl rfl
theorem wd_573 : (Jvm.Cond.selects "SpongeDigests" ({ cls := "SpongeDigests", name := "word", desc := "(II)J" } : Jvm.MethodName) ({ cls := "SpongeDigests", name := "word", desc := "(II)J" } : Jvm.MethodName)) ∈ W0 := W0_c tk_3 (i := 93) rfl rfl
theorem wd_574 : (Jvm.Cond.code ({ cls := "SpongeDigests", name := "word", desc := "(II)J" } : Jvm.MethodName) prog_1_method_8_code (4 : Nat) (Option.some Jvm.ClassFile.FieldType.long)) ∈ W0 := W0_c tk_3 (i := 94) rfl rfl
theorem wd_577 : (Jvm.Cond.instanceMethod ({ cls := "SpongeDigests$Bytes", name := "eightFrom", desc := "(I)J" } : Jvm.MethodName)) ∈ W0 := W0_c tk_3 (i := 97) rfl rfl
theorem wd_578 : (Jvm.Cond.code ({ cls := "SpongeDigests$Bytes", name := "eightFrom", desc := "(I)J" } : Jvm.MethodName) prog_3_method_5_code (6 : Nat) (Option.some Jvm.ClassFile.FieldType.long)) ∈ W0 := W0_c tk_3 (i := 98) rfl rfl
theorem wd_579 : (Jvm.Cond.methodLink "SpongeDigestsLaw" (81 : Nat) ({ cls := "SpongeDigestsLaw", name := "same", desc := "(LSpongeDigests;II[J)I" } : Jvm.MethodName)) ∈ W0 := W0_c tk_3 (i := 99) rfl rfl
theorem wd_580 : (Jvm.Cond.static ({ cls := "SpongeDigestsLaw", name := "same", desc := "(LSpongeDigests;II[J)I" } : Jvm.MethodName)) ∈ W0 := W0_c tk_3 (i := 100) rfl rfl
theorem wd_581 : (Jvm.Cond.codeWith ({ cls := "SpongeDigestsLaw", name := "same", desc := "(LSpongeDigests;II[J)I" } : Jvm.MethodName) method_10_code (5 : Nat) (Option.some Jvm.ClassFile.FieldType.int) [((0 : Nat), (17 : Nat), (20 : Nat), (19 : Nat))]) ∈ W0 := W0_c tk_3 (i := 101) rfl rfl
theorem wd_582 : (Jvm.Cond.methodLink "SpongeDigestsLaw" (39 : Nat) ({ cls := "SpongeDigests", name := "same", desc := "(II)Z" } : Jvm.MethodName)) ∈ W0 := W0_c tk_3 (i := 102) rfl rfl
theorem wd_583 : (Jvm.Cond.instanceMethod ({ cls := "SpongeDigests", name := "same", desc := "(II)Z" } : Jvm.MethodName)) ∈ W0 := W0_c tk_3 (i := 103) rfl rfl
theorem wd_584 : (Jvm.Cond.selects "SpongeDigests" ({ cls := "SpongeDigests", name := "same", desc := "(II)Z" } : Jvm.MethodName) ({ cls := "SpongeDigests", name := "same", desc := "(II)Z" } : Jvm.MethodName)) ∈ W0 := W0_c tk_3 (i := 104) rfl rfl
theorem wd_585 : (Jvm.Cond.code ({ cls := "SpongeDigests", name := "same", desc := "(II)Z" } : Jvm.MethodName) prog_1_method_9_code (3 : Nat) (Option.some Jvm.ClassFile.FieldType.boolean)) ∈ W0 := W0_c tk_3 (i := 105) rfl rfl
theorem wd_588 : (Jvm.Cond.instanceMethod ({ cls := "SpongeDigests$Bytes", name := "matches", desc := "(LSpongeDigests$Bytes;)Z" } : Jvm.MethodName)) ∈ W0 := W0_c tk_3 (i := 108) rfl rfl
theorem wd_589 : (Jvm.Cond.code ({ cls := "SpongeDigests$Bytes", name := "matches", desc := "(LSpongeDigests$Bytes;)Z" } : Jvm.MethodName) prog_3_method_6_code (3 : Nat) (Option.some Jvm.ClassFile.FieldType.boolean)) ∈ W0 := W0_c tk_3 (i := 109) rfl rfl
theorem wd_590 : (Jvm.Cond.methodLink "SpongeDigestsLaw" (84 : Nat) ({ cls := "SpongeDigestsLaw", name := "digest", desc := "(LSpongeDigests;II[J)I" } : Jvm.MethodName)) ∈ W0 := W0_c tk_3 (i := 110) rfl rfl
theorem wd_591 : (Jvm.Cond.static ({ cls := "SpongeDigestsLaw", name := "digest", desc := "(LSpongeDigests;II[J)I" } : Jvm.MethodName)) ∈ W0 := W0_c tk_3 (i := 111) rfl rfl
theorem wd_592 : (Jvm.Cond.codeWith ({ cls := "SpongeDigestsLaw", name := "digest", desc := "(LSpongeDigests;II[J)I" } : Jvm.MethodName) method_11_code (5 : Nat) (Option.some Jvm.ClassFile.FieldType.int) [((0 : Nat), (10 : Nat), (13 : Nat), (19 : Nat))]) ∈ W0 := W0_c tk_3 (i := 112) rfl rfl
theorem wd_593 : (Jvm.Cond.methodLink "SpongeDigestsLaw" (43 : Nat) ({ cls := "SpongeDigests", name := "digest", desc := "(II)I" } : Jvm.MethodName)) ∈ W0 := W0_c tk_3 (i := 113) rfl rfl
theorem wd_594 : (Jvm.Cond.instanceMethod ({ cls := "SpongeDigests", name := "digest", desc := "(II)I" } : Jvm.MethodName)) ∈ W0 := W0_c tk_3 (i := 114) rfl rfl
theorem wd_595 : (Jvm.Cond.selects "SpongeDigests" ({ cls := "SpongeDigests", name := "digest", desc := "(II)I" } : Jvm.MethodName) ({ cls := "SpongeDigests", name := "digest", desc := "(II)I" } : Jvm.MethodName)) ∈ W0 := W0_c tk_3 (i := 115) rfl rfl
theorem wd_596 : (Jvm.Cond.code ({ cls := "SpongeDigests", name := "digest", desc := "(II)I" } : Jvm.MethodName) prog_1_method_10_code (3 : Nat) (Option.some Jvm.ClassFile.FieldType.int)) ∈ W0 := W0_c tk_3 (i := 116) rfl rfl
theorem wd_597 : (Jvm.Cond.fieldLink "SpongeDigests" (111 : Nat) "SpongeDigests" "START_256" "[J") ∈ W0 := W0_c tk_3 (i := 117) rfl rfl
theorem wd_599 : (Jvm.Cond.methodLink "SpongeDigests" (115 : Nat) ({ cls := "SpongeDigests", name := "hashInBlocks", desc := "(LSpongeDigests$BlockHash;[JI)V" } : Jvm.MethodName)) ∈ W0 := W0_c tk_3 (i := 119) rfl rfl
theorem wd_601 : (Jvm.Cond.instanceMethod ({ cls := "SpongeDigests", name := "hashInBlocks", desc := "(LSpongeDigests$BlockHash;[JI)V" } : Jvm.MethodName)) ∈ W0 := W0_c tk_3 (i := 121) rfl rfl
theorem wd_602 : (Jvm.Cond.code ({ cls := "SpongeDigests", name := "hashInBlocks", desc := "(LSpongeDigests$BlockHash;[JI)V" } : Jvm.MethodName) prog_1_method_14_code (5 : Nat) (Option.none : Option Jvm.ClassFile.FieldType)) ∈ W0 := W0_c tk_3 (i := 122) rfl rfl
theorem wd_605 : (Jvm.Cond.instanceMethod ({ cls := "SpongeDigests$BlockHash", name := "begin", desc := "([J)V" } : Jvm.MethodName)) ∈ W0 := W0_c tk_3 (i := 125) rfl rfl
theorem wd_606 : (Jvm.Cond.code ({ cls := "SpongeDigests$BlockHash", name := "begin", desc := "([J)V" } : Jvm.MethodName) prog_2_method_2_code (2 : Nat) (Option.none : Option Jvm.ClassFile.FieldType)) ∈ W0 := W0_c tk_3 (i := 126) rfl rfl
theorem wd_607 : (Jvm.Cond.methodLink "SpongeDigests$BlockHash" (51 : Nat) ({ cls := "java/lang/System", name := "arraycopy", desc := "(Ljava/lang/Object;ILjava/lang/Object;II)V" } : Jvm.MethodName)) ∈ W0 := W0_c tk_3 (i := 127) rfl rfl
theorem wd_610 : (Jvm.Cond.instanceMethod ({ cls := "SpongeDigests$BlockHash", name := "absorb", desc := "([BII)V" } : Jvm.MethodName)) ∈ W0 := W0_c tk_3 (i := 130) rfl rfl
theorem wd_611 : (Jvm.Cond.code ({ cls := "SpongeDigests$BlockHash", name := "absorb", desc := "([BII)V" } : Jvm.MethodName) prog_2_method_3_code (5 : Nat) (Option.none : Option Jvm.ClassFile.FieldType)) ∈ W0 := W0_c tk_3 (i := 131) rfl rfl
theorem wd_612 : (Jvm.Cond.methodLink "SpongeDigests$BlockHash" (63 : Nat) ({ cls := "SpongeDigests$BlockHash", name := "compress", desc := "()V" } : Jvm.MethodName)) ∈ W0 := W0_c tk_3 (i := 132) rfl rfl
theorem wd_614 : (Jvm.Cond.instanceMethod ({ cls := "SpongeDigests$BlockHash", name := "compress", desc := "()V" } : Jvm.MethodName)) ∈ W0 := W0_c tk_3 (i := 134) rfl rfl
theorem wd_615 : (Jvm.Cond.code ({ cls := "SpongeDigests$BlockHash", name := "compress", desc := "()V" } : Jvm.MethodName) prog_2_method_8_code (24 : Nat) (Option.none : Option Jvm.ClassFile.FieldType)) ∈ W0 := W0_c tk_3 (i := 135) rfl rfl
theorem wd_616 : (Jvm.Cond.methodLink "SpongeDigests$BlockHash" (81 : Nat) ({ cls := "SpongeDigests$BlockHash", name := "fillSchedule", desc := "()V" } : Jvm.MethodName)) ∈ W0 := W0_c tk_3 (i := 136) rfl rfl
theorem wd_618 : (Jvm.Cond.instanceMethod ({ cls := "SpongeDigests$BlockHash", name := "fillSchedule", desc := "()V" } : Jvm.MethodName)) ∈ W0 := W0_c tk_3 (i := 138) rfl rfl
theorem wd_619 : (Jvm.Cond.code ({ cls := "SpongeDigests$BlockHash", name := "fillSchedule", desc := "()V" } : Jvm.MethodName) prog_2_method_10_code (6 : Nat) (Option.none : Option Jvm.ClassFile.FieldType)) ∈ W0 := W0_c tk_3 (i := 139) rfl rfl
theorem wd_620 : (Jvm.Cond.methodLink "SpongeDigests$BlockHash" (95 : Nat) ({ cls := "SpongeDigests$BlockHash", name := "twoTurnsAndShift", desc := "(JI)J" } : Jvm.MethodName)) ∈ W0 := W0_c tk_3 (i := 140) rfl rfl
theorem wd_622 : (Jvm.Cond.instanceMethod ({ cls := "SpongeDigests$BlockHash", name := "twoTurnsAndShift", desc := "(JI)J" } : Jvm.MethodName)) ∈ W0 := W0_c tk_3 (i := 142) rfl rfl
theorem wd_623 : (Jvm.Cond.code ({ cls := "SpongeDigests$BlockHash", name := "twoTurnsAndShift", desc := "(JI)J" } : Jvm.MethodName) prog_2_method_12_code (4 : Nat) (Option.some Jvm.ClassFile.FieldType.long)) ∈ W0 := W0_c tk_3 (i := 143) rfl rfl
theorem wd_624 : (Jvm.Cond.methodLink "SpongeDigests$BlockHash" (98 : Nat) ({ cls := "SpongeDigests$BlockHash", name := "rotr", desc := "(JI)J" } : Jvm.MethodName)) ∈ W0 := W0_c tk_3 (i := 144) rfl rfl
theorem wd_626 : (Jvm.Cond.instanceMethod ({ cls := "SpongeDigests$BlockHash", name := "rotr", desc := "(JI)J" } : Jvm.MethodName)) ∈ W0 := W0_c tk_3 (i := 146) rfl rfl
theorem wd_627 : (Jvm.Cond.code ({ cls := "SpongeDigests$BlockHash", name := "rotr", desc := "(JI)J" } : Jvm.MethodName) prog_2_method_13_code (4 : Nat) (Option.some Jvm.ClassFile.FieldType.long)) ∈ W0 := W0_c tk_3 (i := 147) rfl rfl
theorem wd_630 : (Jvm.Cond.methodLink "SpongeDigests$BlockHash" (87 : Nat) ({ cls := "SpongeDigests$BlockHash", name := "threeTurns", desc := "(JI)J" } : Jvm.MethodName)) ∈ W0 := W0_c tk_3 (i := 150) rfl rfl
theorem wd_632 : (Jvm.Cond.instanceMethod ({ cls := "SpongeDigests$BlockHash", name := "threeTurns", desc := "(JI)J" } : Jvm.MethodName)) ∈ W0 := W0_c tk_3 (i := 152) rfl rfl
theorem wd_633 : (Jvm.Cond.code ({ cls := "SpongeDigests$BlockHash", name := "threeTurns", desc := "(JI)J" } : Jvm.MethodName) prog_2_method_11_code (4 : Nat) (Option.some Jvm.ClassFile.FieldType.long)) ∈ W0 := W0_c tk_3 (i := 153) rfl rfl
theorem wd_634 : (Jvm.Cond.methodLink "SpongeDigests$BlockHash" (91 : Nat) ({ cls := "SpongeDigests$BlockHash", name := "addToState", desc := "(IJJJJ)V" } : Jvm.MethodName)) ∈ W0 := W0_c tk_3 (i := 154) rfl rfl
theorem wd_636 : (Jvm.Cond.instanceMethod ({ cls := "SpongeDigests$BlockHash", name := "addToState", desc := "(IJJJJ)V" } : Jvm.MethodName)) ∈ W0 := W0_c tk_3 (i := 156) rfl rfl
theorem wd_637 : (Jvm.Cond.code ({ cls := "SpongeDigests$BlockHash", name := "addToState", desc := "(IJJJJ)V" } : Jvm.MethodName) prog_2_method_9_code (10 : Nat) (Option.none : Option Jvm.ClassFile.FieldType)) ∈ W0 := W0_c tk_3 (i := 157) rfl rfl
theorem wd_640 : (Jvm.Cond.instanceMethod ({ cls := "SpongeDigests$BlockHash", name := "finish", desc := "([BII)V" } : Jvm.MethodName)) ∈ W0 := W0_c tk_3 (i := 160) rfl rfl
theorem wd_641 : (Jvm.Cond.code ({ cls := "SpongeDigests$BlockHash", name := "finish", desc := "([BII)V" } : Jvm.MethodName) prog_2_method_6_code (7 : Nat) (Option.none : Option Jvm.ClassFile.FieldType)) ∈ W0 := W0_c tk_3 (i := 161) rfl rfl
theorem wd_642 : (Jvm.Cond.methodLink "SpongeDigests$BlockHash" (69 : Nat) ({ cls := "java/util/Arrays", name := "fill", desc := "([BIIB)V" } : Jvm.MethodName)) ∈ W0 := W0_c tk_3 (i := 162) rfl rfl
theorem wd_643 : (Jvm.Cond.constantLong "SpongeDigests$BlockHash" (75 : Nat) (8 : Int64)) ∈ W0 := W0_c tk_3 (i := 163) rfl rfl
theorem wd_644 : (Jvm.Cond.methodLink "SpongeDigests$BlockHash" (77 : Nat) ({ cls := "SpongeDigests$BlockHash", name := "writeState", desc := "([BII)V" } : Jvm.MethodName)) ∈ W0 := W0_c tk_3 (i := 164) rfl rfl
theorem wd_646 : (Jvm.Cond.instanceMethod ({ cls := "SpongeDigests$BlockHash", name := "writeState", desc := "([BII)V" } : Jvm.MethodName)) ∈ W0 := W0_c tk_3 (i := 166) rfl rfl
theorem wd_647 : (Jvm.Cond.code ({ cls := "SpongeDigests$BlockHash", name := "writeState", desc := "([BII)V" } : Jvm.MethodName) prog_2_method_7_code (7 : Nat) (Option.none : Option Jvm.ClassFile.FieldType)) ∈ W0 := W0_c tk_3 (i := 167) rfl rfl
theorem wd_648 : (Jvm.Cond.fieldLink "SpongeDigests" (119 : Nat) "SpongeDigests" "START_384" "[J") ∈ W0 := W0_c tk_3 (i := 168) rfl rfl
theorem wd_650 : (Jvm.Cond.fieldLink "SpongeDigests" (122 : Nat) "SpongeDigests" "START_512" "[J") ∈ W0 := W0_c tk_3 (i := 170) rfl rfl
theorem wd_652 : (Jvm.Cond.fieldLink "SpongeDigests" (125 : Nat) "SpongeDigests" "START_224" "[J") ∈ W0 := W0_c tk_3 (i := 172) rfl rfl
theorem wd_654 : (Jvm.Cond.fieldLink "SpongeDigests" (128 : Nat) "SpongeDigests" "START_512_224" "[J") ∈ W0 := W0_c tk_3 (i := 174) rfl rfl
theorem wd_656 : (Jvm.Cond.fieldLink "SpongeDigests" (131 : Nat) "SpongeDigests" "START_512_256" "[J") ∈ W0 := W0_c tk_3 (i := 176) rfl rfl
theorem wd_658 : (Jvm.Cond.methodLink "SpongeDigests" (134 : Nat) ({ cls := "SpongeDigests", name := "hashInSponge", desc := "(III)V" } : Jvm.MethodName)) ∈ W0 := W0_c tk_3 (i := 178) rfl rfl
theorem wd_660 : (Jvm.Cond.instanceMethod ({ cls := "SpongeDigests", name := "hashInSponge", desc := "(III)V" } : Jvm.MethodName)) ∈ W0 := W0_c tk_3 (i := 180) rfl rfl
theorem wd_661 : (Jvm.Cond.code ({ cls := "SpongeDigests", name := "hashInSponge", desc := "(III)V" } : Jvm.MethodName) prog_1_method_15_code (5 : Nat) (Option.none : Option Jvm.ClassFile.FieldType)) ∈ W0 := W0_c tk_3 (i := 181) rfl rfl
theorem wd_664 : (Jvm.Cond.instanceMethod ({ cls := "SpongeDigests$Sponge", name := "absorb", desc := "(II[BI)V" } : Jvm.MethodName)) ∈ W0 := W0_c tk_3 (i := 184) rfl rfl
theorem wd_665 : (Jvm.Cond.code ({ cls := "SpongeDigests$Sponge", name := "absorb", desc := "(II[BI)V" } : Jvm.MethodName) prog_4_method_2_code (7 : Nat) (Option.none : Option Jvm.ClassFile.FieldType)) ∈ W0 := W0_c tk_3 (i := 185) rfl rfl
theorem wd_666 : (Jvm.Cond.methodLink "SpongeDigests$Sponge" (21 : Nat) ({ cls := "java/util/Arrays", name := "fill", desc := "([JJ)V" } : Jvm.MethodName)) ∈ W0 := W0_c tk_3 (i := 186) rfl rfl
theorem wd_667 : (Jvm.Cond.static ({ cls := "java/util/Arrays", name := "fill", desc := "([JJ)V" } : Jvm.MethodName)) ∈ W0 := W0_c tk_3 (i := 187) rfl rfl
theorem wd_668 : (Jvm.Cond.code ({ cls := "java/util/Arrays", name := "fill", desc := "([JJ)V" } : Jvm.MethodName) prog_22_method_101_code (5 : Nat) (Option.none : Option Jvm.ClassFile.FieldType)) ∈ W0 := W0_c tk_3 (i := 188) rfl rfl
theorem wd_669 : (Jvm.Cond.methodLink "SpongeDigests$Sponge" (27 : Nat) ({ cls := "SpongeDigests$Sponge", name := "mixIn", desc := "(II)V" } : Jvm.MethodName)) ∈ W0 := W0_c tk_3 (i := 189) rfl rfl
theorem wd_671 : (Jvm.Cond.instanceMethod ({ cls := "SpongeDigests$Sponge", name := "mixIn", desc := "(II)V" } : Jvm.MethodName)) ∈ W0 := W0_c tk_3 (i := 191) rfl rfl
theorem wd_672 : (Jvm.Cond.code ({ cls := "SpongeDigests$Sponge", name := "mixIn", desc := "(II)V" } : Jvm.MethodName) prog_4_method_4_code (3 : Nat) (Option.none : Option Jvm.ClassFile.FieldType)) ∈ W0 := W0_c tk_3 (i := 192) rfl rfl
theorem wd_673 : (Jvm.Cond.methodLink "SpongeDigests$Sponge" (31 : Nat) ({ cls := "SpongeDigests$Sponge", name := "permute", desc := "()V" } : Jvm.MethodName)) ∈ W0 := W0_c tk_3 (i := 193) rfl rfl
theorem wd_675 : (Jvm.Cond.instanceMethod ({ cls := "SpongeDigests$Sponge", name := "permute", desc := "()V" } : Jvm.MethodName)) ∈ W0 := W0_c tk_3 (i := 195) rfl rfl
theorem wd_676 : (Jvm.Cond.code ({ cls := "SpongeDigests$Sponge", name := "permute", desc := "()V" } : Jvm.MethodName) prog_4_method_5_code (2 : Nat) (Option.none : Option Jvm.ClassFile.FieldType)) ∈ W0 := W0_c tk_3 (i := 196) rfl rfl
theorem wd_677 : (Jvm.Cond.methodLink "SpongeDigests$Sponge" (34 : Nat) ({ cls := "SpongeDigests$Sponge", name := "mixColumns", desc := "()V" } : Jvm.MethodName)) ∈ W0 := W0_c tk_3 (i := 197) rfl rfl
theorem wd_679 : (Jvm.Cond.instanceMethod ({ cls := "SpongeDigests$Sponge", name := "mixColumns", desc := "()V" } : Jvm.MethodName)) ∈ W0 := W0_c tk_3 (i := 199) rfl rfl
theorem wd_680 : (Jvm.Cond.code ({ cls := "SpongeDigests$Sponge", name := "mixColumns", desc := "()V" } : Jvm.MethodName) prog_4_method_6_code (5 : Nat) (Option.none : Option Jvm.ClassFile.FieldType)) ∈ W0 := W0_c tk_3 (i := 200) rfl rfl
theorem wd_681 : (Jvm.Cond.methodLink "SpongeDigests$Sponge" (46 : Nat) ({ cls := "SpongeDigests$Sponge", name := "rotl", desc := "(JI)J" } : Jvm.MethodName)) ∈ W0 := W0_c tk_3 (i := 201) rfl rfl
theorem wd_682 : (Jvm.Cond.static ({ cls := "SpongeDigests$Sponge", name := "rotl", desc := "(JI)J" } : Jvm.MethodName)) ∈ W0 := W0_c tk_3 (i := 202) rfl rfl
theorem wd_683 : (Jvm.Cond.code ({ cls := "SpongeDigests$Sponge", name := "rotl", desc := "(JI)J" } : Jvm.MethodName) prog_4_method_9_code (3 : Nat) (Option.some Jvm.ClassFile.FieldType.long)) ∈ W0 := W0_c tk_3 (i := 203) rfl rfl
theorem wd_684 : (Jvm.Cond.methodLink "SpongeDigests$Sponge" (37 : Nat) ({ cls := "SpongeDigests$Sponge", name := "turnAndMove", desc := "()V" } : Jvm.MethodName)) ∈ W0 := W0_c tk_3 (i := 204) rfl rfl
theorem wd_686 : (Jvm.Cond.instanceMethod ({ cls := "SpongeDigests$Sponge", name := "turnAndMove", desc := "()V" } : Jvm.MethodName)) ∈ W0 := W0_c tk_3 (i := 206) rfl rfl
theorem wd_687 : (Jvm.Cond.code ({ cls := "SpongeDigests$Sponge", name := "turnAndMove", desc := "()V" } : Jvm.MethodName) prog_4_method_7_code (2 : Nat) (Option.none : Option Jvm.ClassFile.FieldType)) ∈ W0 := W0_c tk_3 (i := 207) rfl rfl
theorem wd_692 : (Jvm.Cond.methodLink "SpongeDigests$Sponge" (40 : Nat) ({ cls := "SpongeDigests$Sponge", name := "mixRows", desc := "()V" } : Jvm.MethodName)) ∈ W0 := W0_c tk_3 (i := 212) rfl rfl
theorem wd_694 : (Jvm.Cond.instanceMethod ({ cls := "SpongeDigests$Sponge", name := "mixRows", desc := "()V" } : Jvm.MethodName)) ∈ W0 := W0_c tk_3 (i := 214) rfl rfl
theorem wd_695 : (Jvm.Cond.code ({ cls := "SpongeDigests$Sponge", name := "mixRows", desc := "()V" } : Jvm.MethodName) prog_4_method_8_code (3 : Nat) (Option.none : Option Jvm.ClassFile.FieldType)) ∈ W0 := W0_c tk_3 (i := 215) rfl rfl
theorem wd_696 : (Jvm.Cond.constantLong "SpongeDigests$Sponge" (57 : Nat) (-1 : Int64)) ∈ W0 := W0_c tk_3 (i := 216) rfl rfl
theorem wd_701 : (Jvm.Cond.instanceMethod ({ cls := "SpongeDigests$Sponge", name := "squeeze", desc := "(I[BI)V" } : Jvm.MethodName)) ∈ W0 := W0_c tk_3 (i := 221) rfl rfl
theorem wd_702 : (Jvm.Cond.code ({ cls := "SpongeDigests$Sponge", name := "squeeze", desc := "(I[BI)V" } : Jvm.MethodName) prog_4_method_3_code (6 : Nat) (Option.none : Option Jvm.ClassFile.FieldType)) ∈ W0 := W0_c tk_3 (i := 222) rfl rfl
theorem wd_703 : (Jvm.Cond.methodLink "SpongeDigests" (137 : Nat) ({ cls := "SpongeDigests", name := "hashWithKey", desc := "(LSpongeDigests$BlockHash;[J)V" } : Jvm.MethodName)) ∈ W0 := W0_c tk_3 (i := 223) rfl rfl
theorem wd_705 : (Jvm.Cond.instanceMethod ({ cls := "SpongeDigests", name := "hashWithKey", desc := "(LSpongeDigests$BlockHash;[J)V" } : Jvm.MethodName)) ∈ W0 := W0_c tk_3 (i := 225) rfl rfl
theorem wd_706 : (Jvm.Cond.code ({ cls := "SpongeDigests", name := "hashWithKey", desc := "(LSpongeDigests$BlockHash;[J)V" } : Jvm.MethodName) prog_1_method_16_code (5 : Nat) (Option.none : Option Jvm.ClassFile.FieldType)) ∈ W0 := W0_c tk_3 (i := 226) rfl rfl
theorem wd_707 : (Jvm.Cond.methodLink "SpongeDigests" (169 : Nat) ({ cls := "SpongeDigests", name := "setKey", desc := "(LSpongeDigests$BlockHash;[J)V" } : Jvm.MethodName)) ∈ W0 := W0_c tk_3 (i := 227) rfl rfl
theorem wd_709 : (Jvm.Cond.instanceMethod ({ cls := "SpongeDigests", name := "setKey", desc := "(LSpongeDigests$BlockHash;[J)V" } : Jvm.MethodName)) ∈ W0 := W0_c tk_3 (i := 229) rfl rfl
theorem wd_710 : (Jvm.Cond.code ({ cls := "SpongeDigests", name := "setKey", desc := "(LSpongeDigests$BlockHash;[J)V" } : Jvm.MethodName) prog_1_method_17_code (4 : Nat) (Option.none : Option Jvm.ClassFile.FieldType)) ∈ W0 := W0_c tk_3 (i := 230) rfl rfl
theorem wd_711 : (Jvm.Cond.methodLink "SpongeDigests" (175 : Nat) ({ cls := "java/util/Arrays", name := "fill", desc := "([BB)V" } : Jvm.MethodName)) ∈ W0 := W0_c tk_3 (i := 231) rfl rfl
theorem wd_712 : (Jvm.Cond.static ({ cls := "java/util/Arrays", name := "fill", desc := "([BB)V" } : Jvm.MethodName)) ∈ W0 := W0_c tk_3 (i := 232) rfl rfl
theorem wd_713 : (Jvm.Cond.code ({ cls := "java/util/Arrays", name := "fill", desc := "([BB)V" } : Jvm.MethodName) prog_22_method_109_code (4 : Nat) (Option.none : Option Jvm.ClassFile.FieldType)) ∈ W0 := W0_c tk_3 (i := 233) rfl rfl
theorem wd_714 : (Jvm.Cond.methodLink "SpongeDigests" (181 : Nat) ({ cls := "java/lang/System", name := "arraycopy", desc := "(Ljava/lang/Object;ILjava/lang/Object;II)V" } : Jvm.MethodName)) ∈ W0 := W0_c tk_3 (i := 234) rfl rfl
theorem wd_715 : (Jvm.Cond.methodLink "SpongeDigests" (172 : Nat) ({ cls := "SpongeDigests", name := "beginWithKey", desc := "(LSpongeDigests$BlockHash;[JI)V" } : Jvm.MethodName)) ∈ W0 := W0_c tk_3 (i := 235) rfl rfl
theorem wd_717 : (Jvm.Cond.instanceMethod ({ cls := "SpongeDigests", name := "beginWithKey", desc := "(LSpongeDigests$BlockHash;[JI)V" } : Jvm.MethodName)) ∈ W0 := W0_c tk_3 (i := 237) rfl rfl
theorem wd_718 : (Jvm.Cond.code ({ cls := "SpongeDigests", name := "beginWithKey", desc := "(LSpongeDigests$BlockHash;[JI)V" } : Jvm.MethodName) prog_1_method_18_code (5 : Nat) (Option.none : Option Jvm.ClassFile.FieldType)) ∈ W0 := W0_c tk_3 (i := 238) rfl rfl
theorem wd_719 : (Jvm.Cond.methodLink "SpongeDigests" (141 : Nat) ({ cls := "SpongeDigests", name := "hashWithCounter", desc := "(LSpongeDigests$BlockHash;[JI)V" } : Jvm.MethodName)) ∈ W0 := W0_c tk_3 (i := 239) rfl rfl
theorem wd_721 : (Jvm.Cond.instanceMethod ({ cls := "SpongeDigests", name := "hashWithCounter", desc := "(LSpongeDigests$BlockHash;[JI)V" } : Jvm.MethodName)) ∈ W0 := W0_c tk_4 (i := 1) rfl rfl
theorem wd_722 : (Jvm.Cond.code ({ cls := "SpongeDigests", name := "hashWithCounter", desc := "(LSpongeDigests$BlockHash;[JI)V" } : Jvm.MethodName) prog_1_method_19_code (10 : Nat) (Option.none : Option Jvm.ClassFile.FieldType)) ∈ W0 := W0_c tk_4 (i := 2) rfl rfl
theorem wd_725 : (Jvm.Cond.instanceMethod ({ cls := "SpongeDigests$BlockHash", name := "setMark", desc := "()V" } : Jvm.MethodName)) ∈ W0 := W0_c tk_4 (i := 5) rfl rfl
theorem wd_726 : (Jvm.Cond.code ({ cls := "SpongeDigests$BlockHash", name := "setMark", desc := "()V" } : Jvm.MethodName) prog_2_method_4_code (1 : Nat) (Option.none : Option Jvm.ClassFile.FieldType)) ∈ W0 := W0_c tk_4 (i := 6) rfl rfl
theorem wd_727 : (Jvm.Cond.methodLink "SpongeDigests" (190 : Nat) ({ cls := "java/lang/Math", name := "min", desc := "(II)I" } : Jvm.MethodName)) ∈ W0 := W0_c tk_4 (i := 7) rfl rfl
theorem wd_728 : (Jvm.Cond.methodLink "SpongeDigests" (196 : Nat) ({ cls := "SpongeDigests", name := "setCounter", desc := "(I)V" } : Jvm.MethodName)) ∈ W0 := W0_c tk_4 (i := 8) rfl rfl
theorem wd_730 : (Jvm.Cond.instanceMethod ({ cls := "SpongeDigests", name := "setCounter", desc := "(I)V" } : Jvm.MethodName)) ∈ W0 := W0_c tk_4 (i := 10) rfl rfl
theorem wd_731 : (Jvm.Cond.code ({ cls := "SpongeDigests", name := "setCounter", desc := "(I)V" } : Jvm.MethodName) prog_1_method_20_code (3 : Nat) (Option.none : Option Jvm.ClassFile.FieldType)) ∈ W0 := W0_c tk_4 (i := 11) rfl rfl
theorem wd_734 : (Jvm.Cond.instanceMethod ({ cls := "SpongeDigests$BlockHash", name := "goToMark", desc := "()V" } : Jvm.MethodName)) ∈ W0 := W0_c tk_4 (i := 14) rfl rfl
theorem wd_735 : (Jvm.Cond.code ({ cls := "SpongeDigests$BlockHash", name := "goToMark", desc := "()V" } : Jvm.MethodName) prog_2_method_5_code (1 : Nat) (Option.none : Option Jvm.ClassFile.FieldType)) ∈ W0 := W0_c tk_4 (i := 15) rfl rfl
theorem wd_736 : (Jvm.Cond.classLink "SpongeDigestsLaw" (47 : Nat) "SpongeDigestsModel") ∈ W0 := W0_c tk_4 (i := 16) rfl rfl
theorem wd_737 : (Jvm.Cond.instantiable "SpongeDigestsModel" (24 : Nat)) ∈ W0 := W0_c tk_4 (i := 17) rfl rfl
theorem wd_738 : (Jvm.Cond.methodLink "SpongeDigestsLaw" (49 : Nat) ({ cls := "SpongeDigestsModel", name := "<init>", desc := "()V" } : Jvm.MethodName)) ∈ W0 := W0_c tk_4 (i := 18) rfl rfl
theorem wd_739 : (Jvm.Cond.instanceMethod ({ cls := "SpongeDigestsModel", name := "<init>", desc := "()V" } : Jvm.MethodName)) ∈ W0 := W0_c tk_4 (i := 19) rfl rfl
theorem wd_740 : (Jvm.Cond.code ({ cls := "SpongeDigestsModel", name := "<init>", desc := "()V" } : Jvm.MethodName) prog_6_method_1_code (1 : Nat) (Option.none : Option Jvm.ClassFile.FieldType)) ∈ W0 := W0_c tk_4 (i := 20) rfl rfl
theorem wd_741 : (Jvm.Cond.methodLink "SpongeDigestsModel" (1 : Nat) ({ cls := "java/lang/Object", name := "<init>", desc := "()V" } : Jvm.MethodName)) ∈ W0 := W0_c tk_4 (i := 21) rfl rfl
theorem wd_742 : (Jvm.Cond.classLink "SpongeDigestsModel" (13 : Nat) "[[B") ∈ W0 := W0_c tk_4 (i := 22) rfl rfl
theorem wd_744 : (Jvm.Cond.methodLink "SpongeDigestsModel" (68 : Nat) ({ cls := "SpongeDigestsModel", name := "constants", desc := "()V" } : Jvm.MethodName)) ∈ W0 := W0_c tk_4 (i := 24) rfl rfl
theorem wd_746 : (Jvm.Cond.instanceMethod ({ cls := "SpongeDigestsModel", name := "constants", desc := "()V" } : Jvm.MethodName)) ∈ W0 := W0_c tk_4 (i := 26) rfl rfl
theorem wd_747 : (Jvm.Cond.code ({ cls := "SpongeDigestsModel", name := "constants", desc := "()V" } : Jvm.MethodName) prog_6_method_19_code (6 : Nat) (Option.none : Option Jvm.ClassFile.FieldType)) ∈ W0 := W0_c tk_4 (i := 27) rfl rfl
theorem wd_748 : (Jvm.Cond.methodLink "SpongeDigestsModel" (98 : Nat) ({ cls := "SpongeDigestsModel", name := "prime", desc := "(I)Z" } : Jvm.MethodName)) ∈ W0 := W0_c tk_4 (i := 28) rfl rfl
theorem wd_749 : (Jvm.Cond.static ({ cls := "SpongeDigestsModel", name := "prime", desc := "(I)Z" } : Jvm.MethodName)) ∈ W0 := W0_c tk_4 (i := 29) rfl rfl
theorem wd_750 : (Jvm.Cond.code ({ cls := "SpongeDigestsModel", name := "prime", desc := "(I)Z" } : Jvm.MethodName) prog_6_method_16_code (2 : Nat) (Option.some Jvm.ClassFile.FieldType.boolean)) ∈ W0 := W0_c tk_4 (i := 30) rfl rfl
theorem wd_751 : (Jvm.Cond.methodLink "SpongeDigestsModel" (102 : Nat) ({ cls := "SpongeDigestsModel", name := "root", desc := "(II)J" } : Jvm.MethodName)) ∈ W0 := W0_c tk_4 (i := 31) rfl rfl
theorem wd_753 : (Jvm.Cond.instanceMethod ({ cls := "SpongeDigestsModel", name := "root", desc := "(II)J" } : Jvm.MethodName)) ∈ W0 := W0_c tk_4 (i := 33) rfl rfl
theorem wd_754 : (Jvm.Cond.code ({ cls := "SpongeDigestsModel", name := "root", desc := "(II)J" } : Jvm.MethodName) prog_6_method_18_code (7 : Nat) (Option.some Jvm.ClassFile.FieldType.long)) ∈ W0 := W0_c tk_4 (i := 34) rfl rfl
theorem wd_755 : (Jvm.Cond.methodLink "SpongeDigestsModel" (94 : Nat) ({ cls := "SpongeDigestsModel", name := "above", desc := "(IJII)Z" } : Jvm.MethodName)) ∈ W0 := W0_c tk_4 (i := 35) rfl rfl
theorem wd_757 : (Jvm.Cond.instanceMethod ({ cls := "SpongeDigestsModel", name := "above", desc := "(IJII)Z" } : Jvm.MethodName)) ∈ W0 := W0_c tk_4 (i := 37) rfl rfl
theorem wd_758 : (Jvm.Cond.code ({ cls := "SpongeDigestsModel", name := "above", desc := "(IJII)Z" } : Jvm.MethodName) prog_6_method_17_code (10 : Nat) (Option.some Jvm.ClassFile.FieldType.boolean)) ∈ W0 := W0_c tk_4 (i := 38) rfl rfl
theorem wd_759 : (Jvm.Cond.constantLong "SpongeDigestsModel" (92 : Nat) (65535 : Int64)) ∈ W0 := W0_c tk_4 (i := 39) rfl rfl
theorem wd_760 : (Jvm.Cond.methodLink "SpongeDigestsModel" (106 : Nat) ({ cls := "SpongeDigestsModel", name := "bit", desc := "(I)I" } : Jvm.MethodName)) ∈ W0 := W0_c tk_4 (i := 40) rfl rfl
theorem wd_761 : (Jvm.Cond.static ({ cls := "SpongeDigestsModel", name := "bit", desc := "(I)I" } : Jvm.MethodName)) ∈ W0 := W0_c tk_4 (i := 41) rfl rfl
theorem wd_762 : (Jvm.Cond.code ({ cls := "SpongeDigestsModel", name := "bit", desc := "(I)I" } : Jvm.MethodName) prog_6_method_20_code (3 : Nat) (Option.some Jvm.ClassFile.FieldType.int)) ∈ W0 := W0_c tk_4 (i := 42) rfl rfl
theorem wd_763 : (Jvm.Cond.methodLink "SpongeDigestsModel" (110 : Nat) ({ cls := "SpongeDigestsModel", name := "named", desc := "([JII)V" } : Jvm.MethodName)) ∈ W0 := W0_c tk_4 (i := 43) rfl rfl
theorem wd_765 : (Jvm.Cond.instanceMethod ({ cls := "SpongeDigestsModel", name := "named", desc := "([JII)V" } : Jvm.MethodName)) ∈ W0 := W0_c tk_4 (i := 45) rfl rfl
theorem wd_766 : (Jvm.Cond.code ({ cls := "SpongeDigestsModel", name := "named", desc := "([JII)V" } : Jvm.MethodName) prog_6_method_21_code (5 : Nat) (Option.none : Option Jvm.ClassFile.FieldType)) ∈ W0 := W0_c tk_4 (i := 46) rfl rfl
theorem wd_767 : (Jvm.Cond.methodLink "SpongeDigestsModel" (114 : Nat) ({ cls := "SpongeDigestsModel", name := "begin", desc := "(I)V" } : Jvm.MethodName)) ∈ W0 := W0_c tk_4 (i := 47) rfl rfl
theorem wd_769 : (Jvm.Cond.instanceMethod ({ cls := "SpongeDigestsModel", name := "begin", desc := "(I)V" } : Jvm.MethodName)) ∈ W0 := W0_c tk_4 (i := 49) rfl rfl
theorem wd_770 : (Jvm.Cond.code ({ cls := "SpongeDigestsModel", name := "begin", desc := "(I)V" } : Jvm.MethodName) prog_6_method_25_code (3 : Nat) (Option.none : Option Jvm.ClassFile.FieldType)) ∈ W0 := W0_c tk_4 (i := 50) rfl rfl
theorem wd_771 : (Jvm.Cond.methodLink "SpongeDigestsModel" (135 : Nat) ({ cls := "SpongeDigestsModel", name := "digestOf", desc := "(I)I" } : Jvm.MethodName)) ∈ W0 := W0_c tk_4 (i := 51) rfl rfl
theorem wd_772 : (Jvm.Cond.static ({ cls := "SpongeDigestsModel", name := "digestOf", desc := "(I)I" } : Jvm.MethodName)) ∈ W0 := W0_c tk_4 (i := 52) rfl rfl
theorem wd_773 : (Jvm.Cond.code ({ cls := "SpongeDigestsModel", name := "digestOf", desc := "(I)I" } : Jvm.MethodName) prog_6_method_24_code (1 : Nat) (Option.some Jvm.ClassFile.FieldType.int)) ∈ W0 := W0_c tk_4 (i := 53) rfl rfl
theorem wd_774 : (Jvm.Cond.methodLink "SpongeDigestsModel" (138 : Nat) ({ cls := "SpongeDigestsModel", name := "blockOf", desc := "(I)I" } : Jvm.MethodName)) ∈ W0 := W0_c tk_4 (i := 54) rfl rfl
theorem wd_775 : (Jvm.Cond.static ({ cls := "SpongeDigestsModel", name := "blockOf", desc := "(I)I" } : Jvm.MethodName)) ∈ W0 := W0_c tk_4 (i := 55) rfl rfl
theorem wd_776 : (Jvm.Cond.code ({ cls := "SpongeDigestsModel", name := "blockOf", desc := "(I)I" } : Jvm.MethodName) prog_6_method_23_code (1 : Nat) (Option.some Jvm.ClassFile.FieldType.int)) ∈ W0 := W0_c tk_4 (i := 56) rfl rfl
theorem wd_777 : (Jvm.Cond.constantLong "SpongeDigestsModel" (144 : Nat) (4294967295 : Int64)) ∈ W0 := W0_c tk_4 (i := 57) rfl rfl
theorem wd_778 : (Jvm.Cond.constantLong "SpongeDigestsModel" (117 : Nat) (-6510615555426900571 : Int64)) ∈ W0 := W0_c tk_4 (i := 58) rfl rfl
theorem wd_779 : (Jvm.Cond.methodLink "SpongeDigestsModel" (119 : Nat) ({ cls := "SpongeDigestsModel", name := "put", desc := "(I)V" } : Jvm.MethodName)) ∈ W0 := W0_c tk_4 (i := 59) rfl rfl
theorem wd_781 : (Jvm.Cond.instanceMethod ({ cls := "SpongeDigestsModel", name := "put", desc := "(I)V" } : Jvm.MethodName)) ∈ W0 := W0_c tk_4 (i := 61) rfl rfl
theorem wd_782 : (Jvm.Cond.code ({ cls := "SpongeDigestsModel", name := "put", desc := "(I)V" } : Jvm.MethodName) prog_6_method_27_code (2 : Nat) (Option.none : Option Jvm.ClassFile.FieldType)) ∈ W0 := W0_c tk_4 (i := 62) rfl rfl
theorem wd_783 : (Jvm.Cond.methodLink "SpongeDigestsModel" (146 : Nat) ({ cls := "SpongeDigestsModel", name := "sponge", desc := "()Z" } : Jvm.MethodName)) ∈ W0 := W0_c tk_4 (i := 63) rfl rfl
theorem wd_785 : (Jvm.Cond.instanceMethod ({ cls := "SpongeDigestsModel", name := "sponge", desc := "()Z" } : Jvm.MethodName)) ∈ W0 := W0_c tk_4 (i := 65) rfl rfl
theorem wd_786 : (Jvm.Cond.code ({ cls := "SpongeDigestsModel", name := "sponge", desc := "()Z" } : Jvm.MethodName) prog_6_method_22_code (1 : Nat) (Option.some Jvm.ClassFile.FieldType.boolean)) ∈ W0 := W0_c tk_4 (i := 66) rfl rfl
theorem wd_787 : (Jvm.Cond.methodLink "SpongeDigestsModel" (150 : Nat) ({ cls := "SpongeDigestsModel", name := "flip", desc := "(II)V" } : Jvm.MethodName)) ∈ W0 := W0_c tk_4 (i := 67) rfl rfl
theorem wd_789 : (Jvm.Cond.instanceMethod ({ cls := "SpongeDigestsModel", name := "flip", desc := "(II)V" } : Jvm.MethodName)) ∈ W0 := W0_c tk_4 (i := 69) rfl rfl
theorem wd_790 : (Jvm.Cond.code ({ cls := "SpongeDigestsModel", name := "flip", desc := "(II)V" } : Jvm.MethodName) prog_6_method_26_code (3 : Nat) (Option.none : Option Jvm.ClassFile.FieldType)) ∈ W0 := W0_c tk_4 (i := 70) rfl rfl
theorem wd_791 : (Jvm.Cond.constantLong "SpongeDigestsModel" (90 : Nat) (255 : Int64)) ∈ W0 := W0_c tk_4 (i := 71) rfl rfl
theorem wd_792 : (Jvm.Cond.methodLink "SpongeDigestsModel" (154 : Nat) ({ cls := "SpongeDigestsModel", name := "permute", desc := "()V" } : Jvm.MethodName)) ∈ W0 := W0_c tk_4 (i := 72) rfl rfl
theorem wd_794 : (Jvm.Cond.instanceMethod ({ cls := "SpongeDigestsModel", name := "permute", desc := "()V" } : Jvm.MethodName)) ∈ W0 := W0_c tk_4 (i := 74) rfl rfl
theorem wd_795 : (Jvm.Cond.code ({ cls := "SpongeDigestsModel", name := "permute", desc := "()V" } : Jvm.MethodName) prog_6_method_29_code (4 : Nat) (Option.none : Option Jvm.ClassFile.FieldType)) ∈ W0 := W0_c tk_4 (i := 75) rfl rfl
theorem wd_796 : (Jvm.Cond.methodLink "SpongeDigestsModel" (163 : Nat) ({ cls := "SpongeDigestsModel", name := "left", desc := "(JI)J" } : Jvm.MethodName)) ∈ W0 := W0_c tk_4 (i := 76) rfl rfl
theorem wd_797 : (Jvm.Cond.static ({ cls := "SpongeDigestsModel", name := "left", desc := "(JI)J" } : Jvm.MethodName)) ∈ W0 := W0_c tk_4 (i := 77) rfl rfl
theorem wd_798 : (Jvm.Cond.code ({ cls := "SpongeDigestsModel", name := "left", desc := "(JI)J" } : Jvm.MethodName) prog_6_method_30_code (3 : Nat) (Option.some Jvm.ClassFile.FieldType.long)) ∈ W0 := W0_c tk_4 (i := 78) rfl rfl
theorem wd_799 : (Jvm.Cond.constantLong "SpongeDigestsModel" (167 : Nat) (-1 : Int64)) ∈ W0 := W0_c tk_4 (i := 79) rfl rfl
theorem wd_800 : (Jvm.Cond.methodLink "SpongeDigestsModel" (157 : Nat) ({ cls := "SpongeDigestsModel", name := "compress32", desc := "()V" } : Jvm.MethodName)) ∈ W0 := W0_c tk_4 (i := 80) rfl rfl
theorem wd_802 : (Jvm.Cond.instanceMethod ({ cls := "SpongeDigestsModel", name := "compress32", desc := "()V" } : Jvm.MethodName)) ∈ W0 := W0_c tk_4 (i := 82) rfl rfl
theorem wd_803 : (Jvm.Cond.code ({ cls := "SpongeDigestsModel", name := "compress32", desc := "()V" } : Jvm.MethodName) prog_6_method_34_code (12 : Nat) (Option.none : Option Jvm.ClassFile.FieldType)) ∈ W0 := W0_c tk_4 (i := 83) rfl rfl
theorem wd_804 : (Jvm.Cond.methodLink "SpongeDigestsModel" (172 : Nat) ({ cls := "SpongeDigestsModel", name := "turn", desc := "(II)I" } : Jvm.MethodName)) ∈ W0 := W0_c tk_4 (i := 84) rfl rfl
theorem wd_805 : (Jvm.Cond.static ({ cls := "SpongeDigestsModel", name := "turn", desc := "(II)I" } : Jvm.MethodName)) ∈ W0 := W0_c tk_4 (i := 85) rfl rfl
theorem wd_806 : (Jvm.Cond.code ({ cls := "SpongeDigestsModel", name := "turn", desc := "(II)I" } : Jvm.MethodName) prog_6_method_32_code (2 : Nat) (Option.some Jvm.ClassFile.FieldType.int)) ∈ W0 := W0_c tk_4 (i := 86) rfl rfl
theorem wd_807 : (Jvm.Cond.methodLink "SpongeDigestsModel" (160 : Nat) ({ cls := "SpongeDigestsModel", name := "compress64", desc := "()V" } : Jvm.MethodName)) ∈ W0 := W0_c tk_4 (i := 87) rfl rfl
theorem wd_809 : (Jvm.Cond.instanceMethod ({ cls := "SpongeDigestsModel", name := "compress64", desc := "()V" } : Jvm.MethodName)) ∈ W0 := W0_c tk_4 (i := 89) rfl rfl
theorem wd_810 : (Jvm.Cond.code ({ cls := "SpongeDigestsModel", name := "compress64", desc := "()V" } : Jvm.MethodName) prog_6_method_33_code (22 : Nat) (Option.none : Option Jvm.ClassFile.FieldType)) ∈ W0 := W0_c tk_4 (i := 90) rfl rfl
theorem wd_811 : (Jvm.Cond.methodLink "SpongeDigestsModel" (169 : Nat) ({ cls := "SpongeDigestsModel", name := "right", desc := "(JI)J" } : Jvm.MethodName)) ∈ W0 := W0_c tk_4 (i := 91) rfl rfl
theorem wd_812 : (Jvm.Cond.static ({ cls := "SpongeDigestsModel", name := "right", desc := "(JI)J" } : Jvm.MethodName)) ∈ W0 := W0_c tk_4 (i := 92) rfl rfl
theorem wd_813 : (Jvm.Cond.code ({ cls := "SpongeDigestsModel", name := "right", desc := "(JI)J" } : Jvm.MethodName) prog_6_method_31_code (3 : Nat) (Option.some Jvm.ClassFile.FieldType.long)) ∈ W0 := W0_c tk_4 (i := 93) rfl rfl
theorem wd_814 : (Jvm.Cond.methodLink "SpongeDigestsModel" (122 : Nat) ({ cls := "SpongeDigestsModel", name := "finish", desc := "()V" } : Jvm.MethodName)) ∈ W0 := W0_c tk_4 (i := 94) rfl rfl
theorem wd_816 : (Jvm.Cond.instanceMethod ({ cls := "SpongeDigestsModel", name := "finish", desc := "()V" } : Jvm.MethodName)) ∈ W0 := W0_c tk_4 (i := 96) rfl rfl
theorem wd_817 : (Jvm.Cond.code ({ cls := "SpongeDigestsModel", name := "finish", desc := "()V" } : Jvm.MethodName) prog_6_method_35_code (4 : Nat) (Option.none : Option Jvm.ClassFile.FieldType)) ∈ W0 := W0_c tk_4 (i := 97) rfl rfl
theorem wd_818 : (Jvm.Cond.constantLong "SpongeDigestsModel" (176 : Nat) (8 : Int64)) ∈ W0 := W0_c tk_4 (i := 98) rfl rfl
theorem wd_819 : (Jvm.Cond.fieldLink "SpongeDigestsModel" (9 : Nat) "SpongeDigestsModel" "tape" "[B") ∈ W0 := W0_c tk_4 (i := 99) rfl rfl
theorem wd_820 : (Jvm.Cond.fieldLink "SpongeDigestsModel" (15 : Nat) "SpongeDigestsModel" "slot" "[[B") ∈ W0 := W0_c tk_4 (i := 100) rfl rfl
theorem wd_821 : (Jvm.Cond.fieldLink "SpongeDigestsModel" (18 : Nat) "SpongeDigestsModel" "length" "[I") ∈ W0 := W0_c tk_4 (i := 101) rfl rfl
theorem wd_822 : (Jvm.Cond.fieldLink "SpongeDigestsModel" (75 : Nat) "SpongeDigestsModel" "taped" "I") ∈ W0 := W0_c tk_4 (i := 102) rfl rfl
theorem wd_823 : (Jvm.Cond.fieldLink "SpongeDigestsModel" (71 : Nat) "SpongeDigestsModel" "code" "I") ∈ W0 := W0_c tk_4 (i := 103) rfl rfl
theorem wd_824 : (Jvm.Cond.fieldLink "SpongeDigestsModel" (22 : Nat) "SpongeDigestsModel" "roots" "[J") ∈ W0 := W0_c tk_4 (i := 104) rfl rfl
theorem wd_825 : (Jvm.Cond.fieldLink "SpongeDigestsModel" (26 : Nat) "SpongeDigestsModel" "cubes" "[J") ∈ W0 := W0_c tk_4 (i := 105) rfl rfl
theorem wd_826 : (Jvm.Cond.fieldLink "SpongeDigestsModel" (29 : Nat) "SpongeDigestsModel" "start224" "[J") ∈ W0 := W0_c tk_4 (i := 106) rfl rfl
theorem wd_827 : (Jvm.Cond.fieldLink "SpongeDigestsModel" (32 : Nat) "SpongeDigestsModel" "start256" "[J") ∈ W0 := W0_c tk_4 (i := 107) rfl rfl
theorem wd_828 : (Jvm.Cond.fieldLink "SpongeDigestsModel" (35 : Nat) "SpongeDigestsModel" "limbs" "[J") ∈ W0 := W0_c tk_4 (i := 108) rfl rfl
theorem wd_829 : (Jvm.Cond.fieldLink "SpongeDigestsModel" (38 : Nat) "SpongeDigestsModel" "product" "[J") ∈ W0 := W0_c tk_4 (i := 109) rfl rfl
theorem wd_830 : (Jvm.Cond.fieldLink "SpongeDigestsModel" (41 : Nat) "SpongeDigestsModel" "turns" "[I") ∈ W0 := W0_c tk_4 (i := 110) rfl rfl
theorem wd_831 : (Jvm.Cond.fieldLink "SpongeDigestsModel" (44 : Nat) "SpongeDigestsModel" "round" "[J") ∈ W0 := W0_c tk_4 (i := 111) rfl rfl
theorem wd_832 : (Jvm.Cond.fieldLink "SpongeDigestsModel" (47 : Nat) "SpongeDigestsModel" "state" "[J") ∈ W0 := W0_c tk_4 (i := 112) rfl rfl
theorem wd_833 : (Jvm.Cond.fieldLink "SpongeDigestsModel" (50 : Nat) "SpongeDigestsModel" "other" "[J") ∈ W0 := W0_c tk_4 (i := 113) rfl rfl
theorem wd_834 : (Jvm.Cond.fieldLink "SpongeDigestsModel" (53 : Nat) "SpongeDigestsModel" "column" "[J") ∈ W0 := W0_c tk_4 (i := 114) rfl rfl
theorem wd_835 : (Jvm.Cond.fieldLink "SpongeDigestsModel" (56 : Nat) "SpongeDigestsModel" "words" "[J") ∈ W0 := W0_c tk_4 (i := 115) rfl rfl
theorem wd_836 : (Jvm.Cond.fieldLink "SpongeDigestsModel" (59 : Nat) "SpongeDigestsModel" "block" "[B") ∈ W0 := W0_c tk_4 (i := 116) rfl rfl
theorem wd_837 : (Jvm.Cond.fieldLink "SpongeDigestsModel" (125 : Nat) "SpongeDigestsModel" "kind" "I") ∈ W0 := W0_c tk_4 (i := 117) rfl rfl
theorem wd_838 : (Jvm.Cond.fieldLink "SpongeDigestsModel" (141 : Nat) "SpongeDigestsModel" "rate" "I") ∈ W0 := W0_c tk_4 (i := 118) rfl rfl
theorem wd_839 : (Jvm.Cond.fieldLink "SpongeDigestsModel" (128 : Nat) "SpongeDigestsModel" "filled" "I") ∈ W0 := W0_c tk_4 (i := 119) rfl rfl
theorem wd_840 : (Jvm.Cond.fieldLink "SpongeDigestsModel" (131 : Nat) "SpongeDigestsModel" "total" "J") ∈ W0 := W0_c tk_4 (i := 120) rfl rfl
theorem wd_841 : (Jvm.Cond.fieldLink "SpongeDigestsModel" (62 : Nat) "SpongeDigestsModel" "hashKey" "[B") ∈ W0 := W0_c tk_4 (i := 121) rfl rfl
theorem wd_842 : (Jvm.Cond.fieldLink "SpongeDigestsModel" (65 : Nat) "SpongeDigestsModel" "inner" "[B") ∈ W0 := W0_c tk_4 (i := 122) rfl rfl
theorem wd_892 : (Jvm.Cond.arrayClass Jvm.ClassFile.FieldType.int) ∈ W0 := W0_c tk_4 (i := 172) rfl rfl
theorem wd_893 : (Jvm.Cond.methodLink "SpongeDigestsLaw" (56 : Nat) ({ cls := "SpongeDigestsModel", name := "thrown", desc := "()I" } : Jvm.MethodName)) ∈ W0 := W0_c tk_4 (i := 173) rfl rfl
theorem wd_894 : (Jvm.Cond.instanceMethod ({ cls := "SpongeDigestsModel", name := "thrown", desc := "()I" } : Jvm.MethodName)) ∈ W0 := W0_c tk_4 (i := 174) rfl rfl
theorem wd_895 : (Jvm.Cond.selects "SpongeDigestsModel" ({ cls := "SpongeDigestsModel", name := "thrown", desc := "()I" } : Jvm.MethodName) ({ cls := "SpongeDigestsModel", name := "thrown", desc := "()I" } : Jvm.MethodName)) ∈ W0 := W0_c tk_4 (i := 175) rfl rfl
theorem wd_896 : (Jvm.Cond.code ({ cls := "SpongeDigestsModel", name := "thrown", desc := "()I" } : Jvm.MethodName) prog_6_method_2_code (1 : Nat) (Option.some Jvm.ClassFile.FieldType.int)) ∈ W0 := W0_c tk_4 (i := 176) rfl rfl
theorem wd_897 : (Jvm.Cond.methodLink "SpongeDigestsLaw" (55 : Nat) ({ cls := "SpongeDigestsModel", name := "feed", desc := "(IIIII)I" } : Jvm.MethodName)) ∈ W0 := W0_c tk_4 (i := 177) rfl rfl
theorem wd_898 : (Jvm.Cond.instanceMethod ({ cls := "SpongeDigestsModel", name := "feed", desc := "(IIIII)I" } : Jvm.MethodName)) ∈ W0 := W0_c tk_4 (i := 178) rfl rfl
theorem wd_899 : (Jvm.Cond.selects "SpongeDigestsModel" ({ cls := "SpongeDigestsModel", name := "feed", desc := "(IIIII)I" } : Jvm.MethodName) ({ cls := "SpongeDigestsModel", name := "feed", desc := "(IIIII)I" } : Jvm.MethodName)) ∈ W0 := W0_c tk_4 (i := 179) rfl rfl
theorem wd_900 : (Jvm.Cond.code ({ cls := "SpongeDigestsModel", name := "feed", desc := "(IIIII)I" } : Jvm.MethodName) prog_6_method_5_code (6 : Nat) (Option.some Jvm.ClassFile.FieldType.int)) ∈ W0 := W0_c tk_4 (i := 180) rfl rfl
theorem wd_901 : (Jvm.Cond.methodLink "SpongeDigestsModel" (78 : Nat) ({ cls := "SpongeDigestsModel", name := "good", desc := "(ZI)Z" } : Jvm.MethodName)) ∈ W0 := W0_c tk_4 (i := 181) rfl rfl
theorem wd_903 : (Jvm.Cond.instanceMethod ({ cls := "SpongeDigestsModel", name := "good", desc := "(ZI)Z" } : Jvm.MethodName)) ∈ W0 := W0_c tk_4 (i := 183) rfl rfl
theorem wd_904 : (Jvm.Cond.code ({ cls := "SpongeDigestsModel", name := "good", desc := "(ZI)Z" } : Jvm.MethodName) prog_6_method_4_code (3 : Nat) (Option.some Jvm.ClassFile.FieldType.boolean)) ∈ W0 := W0_c tk_4 (i := 184) rfl rfl
theorem wd_905 : (Jvm.Cond.methodLink "SpongeDigestsModel" (82 : Nat) ({ cls := "SpongeDigestsModel", name := "word", desc := "(I)V" } : Jvm.MethodName)) ∈ W0 := W0_c tk_4 (i := 185) rfl rfl
theorem wd_907 : (Jvm.Cond.instanceMethod ({ cls := "SpongeDigestsModel", name := "word", desc := "(I)V" } : Jvm.MethodName)) ∈ W0 := W0_c tk_4 (i := 187) rfl rfl
theorem wd_908 : (Jvm.Cond.code ({ cls := "SpongeDigestsModel", name := "word", desc := "(I)V" } : Jvm.MethodName) prog_6_method_6_code (3 : Nat) (Option.none : Option Jvm.ClassFile.FieldType)) ∈ W0 := W0_c tk_4 (i := 188) rfl rfl
theorem wd_909 : (Jvm.Cond.methodLink "SpongeDigestsLaw" (63 : Nat) ({ cls := "SpongeDigestsModel", name := "end", desc := "(II)I" } : Jvm.MethodName)) ∈ W0 := W0_c tk_4 (i := 189) rfl rfl
theorem wd_910 : (Jvm.Cond.instanceMethod ({ cls := "SpongeDigestsModel", name := "end", desc := "(II)I" } : Jvm.MethodName)) ∈ W0 := W0_c tk_4 (i := 190) rfl rfl
theorem wd_911 : (Jvm.Cond.selects "SpongeDigestsModel" ({ cls := "SpongeDigestsModel", name := "end", desc := "(II)I" } : Jvm.MethodName) ({ cls := "SpongeDigestsModel", name := "end", desc := "(II)I" } : Jvm.MethodName)) ∈ W0 := W0_c tk_4 (i := 191) rfl rfl
theorem wd_912 : (Jvm.Cond.code ({ cls := "SpongeDigestsModel", name := "end", desc := "(II)I" } : Jvm.MethodName) prog_6_method_7_code (4 : Nat) (Option.some Jvm.ClassFile.FieldType.int)) ∈ W0 := W0_c tk_4 (i := 192) rfl rfl
theorem wd_913 : (Jvm.Cond.methodLink "SpongeDigestsModel" (86 : Nat) ({ cls := "SpongeDigestsModel", name := "in", desc := "(III)Z" } : Jvm.MethodName)) ∈ W0 := W0_c tk_4 (i := 193) rfl rfl
theorem wd_914 : (Jvm.Cond.static ({ cls := "SpongeDigestsModel", name := "in", desc := "(III)Z" } : Jvm.MethodName)) ∈ W0 := W0_c tk_4 (i := 194) rfl rfl
theorem wd_915 : (Jvm.Cond.code ({ cls := "SpongeDigestsModel", name := "in", desc := "(III)Z" } : Jvm.MethodName) prog_6_method_3_code (3 : Nat) (Option.some Jvm.ClassFile.FieldType.boolean)) ∈ W0 := W0_c tk_4 (i := 195) rfl rfl
theorem wd_916 : (Jvm.Cond.methodLink "SpongeDigestsLaw" (66 : Nat) ({ cls := "SpongeDigestsModel", name := "copy", desc := "(II)I" } : Jvm.MethodName)) ∈ W0 := W0_c tk_4 (i := 196) rfl rfl
theorem wd_917 : (Jvm.Cond.instanceMethod ({ cls := "SpongeDigestsModel", name := "copy", desc := "(II)I" } : Jvm.MethodName)) ∈ W0 := W0_c tk_4 (i := 197) rfl rfl
theorem wd_918 : (Jvm.Cond.selects "SpongeDigestsModel" ({ cls := "SpongeDigestsModel", name := "copy", desc := "(II)I" } : Jvm.MethodName) ({ cls := "SpongeDigestsModel", name := "copy", desc := "(II)I" } : Jvm.MethodName)) ∈ W0 := W0_c tk_4 (i := 198) rfl rfl
theorem wd_919 : (Jvm.Cond.code ({ cls := "SpongeDigestsModel", name := "copy", desc := "(II)I" } : Jvm.MethodName) prog_6_method_8_code (4 : Nat) (Option.some Jvm.ClassFile.FieldType.int)) ∈ W0 := W0_c tk_4 (i := 199) rfl rfl
theorem wd_920 : (Jvm.Cond.methodLink "SpongeDigestsLaw" (69 : Nat) ({ cls := "SpongeDigestsModel", name := "resize", desc := "(II)I" } : Jvm.MethodName)) ∈ W0 := W0_c tk_4 (i := 200) rfl rfl
theorem wd_921 : (Jvm.Cond.instanceMethod ({ cls := "SpongeDigestsModel", name := "resize", desc := "(II)I" } : Jvm.MethodName)) ∈ W0 := W0_c tk_4 (i := 201) rfl rfl
theorem wd_922 : (Jvm.Cond.selects "SpongeDigestsModel" ({ cls := "SpongeDigestsModel", name := "resize", desc := "(II)I" } : Jvm.MethodName) ({ cls := "SpongeDigestsModel", name := "resize", desc := "(II)I" } : Jvm.MethodName)) ∈ W0 := W0_c tk_4 (i := 202) rfl rfl
theorem wd_923 : (Jvm.Cond.code ({ cls := "SpongeDigestsModel", name := "resize", desc := "(II)I" } : Jvm.MethodName) prog_6_method_9_code (5 : Nat) (Option.some Jvm.ClassFile.FieldType.int)) ∈ W0 := W0_c tk_4 (i := 203) rfl rfl
theorem wd_924 : (Jvm.Cond.methodLink "SpongeDigestsLaw" (73 : Nat) ({ cls := "SpongeDigestsModel", name := "alter", desc := "(III)I" } : Jvm.MethodName)) ∈ W0 := W0_c tk_4 (i := 204) rfl rfl
theorem wd_925 : (Jvm.Cond.instanceMethod ({ cls := "SpongeDigestsModel", name := "alter", desc := "(III)I" } : Jvm.MethodName)) ∈ W0 := W0_c tk_4 (i := 205) rfl rfl
theorem wd_926 : (Jvm.Cond.selects "SpongeDigestsModel" ({ cls := "SpongeDigestsModel", name := "alter", desc := "(III)I" } : Jvm.MethodName) ({ cls := "SpongeDigestsModel", name := "alter", desc := "(III)I" } : Jvm.MethodName)) ∈ W0 := W0_c tk_4 (i := 206) rfl rfl
theorem wd_927 : (Jvm.Cond.code ({ cls := "SpongeDigestsModel", name := "alter", desc := "(III)I" } : Jvm.MethodName) prog_6_method_10_code (4 : Nat) (Option.some Jvm.ClassFile.FieldType.int)) ∈ W0 := W0_c tk_4 (i := 207) rfl rfl
theorem wd_928 : (Jvm.Cond.methodLink "SpongeDigestsLaw" (77 : Nat) ({ cls := "SpongeDigestsModel", name := "length", desc := "(I)I" } : Jvm.MethodName)) ∈ W0 := W0_c tk_4 (i := 208) rfl rfl
theorem wd_929 : (Jvm.Cond.instanceMethod ({ cls := "SpongeDigestsModel", name := "length", desc := "(I)I" } : Jvm.MethodName)) ∈ W0 := W0_c tk_4 (i := 209) rfl rfl
theorem wd_930 : (Jvm.Cond.selects "SpongeDigestsModel" ({ cls := "SpongeDigestsModel", name := "length", desc := "(I)I" } : Jvm.MethodName) ({ cls := "SpongeDigestsModel", name := "length", desc := "(I)I" } : Jvm.MethodName)) ∈ W0 := W0_c tk_4 (i := 210) rfl rfl
theorem wd_931 : (Jvm.Cond.code ({ cls := "SpongeDigestsModel", name := "length", desc := "(I)I" } : Jvm.MethodName) prog_6_method_11_code (2 : Nat) (Option.some Jvm.ClassFile.FieldType.int)) ∈ W0 := W0_c tk_4 (i := 211) rfl rfl
theorem wd_932 : (Jvm.Cond.methodLink "SpongeDigestsLaw" (80 : Nat) ({ cls := "SpongeDigestsModel", name := "word", desc := "(II)J" } : Jvm.MethodName)) ∈ W0 := W0_c tk_4 (i := 212) rfl rfl
theorem wd_933 : (Jvm.Cond.instanceMethod ({ cls := "SpongeDigestsModel", name := "word", desc := "(II)J" } : Jvm.MethodName)) ∈ W0 := W0_c tk_4 (i := 213) rfl rfl
theorem wd_934 : (Jvm.Cond.selects "SpongeDigestsModel" ({ cls := "SpongeDigestsModel", name := "word", desc := "(II)J" } : Jvm.MethodName) ({ cls := "SpongeDigestsModel", name := "word", desc := "(II)J" } : Jvm.MethodName)) ∈ W0 := W0_c tk_4 (i := 214) rfl rfl
theorem wd_935 : (Jvm.Cond.code ({ cls := "SpongeDigestsModel", name := "word", desc := "(II)J" } : Jvm.MethodName) prog_6_method_12_code (6 : Nat) (Option.some Jvm.ClassFile.FieldType.long)) ∈ W0 := W0_c tk_4 (i := 215) rfl rfl
theorem wd_936 : (Jvm.Cond.methodLink "SpongeDigestsLaw" (83 : Nat) ({ cls := "SpongeDigestsModel", name := "same", desc := "(II)Z" } : Jvm.MethodName)) ∈ W0 := W0_c tk_4 (i := 216) rfl rfl
theorem wd_937 : (Jvm.Cond.instanceMethod ({ cls := "SpongeDigestsModel", name := "same", desc := "(II)Z" } : Jvm.MethodName)) ∈ W0 := W0_c tk_4 (i := 217) rfl rfl
theorem wd_938 : (Jvm.Cond.selects "SpongeDigestsModel" ({ cls := "SpongeDigestsModel", name := "same", desc := "(II)Z" } : Jvm.MethodName) ({ cls := "SpongeDigestsModel", name := "same", desc := "(II)Z" } : Jvm.MethodName)) ∈ W0 := W0_c tk_4 (i := 218) rfl rfl
theorem wd_939 : (Jvm.Cond.code ({ cls := "SpongeDigestsModel", name := "same", desc := "(II)Z" } : Jvm.MethodName) prog_6_method_13_code (5 : Nat) (Option.some Jvm.ClassFile.FieldType.boolean)) ∈ W0 := W0_c tk_4 (i := 219) rfl rfl
theorem wd_940 : (Jvm.Cond.methodLink "SpongeDigestsLaw" (86 : Nat) ({ cls := "SpongeDigestsModel", name := "digest", desc := "(II)I" } : Jvm.MethodName)) ∈ W0 := W0_c tk_4 (i := 220) rfl rfl
theorem wd_941 : (Jvm.Cond.instanceMethod ({ cls := "SpongeDigestsModel", name := "digest", desc := "(II)I" } : Jvm.MethodName)) ∈ W0 := W0_c tk_4 (i := 221) rfl rfl
theorem wd_942 : (Jvm.Cond.selects "SpongeDigestsModel" ({ cls := "SpongeDigestsModel", name := "digest", desc := "(II)I" } : Jvm.MethodName) ({ cls := "SpongeDigestsModel", name := "digest", desc := "(II)I" } : Jvm.MethodName)) ∈ W0 := W0_c tk_4 (i := 222) rfl rfl
theorem wd_943 : (Jvm.Cond.code ({ cls := "SpongeDigestsModel", name := "digest", desc := "(II)I" } : Jvm.MethodName) prog_6_method_41_code (5 : Nat) (Option.some Jvm.ClassFile.FieldType.int)) ∈ W0 := W0_c tk_4 (i := 223) rfl rfl
theorem wd_944 : (Jvm.Cond.methodLink "SpongeDigestsModel" (182 : Nat) ({ cls := "SpongeDigestsModel", name := "put", desc := "([BII)V" } : Jvm.MethodName)) ∈ W0 := W0_c tk_4 (i := 224) rfl rfl
theorem wd_946 : (Jvm.Cond.instanceMethod ({ cls := "SpongeDigestsModel", name := "put", desc := "([BII)V" } : Jvm.MethodName)) ∈ W0 := W0_c tk_4 (i := 226) rfl rfl
theorem wd_947 : (Jvm.Cond.code ({ cls := "SpongeDigestsModel", name := "put", desc := "([BII)V" } : Jvm.MethodName) prog_6_method_28_code (5 : Nat) (Option.none : Option Jvm.ClassFile.FieldType)) ∈ W0 := W0_c tk_4 (i := 227) rfl rfl
theorem wd_948 : (Jvm.Cond.methodLink "SpongeDigestsModel" (185 : Nat) ({ cls := "SpongeDigestsModel", name := "give", desc := "([BII)V" } : Jvm.MethodName)) ∈ W0 := W0_c tk_4 (i := 228) rfl rfl
theorem wd_950 : (Jvm.Cond.instanceMethod ({ cls := "SpongeDigestsModel", name := "give", desc := "([BII)V" } : Jvm.MethodName)) ∈ W0 := W0_c tk_4 (i := 230) rfl rfl
theorem wd_951 : (Jvm.Cond.code ({ cls := "SpongeDigestsModel", name := "give", desc := "([BII)V" } : Jvm.MethodName) prog_6_method_37_code (5 : Nat) (Option.none : Option Jvm.ClassFile.FieldType)) ∈ W0 := W0_c tk_4 (i := 231) rfl rfl
theorem wd_952 : (Jvm.Cond.methodLink "SpongeDigestsModel" (178 : Nat) ({ cls := "SpongeDigestsModel", name := "squeeze", desc := "()I" } : Jvm.MethodName)) ∈ W0 := W0_c tk_4 (i := 232) rfl rfl
theorem wd_954 : (Jvm.Cond.instanceMethod ({ cls := "SpongeDigestsModel", name := "squeeze", desc := "()I" } : Jvm.MethodName)) ∈ W0 := W0_c tk_4 (i := 234) rfl rfl
theorem wd_955 : (Jvm.Cond.code ({ cls := "SpongeDigestsModel", name := "squeeze", desc := "()I" } : Jvm.MethodName) prog_6_method_36_code (2 : Nat) (Option.some Jvm.ClassFile.FieldType.int)) ∈ W0 := W0_c tk_4 (i := 235) rfl rfl
theorem wd_956 : (Jvm.Cond.methodLink "SpongeDigestsModel" (192 : Nat) ({ cls := "SpongeDigestsModel", name := "startMac", desc := "(I[BII)V" } : Jvm.MethodName)) ∈ W0 := W0_c tk_4 (i := 236) rfl rfl
theorem wd_958 : (Jvm.Cond.instanceMethod ({ cls := "SpongeDigestsModel", name := "startMac", desc := "(I[BII)V" } : Jvm.MethodName)) ∈ W0 := W0_c tk_4 (i := 238) rfl rfl
theorem wd_959 : (Jvm.Cond.code ({ cls := "SpongeDigestsModel", name := "startMac", desc := "(I[BII)V" } : Jvm.MethodName) prog_6_method_38_code (7 : Nat) (Option.none : Option Jvm.ClassFile.FieldType)) ∈ W0 := W0_c tk_4 (i := 239) rfl rfl
theorem wd_960 : (Jvm.Cond.methodLink "SpongeDigestsModel" (188 : Nat) ({ cls := "SpongeDigestsModel", name := "move", desc := "([BI[BII)V" } : Jvm.MethodName)) ∈ W0 := W0_c tk_5 (i := 0) rfl rfl
theorem wd_961 : (Jvm.Cond.static ({ cls := "SpongeDigestsModel", name := "move", desc := "([BI[BII)V" } : Jvm.MethodName)) ∈ W0 := W0_c tk_5 (i := 1) rfl rfl
theorem wd_962 : (Jvm.Cond.code ({ cls := "SpongeDigestsModel", name := "move", desc := "([BI[BII)V" } : Jvm.MethodName) prog_6_method_14_code (6 : Nat) (Option.none : Option Jvm.ClassFile.FieldType)) ∈ W0 := W0_c tk_5 (i := 2) rfl rfl
theorem wd_963 : (Jvm.Cond.methodLink "SpongeDigestsModel" (196 : Nat) ({ cls := "SpongeDigestsModel", name := "endMac", desc := "(I[BII)V" } : Jvm.MethodName)) ∈ W0 := W0_c tk_5 (i := 3) rfl rfl
theorem wd_965 : (Jvm.Cond.instanceMethod ({ cls := "SpongeDigestsModel", name := "endMac", desc := "(I[BII)V" } : Jvm.MethodName)) ∈ W0 := W0_c tk_5 (i := 5) rfl rfl
theorem wd_966 : (Jvm.Cond.code ({ cls := "SpongeDigestsModel", name := "endMac", desc := "(I[BII)V" } : Jvm.MethodName) prog_6_method_39_code (7 : Nat) (Option.none : Option Jvm.ClassFile.FieldType)) ∈ W0 := W0_c tk_5 (i := 6) rfl rfl
theorem wd_967 : (Jvm.Cond.methodLink "SpongeDigestsModel" (199 : Nat) ({ cls := "SpongeDigestsModel", name := "mask", desc := "(I[BI[BII)V" } : Jvm.MethodName)) ∈ W0 := W0_c tk_5 (i := 7) rfl rfl
theorem wd_969 : (Jvm.Cond.instanceMethod ({ cls := "SpongeDigestsModel", name := "mask", desc := "(I[BI[BII)V" } : Jvm.MethodName)) ∈ W0 := W0_c tk_5 (i := 9) rfl rfl
theorem wd_970 : (Jvm.Cond.code ({ cls := "SpongeDigestsModel", name := "mask", desc := "(I[BI[BII)V" } : Jvm.MethodName) prog_6_method_40_code (10 : Nat) (Option.none : Option Jvm.ClassFile.FieldType)) ∈ W0 := W0_c tk_5 (i := 10) rfl rfl
theorem wn_0 : (Jvm.Cond.methodLinkNest "SpongeDigests" (15 : Nat) ({ cls := "SpongeDigests$Bytes", name := "<init>", desc := "()V" } : Jvm.MethodName) "SpongeDigests") ∈ nestWords := List.mem_of_getElem? (i := 0) rfl
theorem wn_1 : (Jvm.Cond.fieldLinkNest "SpongeDigests" (100 : Nat) "SpongeDigests$Bytes" "data" "[B" "SpongeDigests") ∈ nestWords := List.mem_of_getElem? (i := 1) rfl
theorem wn_2 : (Jvm.Cond.fieldLinkNest "SpongeDigests" (66 : Nat) "SpongeDigests$Bytes" "size" "I" "SpongeDigests") ∈ nestWords := List.mem_of_getElem? (i := 2) rfl
theorem wn_3 : (Jvm.Cond.methodLinkNest "SpongeDigests" (22 : Nat) ({ cls := "SpongeDigests$Sponge", name := "<init>", desc := "()V" } : Jvm.MethodName) "SpongeDigests") ∈ nestWords := List.mem_of_getElem? (i := 3) rfl
theorem wn_4 : (Jvm.Cond.methodLinkNest "SpongeDigests" (33 : Nat) ({ cls := "SpongeDigests$BlockHash", name := "<init>", desc := "(II[I)V" } : Jvm.MethodName) "SpongeDigests") ∈ nestWords := List.mem_of_getElem? (i := 4) rfl
theorem wn_5 : (Jvm.Cond.fieldLinkNest "SpongeDigests" (46 : Nat) "SpongeDigests$BlockHash" "blockBytes" "I" "SpongeDigests") ∈ nestWords := List.mem_of_getElem? (i := 5) rfl
theorem wn_6 : (Jvm.Cond.fieldLinkNest "SpongeDigests" (57 : Nat) "SpongeDigests$BlockHash" "resultBytes" "I" "SpongeDigests") ∈ nestWords := List.mem_of_getElem? (i := 6) rfl
theorem wn_7 : (Jvm.Cond.methodLinkNest "SpongeDigests" (76 : Nat) ({ cls := "SpongeDigests$Bytes", name := "append", desc := "(I)V" } : Jvm.MethodName) "SpongeDigests") ∈ nestWords := List.mem_of_getElem? (i := 7) rfl
theorem wn_8 : (Jvm.Cond.methodLinkNest "SpongeDigests" (90 : Nat) ({ cls := "SpongeDigests$Bytes", name := "take", desc := "(LSpongeDigests$Bytes;I)V" } : Jvm.MethodName) "SpongeDigests") ∈ nestWords := List.mem_of_getElem? (i := 8) rfl
theorem wn_9 : (Jvm.Cond.methodLinkNest "SpongeDigests" (94 : Nat) ({ cls := "SpongeDigests$Bytes", name := "cutOrFill", desc := "(I)V" } : Jvm.MethodName) "SpongeDigests") ∈ nestWords := List.mem_of_getElem? (i := 9) rfl
theorem wn_10 : (Jvm.Cond.methodLinkNest "SpongeDigests" (103 : Nat) ({ cls := "SpongeDigests$Bytes", name := "eightFrom", desc := "(I)J" } : Jvm.MethodName) "SpongeDigests") ∈ nestWords := List.mem_of_getElem? (i := 10) rfl
theorem wn_11 : (Jvm.Cond.methodLinkNest "SpongeDigests" (107 : Nat) ({ cls := "SpongeDigests$Bytes", name := "matches", desc := "(LSpongeDigests$Bytes;)Z" } : Jvm.MethodName) "SpongeDigests") ∈ nestWords := List.mem_of_getElem? (i := 11) rfl
theorem wn_12 : (Jvm.Cond.methodLinkNest "SpongeDigests" (151 : Nat) ({ cls := "SpongeDigests$BlockHash", name := "begin", desc := "([J)V" } : Jvm.MethodName) "SpongeDigests") ∈ nestWords := List.mem_of_getElem? (i := 12) rfl
theorem wn_13 : (Jvm.Cond.methodLinkNest "SpongeDigests" (155 : Nat) ({ cls := "SpongeDigests$BlockHash", name := "absorb", desc := "([BII)V" } : Jvm.MethodName) "SpongeDigests") ∈ nestWords := List.mem_of_getElem? (i := 13) rfl
theorem wn_14 : (Jvm.Cond.fieldLinkNest "SpongeDigests$BlockHash" (84 : Nat) "SpongeDigests" "CUBE_ROOTS" "[J" "SpongeDigests") ∈ nestWords := List.mem_of_getElem? (i := 14) rfl
theorem wn_15 : (Jvm.Cond.methodLinkNest "SpongeDigests" (159 : Nat) ({ cls := "SpongeDigests$BlockHash", name := "finish", desc := "([BII)V" } : Jvm.MethodName) "SpongeDigests") ∈ nestWords := List.mem_of_getElem? (i := 15) rfl
theorem wn_16 : (Jvm.Cond.methodLinkNest "SpongeDigests" (162 : Nat) ({ cls := "SpongeDigests$Sponge", name := "absorb", desc := "(II[BI)V" } : Jvm.MethodName) "SpongeDigests") ∈ nestWords := List.mem_of_getElem? (i := 16) rfl
theorem wn_17 : (Jvm.Cond.fieldLinkNest "SpongeDigests$Sponge" (50 : Nat) "SpongeDigests" "LANE_TARGETS" "[I" "SpongeDigests") ∈ nestWords := List.mem_of_getElem? (i := 17) rfl
theorem wn_18 : (Jvm.Cond.fieldLinkNest "SpongeDigests$Sponge" (54 : Nat) "SpongeDigests" "LANE_TURNS" "[I" "SpongeDigests") ∈ nestWords := List.mem_of_getElem? (i := 18) rfl
theorem wn_19 : (Jvm.Cond.fieldLinkNest "SpongeDigests$Sponge" (43 : Nat) "SpongeDigests" "ROUND_CONSTANTS" "[J" "SpongeDigests") ∈ nestWords := List.mem_of_getElem? (i := 19) rfl
theorem wn_20 : (Jvm.Cond.methodLinkNest "SpongeDigests" (165 : Nat) ({ cls := "SpongeDigests$Sponge", name := "squeeze", desc := "(I[BI)V" } : Jvm.MethodName) "SpongeDigests") ∈ nestWords := List.mem_of_getElem? (i := 20) rfl
theorem wn_21 : (Jvm.Cond.methodLinkNest "SpongeDigests" (187 : Nat) ({ cls := "SpongeDigests$BlockHash", name := "setMark", desc := "()V" } : Jvm.MethodName) "SpongeDigests") ∈ nestWords := List.mem_of_getElem? (i := 21) rfl
theorem wn_22 : (Jvm.Cond.methodLinkNest "SpongeDigests" (199 : Nat) ({ cls := "SpongeDigests$BlockHash", name := "goToMark", desc := "()V" } : Jvm.MethodName) "SpongeDigests") ∈ nestWords := List.mem_of_getElem? (i := 22) rfl
end
section
abbrev b_D_init : ByteArray := prog_1_method_1_code
def y_D_init : MethodName := ⟨R_D, "<init>", "()V"⟩
abbrev b_Y_init : ByteArray := prog_3_method_1_code
def y_Y_init : MethodName := ⟨R_Y, "<init>", "()V"⟩
abbrev b_P_init : ByteArray := prog_4_method_1_code
def y_P_init : MethodName := ⟨R_P, "<init>", "()V"⟩
abbrev b_H_init : ByteArray := prog_2_method_1_code
def y_H_init : MethodName := ⟨R_H, "<init>", "(II[I)V"⟩
abbrev b_L_feed : ByteArray := method_3_code
def y_L_feed : MethodName := ⟨R_L, "feed", "(LSpongeDigests;IIIII[J)I"⟩
abbrev b_D_feed : ByteArray := prog_1_method_2_code
def y_D_feed : MethodName := ⟨R_D, "feed", "(IIIII)I"⟩
abbrev b_Y_append : ByteArray := prog_3_method_2_code
def y_Y_append : MethodName := ⟨R_Y, "append", "(I)V"⟩
abbrev b_L_end : ByteArray := method_4_code
def y_L_end : MethodName := ⟨R_L, "end", "(LSpongeDigests;II[J)I"⟩
abbrev b_D_end : ByteArray := prog_1_method_3_code
def y_D_end : MethodName := ⟨R_D, "end", "(II)I"⟩
abbrev b_D_slotAt : ByteArray := prog_1_method_11_code
def y_D_slotAt : MethodName := ⟨R_D, "slotAt", "(I)LSpongeDigests$Bytes;"⟩
abbrev b_D_requireWithin : ByteArray := prog_1_method_12_code
def y_D_requireWithin : MethodName := ⟨R_D, "requireWithin", "(III)V"⟩
abbrev b_Y_take : ByteArray := prog_3_method_3_code
def y_Y_take : MethodName := ⟨R_Y, "take", "(LSpongeDigests$Bytes;I)V"⟩
abbrev b_L_copy : ByteArray := method_5_code
def y_L_copy : MethodName := ⟨R_L, "copy", "(LSpongeDigests;II[J)I"⟩
abbrev b_D_copy : ByteArray := prog_1_method_4_code
def y_D_copy : MethodName := ⟨R_D, "copy", "(II)I"⟩
abbrev b_L_resize : ByteArray := method_6_code
def y_L_resize : MethodName := ⟨R_L, "resize", "(LSpongeDigests;II[J)I"⟩
abbrev b_D_resize : ByteArray := prog_1_method_5_code
def y_D_resize : MethodName := ⟨R_D, "resize", "(II)I"⟩
abbrev b_Y_cutOrFill : ByteArray := prog_3_method_4_code
def y_Y_cutOrFill : MethodName := ⟨R_Y, "cutOrFill", "(I)V"⟩
abbrev b_J_fill : ByteArray := prog_22_method_110_code
def y_J_fill : MethodName := ⟨"java/util/Arrays", "fill", "([BIIB)V"⟩
abbrev b_J_rangeCheck : ByteArray := prog_22_method_30_code
def y_J_rangeCheck : MethodName := ⟨"java/util/Arrays", "rangeCheck", "(III)V"⟩
abbrev b_L_alter : ByteArray := method_7_code
def y_L_alter : MethodName := ⟨R_L, "alter", "(LSpongeDigests;III[J)I"⟩
abbrev b_D_alter : ByteArray := prog_1_method_6_code
def y_D_alter : MethodName := ⟨R_D, "alter", "(III)I"⟩
abbrev b_D_requirePlace : ByteArray := prog_1_method_13_code
def y_D_requirePlace : MethodName := ⟨R_D, "requirePlace", "(LSpongeDigests$Bytes;I)V"⟩
abbrev b_L_length : ByteArray := method_8_code
def y_L_length : MethodName := ⟨R_L, "length", "(LSpongeDigests;I[J)I"⟩
abbrev b_D_length : ByteArray := prog_1_method_7_code
def y_D_length : MethodName := ⟨R_D, "length", "(I)I"⟩
abbrev b_L_word : ByteArray := method_9_code
def y_L_word : MethodName := ⟨R_L, "word", "(LSpongeDigests;II[J)I"⟩
abbrev b_D_word : ByteArray := prog_1_method_8_code
def y_D_word : MethodName := ⟨R_D, "word", "(II)J"⟩
abbrev b_Y_eightFrom : ByteArray := prog_3_method_5_code
def y_Y_eightFrom : MethodName := ⟨R_Y, "eightFrom", "(I)J"⟩
abbrev b_L_same : ByteArray := method_10_code
def y_L_same : MethodName := ⟨R_L, "same", "(LSpongeDigests;II[J)I"⟩
abbrev b_D_same : ByteArray := prog_1_method_9_code
def y_D_same : MethodName := ⟨R_D, "same", "(II)Z"⟩
abbrev b_Y_matches : ByteArray := prog_3_method_6_code
def y_Y_matches : MethodName := ⟨R_Y, "matches", "(LSpongeDigests$Bytes;)Z"⟩
abbrev b_L_digest : ByteArray := method_11_code
def y_L_digest : MethodName := ⟨R_L, "digest", "(LSpongeDigests;II[J)I"⟩
abbrev b_D_digest : ByteArray := prog_1_method_10_code
def y_D_digest : MethodName := ⟨R_D, "digest", "(II)I"⟩
abbrev b_D_hashInBlocks : ByteArray := prog_1_method_14_code
def y_D_hashInBlocks : MethodName := ⟨R_D, "hashInBlocks", "(LSpongeDigests$BlockHash;[JI)V"⟩
abbrev b_H_begin : ByteArray := prog_2_method_2_code
def y_H_begin : MethodName := ⟨R_H, "begin", "([J)V"⟩
abbrev b_H_absorb : ByteArray := prog_2_method_3_code
def y_H_absorb : MethodName := ⟨R_H, "absorb", "([BII)V"⟩
abbrev b_H_compress : ByteArray := prog_2_method_8_code
def y_H_compress : MethodName := ⟨R_H, "compress", "()V"⟩
abbrev b_H_fillSchedule : ByteArray := prog_2_method_10_code
def y_H_fillSchedule : MethodName := ⟨R_H, "fillSchedule", "()V"⟩
abbrev b_H_twoTurnsAndShift : ByteArray := prog_2_method_12_code
def y_H_twoTurnsAndShift : MethodName := ⟨R_H, "twoTurnsAndShift", "(JI)J"⟩
abbrev b_H_rotr : ByteArray := prog_2_method_13_code
def y_H_rotr : MethodName := ⟨R_H, "rotr", "(JI)J"⟩
abbrev b_H_threeTurns : ByteArray := prog_2_method_11_code
def y_H_threeTurns : MethodName := ⟨R_H, "threeTurns", "(JI)J"⟩
abbrev b_H_addToState : ByteArray := prog_2_method_9_code
def y_H_addToState : MethodName := ⟨R_H, "addToState", "(IJJJJ)V"⟩
abbrev b_H_finish : ByteArray := prog_2_method_6_code
def y_H_finish : MethodName := ⟨R_H, "finish", "([BII)V"⟩
abbrev b_H_writeState : ByteArray := prog_2_method_7_code
def y_H_writeState : MethodName := ⟨R_H, "writeState", "([BII)V"⟩
abbrev b_D_hashInSponge : ByteArray := prog_1_method_15_code
def y_D_hashInSponge : MethodName := ⟨R_D, "hashInSponge", "(III)V"⟩
abbrev b_P_absorb : ByteArray := prog_4_method_2_code
def y_P_absorb : MethodName := ⟨R_P, "absorb", "(II[BI)V"⟩
abbrev b_J_fill2 : ByteArray := prog_22_method_101_code
def y_J_fill2 : MethodName := ⟨"java/util/Arrays", "fill", "([JJ)V"⟩
abbrev b_P_mixIn : ByteArray := prog_4_method_4_code
def y_P_mixIn : MethodName := ⟨R_P, "mixIn", "(II)V"⟩
abbrev b_P_permute : ByteArray := prog_4_method_5_code
def y_P_permute : MethodName := ⟨R_P, "permute", "()V"⟩
abbrev b_P_mixColumns : ByteArray := prog_4_method_6_code
def y_P_mixColumns : MethodName := ⟨R_P, "mixColumns", "()V"⟩
abbrev b_P_rotl : ByteArray := prog_4_method_9_code
def y_P_rotl : MethodName := ⟨R_P, "rotl", "(JI)J"⟩
abbrev b_P_turnAndMove : ByteArray := prog_4_method_7_code
def y_P_turnAndMove : MethodName := ⟨R_P, "turnAndMove", "()V"⟩
abbrev b_P_mixRows : ByteArray := prog_4_method_8_code
def y_P_mixRows : MethodName := ⟨R_P, "mixRows", "()V"⟩
abbrev b_P_squeeze : ByteArray := prog_4_method_3_code
def y_P_squeeze : MethodName := ⟨R_P, "squeeze", "(I[BI)V"⟩
abbrev b_D_hashWithKey : ByteArray := prog_1_method_16_code
def y_D_hashWithKey : MethodName := ⟨R_D, "hashWithKey", "(LSpongeDigests$BlockHash;[J)V"⟩
abbrev b_D_setKey : ByteArray := prog_1_method_17_code
def y_D_setKey : MethodName := ⟨R_D, "setKey", "(LSpongeDigests$BlockHash;[J)V"⟩
abbrev b_J_fill3 : ByteArray := prog_22_method_109_code
def y_J_fill3 : MethodName := ⟨"java/util/Arrays", "fill", "([BB)V"⟩
abbrev b_D_beginWithKey : ByteArray := prog_1_method_18_code
def y_D_beginWithKey : MethodName := ⟨R_D, "beginWithKey", "(LSpongeDigests$BlockHash;[JI)V"⟩
abbrev b_D_hashWithCounter : ByteArray := prog_1_method_19_code
def y_D_hashWithCounter : MethodName := ⟨R_D, "hashWithCounter", "(LSpongeDigests$BlockHash;[JI)V"⟩
abbrev b_H_setMark : ByteArray := prog_2_method_4_code
def y_H_setMark : MethodName := ⟨R_H, "setMark", "()V"⟩
abbrev b_D_setCounter : ByteArray := prog_1_method_20_code
def y_D_setCounter : MethodName := ⟨R_D, "setCounter", "(I)V"⟩
abbrev b_H_goToMark : ByteArray := prog_2_method_5_code
def y_H_goToMark : MethodName := ⟨R_H, "goToMark", "()V"⟩
abbrev b_O_init : ByteArray := prog_6_method_1_code
def y_O_init : MethodName := ⟨R_O, "<init>", "()V"⟩
abbrev b_O_constants : ByteArray := prog_6_method_19_code
def y_O_constants : MethodName := ⟨R_O, "constants", "()V"⟩
abbrev b_O_prime : ByteArray := prog_6_method_16_code
def y_O_prime : MethodName := ⟨R_O, "prime", "(I)Z"⟩
abbrev b_O_root : ByteArray := prog_6_method_18_code
def y_O_root : MethodName := ⟨R_O, "root", "(II)J"⟩
abbrev b_O_above : ByteArray := prog_6_method_17_code
def y_O_above : MethodName := ⟨R_O, "above", "(IJII)Z"⟩
abbrev b_O_bit : ByteArray := prog_6_method_20_code
def y_O_bit : MethodName := ⟨R_O, "bit", "(I)I"⟩
abbrev b_O_named : ByteArray := prog_6_method_21_code
def y_O_named : MethodName := ⟨R_O, "named", "([JII)V"⟩
abbrev b_O_begin : ByteArray := prog_6_method_25_code
def y_O_begin : MethodName := ⟨R_O, "begin", "(I)V"⟩
abbrev b_O_digestOf : ByteArray := prog_6_method_24_code
def y_O_digestOf : MethodName := ⟨R_O, "digestOf", "(I)I"⟩
abbrev b_O_blockOf : ByteArray := prog_6_method_23_code
def y_O_blockOf : MethodName := ⟨R_O, "blockOf", "(I)I"⟩
abbrev b_O_put : ByteArray := prog_6_method_27_code
def y_O_put : MethodName := ⟨R_O, "put", "(I)V"⟩
abbrev b_O_sponge : ByteArray := prog_6_method_22_code
def y_O_sponge : MethodName := ⟨R_O, "sponge", "()Z"⟩
abbrev b_O_flip : ByteArray := prog_6_method_26_code
def y_O_flip : MethodName := ⟨R_O, "flip", "(II)V"⟩
abbrev b_O_permute : ByteArray := prog_6_method_29_code
def y_O_permute : MethodName := ⟨R_O, "permute", "()V"⟩
abbrev b_O_left : ByteArray := prog_6_method_30_code
def y_O_left : MethodName := ⟨R_O, "left", "(JI)J"⟩
abbrev b_O_compress32 : ByteArray := prog_6_method_34_code
def y_O_compress32 : MethodName := ⟨R_O, "compress32", "()V"⟩
abbrev b_O_turn : ByteArray := prog_6_method_32_code
def y_O_turn : MethodName := ⟨R_O, "turn", "(II)I"⟩
abbrev b_O_compress64 : ByteArray := prog_6_method_33_code
def y_O_compress64 : MethodName := ⟨R_O, "compress64", "()V"⟩
abbrev b_O_right : ByteArray := prog_6_method_31_code
def y_O_right : MethodName := ⟨R_O, "right", "(JI)J"⟩
abbrev b_O_finish : ByteArray := prog_6_method_35_code
def y_O_finish : MethodName := ⟨R_O, "finish", "()V"⟩
abbrev b_O_thrown : ByteArray := prog_6_method_2_code
def y_O_thrown : MethodName := ⟨R_O, "thrown", "()I"⟩
abbrev b_O_feed : ByteArray := prog_6_method_5_code
def y_O_feed : MethodName := ⟨R_O, "feed", "(IIIII)I"⟩
abbrev b_O_good : ByteArray := prog_6_method_4_code
def y_O_good : MethodName := ⟨R_O, "good", "(ZI)Z"⟩
abbrev b_O_word : ByteArray := prog_6_method_6_code
def y_O_word : MethodName := ⟨R_O, "word", "(I)V"⟩
abbrev b_O_end : ByteArray := prog_6_method_7_code
def y_O_end : MethodName := ⟨R_O, "end", "(II)I"⟩
abbrev b_O_in : ByteArray := prog_6_method_3_code
def y_O_in : MethodName := ⟨R_O, "in", "(III)Z"⟩
abbrev b_O_copy : ByteArray := prog_6_method_8_code
def y_O_copy : MethodName := ⟨R_O, "copy", "(II)I"⟩
abbrev b_O_resize : ByteArray := prog_6_method_9_code
def y_O_resize : MethodName := ⟨R_O, "resize", "(II)I"⟩
abbrev b_O_alter : ByteArray := prog_6_method_10_code
def y_O_alter : MethodName := ⟨R_O, "alter", "(III)I"⟩
abbrev b_O_length : ByteArray := prog_6_method_11_code
def y_O_length : MethodName := ⟨R_O, "length", "(I)I"⟩
abbrev b_O_word2 : ByteArray := prog_6_method_12_code
def y_O_word2 : MethodName := ⟨R_O, "word", "(II)J"⟩
abbrev b_O_same : ByteArray := prog_6_method_13_code
def y_O_same : MethodName := ⟨R_O, "same", "(II)Z"⟩
abbrev b_O_digest : ByteArray := prog_6_method_41_code
def y_O_digest : MethodName := ⟨R_O, "digest", "(II)I"⟩
abbrev b_O_put2 : ByteArray := prog_6_method_28_code
def y_O_put2 : MethodName := ⟨R_O, "put", "([BII)V"⟩
abbrev b_O_give : ByteArray := prog_6_method_37_code
def y_O_give : MethodName := ⟨R_O, "give", "([BII)V"⟩
abbrev b_O_squeeze : ByteArray := prog_6_method_36_code
def y_O_squeeze : MethodName := ⟨R_O, "squeeze", "()I"⟩
abbrev b_O_startMac : ByteArray := prog_6_method_38_code
def y_O_startMac : MethodName := ⟨R_O, "startMac", "(I[BII)V"⟩
abbrev b_O_move : ByteArray := prog_6_method_14_code
def y_O_move : MethodName := ⟨R_O, "move", "([BI[BII)V"⟩
abbrev b_O_endMac : ByteArray := prog_6_method_39_code
def y_O_endMac : MethodName := ⟨R_O, "endMac", "(I[BII)V"⟩
abbrev b_O_mask : ByteArray := prog_6_method_40_code
def y_O_mask : MethodName := ⟨R_O, "mask", "(I[BI[BII)V"⟩
theorem wp_Y_append : Cond.selects (y_Y_append).cls y_Y_append y_Y_append ∈ W0 := W0_p (i := 1) (by decide +kernel) (by decide +kernel)
theorem wp_D_slotAt : Cond.selects (y_D_slotAt).cls y_D_slotAt y_D_slotAt ∈ W0 := W0_p (i := 2) (by decide +kernel) (by decide +kernel)
theorem wp_Y_take : Cond.selects (y_Y_take).cls y_Y_take y_Y_take ∈ W0 := W0_p (i := 3) (by decide +kernel) (by decide +kernel)
theorem wp_Y_cutOrFill : Cond.selects (y_Y_cutOrFill).cls y_Y_cutOrFill y_Y_cutOrFill ∈ W0 := W0_p (i := 4) (by decide +kernel) (by decide +kernel)
theorem wp_Y_eightFrom : Cond.selects (y_Y_eightFrom).cls y_Y_eightFrom y_Y_eightFrom ∈ W0 := W0_p (i := 5) (by decide +kernel) (by decide +kernel)
theorem wp_Y_matches : Cond.selects (y_Y_matches).cls y_Y_matches y_Y_matches ∈ W0 := W0_p (i := 6) (by decide +kernel) (by decide +kernel)
theorem wp_D_hashInBlocks : Cond.selects (y_D_hashInBlocks).cls y_D_hashInBlocks y_D_hashInBlocks ∈ W0 := W0_p (i := 7) (by decide +kernel) (by decide +kernel)
theorem wp_H_begin : Cond.selects (y_H_begin).cls y_H_begin y_H_begin ∈ W0 := W0_p (i := 8) (by decide +kernel) (by decide +kernel)
theorem wp_H_absorb : Cond.selects (y_H_absorb).cls y_H_absorb y_H_absorb ∈ W0 := W0_p (i := 9) (by decide +kernel) (by decide +kernel)
theorem wp_H_compress : Cond.selects (y_H_compress).cls y_H_compress y_H_compress ∈ W0 := W0_p (i := 10) (by decide +kernel) (by decide +kernel)
theorem wp_H_fillSchedule : Cond.selects (y_H_fillSchedule).cls y_H_fillSchedule y_H_fillSchedule ∈ W0 := W0_p (i := 11) (by decide +kernel) (by decide +kernel)
theorem wp_H_twoTurnsAndShift : Cond.selects (y_H_twoTurnsAndShift).cls y_H_twoTurnsAndShift y_H_twoTurnsAndShift ∈ W0 := W0_p (i := 12) (by decide +kernel) (by decide +kernel)
theorem wp_H_rotr : Cond.selects (y_H_rotr).cls y_H_rotr y_H_rotr ∈ W0 := W0_p (i := 13) (by decide +kernel) (by decide +kernel)
theorem wp_H_threeTurns : Cond.selects (y_H_threeTurns).cls y_H_threeTurns y_H_threeTurns ∈ W0 := W0_p (i := 14) (by decide +kernel) (by decide +kernel)
theorem wp_H_addToState : Cond.selects (y_H_addToState).cls y_H_addToState y_H_addToState ∈ W0 := W0_p (i := 15) (by decide +kernel) (by decide +kernel)
theorem wp_H_finish : Cond.selects (y_H_finish).cls y_H_finish y_H_finish ∈ W0 := W0_p (i := 16) (by decide +kernel) (by decide +kernel)
theorem wp_H_writeState : Cond.selects (y_H_writeState).cls y_H_writeState y_H_writeState ∈ W0 := W0_p (i := 17) (by decide +kernel) (by decide +kernel)
theorem wp_D_hashInSponge : Cond.selects (y_D_hashInSponge).cls y_D_hashInSponge y_D_hashInSponge ∈ W0 := W0_p (i := 18) (by decide +kernel) (by decide +kernel)
theorem wp_P_absorb : Cond.selects (y_P_absorb).cls y_P_absorb y_P_absorb ∈ W0 := W0_p (i := 19) (by decide +kernel) (by decide +kernel)
theorem wp_P_mixIn : Cond.selects (y_P_mixIn).cls y_P_mixIn y_P_mixIn ∈ W0 := W0_p (i := 20) (by decide +kernel) (by decide +kernel)
theorem wp_P_permute : Cond.selects (y_P_permute).cls y_P_permute y_P_permute ∈ W0 := W0_p (i := 21) (by decide +kernel) (by decide +kernel)
theorem wp_P_mixColumns : Cond.selects (y_P_mixColumns).cls y_P_mixColumns y_P_mixColumns ∈ W0 := W0_p (i := 22) (by decide +kernel) (by decide +kernel)
theorem wp_P_turnAndMove : Cond.selects (y_P_turnAndMove).cls y_P_turnAndMove y_P_turnAndMove ∈ W0 := W0_p (i := 23) (by decide +kernel) (by decide +kernel)
theorem wp_P_mixRows : Cond.selects (y_P_mixRows).cls y_P_mixRows y_P_mixRows ∈ W0 := W0_p (i := 24) (by decide +kernel) (by decide +kernel)
theorem wp_P_squeeze : Cond.selects (y_P_squeeze).cls y_P_squeeze y_P_squeeze ∈ W0 := W0_p (i := 25) (by decide +kernel) (by decide +kernel)
theorem wp_D_hashWithKey : Cond.selects (y_D_hashWithKey).cls y_D_hashWithKey y_D_hashWithKey ∈ W0 := W0_p (i := 26) (by decide +kernel) (by decide +kernel)
theorem wp_D_setKey : Cond.selects (y_D_setKey).cls y_D_setKey y_D_setKey ∈ W0 := W0_p (i := 27) (by decide +kernel) (by decide +kernel)
theorem wp_D_beginWithKey : Cond.selects (y_D_beginWithKey).cls y_D_beginWithKey y_D_beginWithKey ∈ W0 := W0_p (i := 28) (by decide +kernel) (by decide +kernel)
theorem wp_D_hashWithCounter : Cond.selects (y_D_hashWithCounter).cls y_D_hashWithCounter y_D_hashWithCounter ∈ W0 := W0_p (i := 29) (by decide +kernel) (by decide +kernel)
theorem wp_H_setMark : Cond.selects (y_H_setMark).cls y_H_setMark y_H_setMark ∈ W0 := W0_p (i := 30) (by decide +kernel) (by decide +kernel)
theorem wp_D_setCounter : Cond.selects (y_D_setCounter).cls y_D_setCounter y_D_setCounter ∈ W0 := W0_p (i := 31) (by decide +kernel) (by decide +kernel)
theorem wp_H_goToMark : Cond.selects (y_H_goToMark).cls y_H_goToMark y_H_goToMark ∈ W0 := W0_p (i := 32) (by decide +kernel) (by decide +kernel)
theorem wp_O_constants : Cond.selects (y_O_constants).cls y_O_constants y_O_constants ∈ W0 := W0_p (i := 33) (by decide +kernel) (by decide +kernel)
theorem wp_O_root : Cond.selects (y_O_root).cls y_O_root y_O_root ∈ W0 := W0_p (i := 34) (by decide +kernel) (by decide +kernel)
theorem wp_O_above : Cond.selects (y_O_above).cls y_O_above y_O_above ∈ W0 := W0_p (i := 35) (by decide +kernel) (by decide +kernel)
theorem wp_O_named : Cond.selects (y_O_named).cls y_O_named y_O_named ∈ W0 := W0_p (i := 36) (by decide +kernel) (by decide +kernel)
theorem wp_O_begin : Cond.selects (y_O_begin).cls y_O_begin y_O_begin ∈ W0 := W0_p (i := 37) (by decide +kernel) (by decide +kernel)
theorem wp_O_put : Cond.selects (y_O_put).cls y_O_put y_O_put ∈ W0 := W0_p (i := 38) (by decide +kernel) (by decide +kernel)
theorem wp_O_sponge : Cond.selects (y_O_sponge).cls y_O_sponge y_O_sponge ∈ W0 := W0_p (i := 39) (by decide +kernel) (by decide +kernel)
theorem wp_O_flip : Cond.selects (y_O_flip).cls y_O_flip y_O_flip ∈ W0 := W0_p (i := 40) (by decide +kernel) (by decide +kernel)
theorem wp_O_permute : Cond.selects (y_O_permute).cls y_O_permute y_O_permute ∈ W0 := W0_p (i := 41) (by decide +kernel) (by decide +kernel)
theorem wp_O_compress32 : Cond.selects (y_O_compress32).cls y_O_compress32 y_O_compress32 ∈ W0 := W0_p (i := 42) (by decide +kernel) (by decide +kernel)
theorem wp_O_compress64 : Cond.selects (y_O_compress64).cls y_O_compress64 y_O_compress64 ∈ W0 := W0_p (i := 43) (by decide +kernel) (by decide +kernel)
theorem wp_O_finish : Cond.selects (y_O_finish).cls y_O_finish y_O_finish ∈ W0 := W0_p (i := 44) (by decide +kernel) (by decide +kernel)
theorem wp_O_good : Cond.selects (y_O_good).cls y_O_good y_O_good ∈ W0 := W0_p (i := 45) (by decide +kernel) (by decide +kernel)
theorem wp_O_word : Cond.selects (y_O_word).cls y_O_word y_O_word ∈ W0 := W0_p (i := 46) (by decide +kernel) (by decide +kernel)
theorem wp_O_put2 : Cond.selects (y_O_put2).cls y_O_put2 y_O_put2 ∈ W0 := W0_p (i := 47) (by decide +kernel) (by decide +kernel)
theorem wp_O_give : Cond.selects (y_O_give).cls y_O_give y_O_give ∈ W0 := W0_p (i := 48) (by decide +kernel) (by decide +kernel)
theorem wp_O_squeeze : Cond.selects (y_O_squeeze).cls y_O_squeeze y_O_squeeze ∈ W0 := W0_p (i := 49) (by decide +kernel) (by decide +kernel)
theorem wp_O_startMac : Cond.selects (y_O_startMac).cls y_O_startMac y_O_startMac ∈ W0 := W0_p (i := 50) (by decide +kernel) (by decide +kernel)
theorem wp_O_endMac : Cond.selects (y_O_endMac).cls y_O_endMac y_O_endMac ∈ W0 := W0_p (i := 51) (by decide +kernel) (by decide +kernel)
theorem wp_O_mask : Cond.selects (y_O_mask).cls y_O_mask y_O_mask ∈ W0 := W0_p (i := 52) (by decide +kernel) (by decide +kernel)
end
section
def s_nm : Nat → String := fun k => match k with
  | 0 => "DISTANCES_256"
  | 1 => "DISTANCES_512"
  | 2 => "START_256"
  | 3 => "START_224"
  | 4 => "START_512"
  | 5 => "START_384"
  | 6 => "START_512_224"
  | 7 => "START_512_256"
  | 8 => "CUBE_ROOTS"
  | 9 => "ROUND_CONSTANTS"
  | 10 => "LANE_TURNS"
  | _ => "LANE_TARGETS"
def s_ds : Nat → String := fun k => match k with
  | 0 => "[I"
  | 1 => "[I"
  | 2 => "[J"
  | 3 => "[J"
  | 4 => "[J"
  | 5 => "[J"
  | 6 => "[J"
  | 7 => "[J"
  | 8 => "[J"
  | 9 => "[J"
  | 10 => "[I"
  | _ => "[I"
def s_ty : Nat → FieldType := fun k => match k with
  | 0 => .int
  | 1 => .int
  | 2 => .long
  | 3 => .long
  | 4 => .long
  | 5 => .long
  | 6 => .long
  | 7 => .long
  | 8 => .long
  | 9 => .long
  | 10 => .int
  | _ => .int
def s_N : Nat → Nat := fun k => match k with
  | 0 => 12
  | 1 => 12
  | 2 => 8
  | 3 => 8
  | 4 => 8
  | 5 => 8
  | 6 => 8
  | 7 => 8
  | 8 => 80
  | 9 => 24
  | 10 => 25
  | _ => 25
def sv_0 : List Int32 := [2, 13, 22, 6, 11, 25, 7, 18, 3, 17, 19, 10]
def sv_1 : List Int32 := [28, 34, 39, 14, 18, 41, 1, 8, 7, 19, 61, 6]
def sv_2 : List Int64 := [1779033703, 3144134277, 1013904242, 2773480762, 1359893119, 2600822924, 528734635, 1541459225]
def sv_3 : List Int64 := [3238371032, 914150663, 812702999, 4144912697, 4290775857, 1750603025, 1694076839, 3204075428]
def sv_4 : List Int64 := [7640891576956012808, (-4942790177534073029), 4354685564936845355, (-6534734903238641935), 5840696475078001361, (-7276294671716946913), 2270897969802886507, 6620516959819538809]
def sv_5 : List Int64 := [(-3766243637369397544), 7105036623409894663, (-7973340178411365097), 1526699215303891257, 7436329637833083697, (-8163818279084223215), (-2662702644619276377), 5167115440072839076]
def sv_6 : List Int64 := [(-8341449602262348382), 8350123849800275158, 2160240930085379202, 7466358040605728719, 1111592415079452072, 8638871050018654530, 4583966954114332360, 1230299281376055969]
def sv_7 : List Int64 := [2463787394917988140, (-6965556091613846334), 2563595384472711505, (-7622211418569250115), (-7626776825740460061), (-4729309413028513390), 3098927326965381290, 1060366662362279074]
def sv_8 : List Int64 := [4794697086780616226, 8158064640168781261, (-5349999486874862801), (-1606136188198331460), 4131703408338449720, 6480981068601479193, (-7908458776815382629), (-6116909921290321640), (-2880145864133508542), 1334009975649890238, 2608012711638119052, 6128411473006802146, 8268148722764581231, (-9160688886553864527), (-7215885187991268811), (-4495734319001033068), (-1973867731355612462), (-1171420211273849373), 1135362057144423861, 2597628984639134821, 3308224258029322869, 5365058923640841347, 6679025012923562964, 8573033837759648693, (-7476448914759557205), (-6327057829258317296), (-5763719355590565569), (-4658551843659510044), (-4116276920077217854), (-3051310485924567259), 489312712824947311, 1452737877330783856, 2861767655752347644, 3322285676063803686, 5560940570517711597, 5996557281743188959, 7280758554555802590, 8532644243296465576, (-9096487096722542874), (-7894198246740708037), (-6719396339535248540), (-6333637450476146687), (-4446306890439682159), (-4076793802049405392), (-3345356375505022440), (-2983346525034927856), (-860691631967231958), 1182934255886127544, 1847814050463011016, 2177327727835720531, 2830643537854262169, 3796741975233480872, 4115178125766777443, 5681478168544905931, 6601373596472566643, 7507060721942968483, 8399075790359081724, 8693463985226723168, (-8878714635349349518), (-8302665154208450068), (-8016688836872298968), (-6606660893046293015), (-4685533653050689259), (-4147400797238176981), (-3880063495543823972), (-3348786107499101689), (-1523767162380948706), (-757361751448694408), 500013540394364858, 748580250866718886, 1242879168328830382, 1977374033974150939, 2944078676154940804, 3659926193048069267, 4368137639120453308, 4836135668995329356, 5532061633213252278, 6448918945643986474, 6902733635092675308, 7801388544844847127]
def sv_9 : List Int64 := [1, 32898, (-9223372036854742902), (-9223372034707259392), 32907, 2147483649, (-9223372034707259263), (-9223372036854743031), 138, 136, 2147516425, 2147483658, 2147516555, (-9223372036854775669), (-9223372036854742903), (-9223372036854743037), (-9223372036854743038), (-9223372036854775680), 32778, (-9223372034707292150), (-9223372034707259263), (-9223372036854742912), 2147483649, (-9223372034707259384)]
def sv_10 : List Int32 := [0, 1, 62, 28, 27, 36, 44, 6, 55, 20, 3, 10, 43, 25, 39, 41, 45, 15, 21, 8, 18, 2, 61, 56, 14]
def sv_11 : List Int32 := [0, 10, 20, 5, 15, 16, 1, 11, 21, 6, 7, 17, 2, 12, 22, 23, 8, 18, 3, 13, 14, 24, 9, 19, 4]
def s_l : Nat → Nat → Int64 := fun k => match k with
  | 0 => fun _ => 0
  | 1 => fun _ => 0
  | 2 => fun j => sv_2.getD j 0
  | 3 => fun j => sv_3.getD j 0
  | 4 => fun j => sv_4.getD j 0
  | 5 => fun j => sv_5.getD j 0
  | 6 => fun j => sv_6.getD j 0
  | 7 => fun j => sv_7.getD j 0
  | 8 => fun j => sv_8.getD j 0
  | 9 => fun j => sv_9.getD j 0
  | 10 => fun _ => 0
  | _ => fun _ => 0
def s_i : Nat → Nat → Int32 := fun k => match k with
  | 0 => fun j => sv_0.getD j 0
  | 1 => fun j => sv_1.getD j 0
  | 2 => fun _ => 0
  | 3 => fun _ => 0
  | 4 => fun _ => 0
  | 5 => fun _ => 0
  | 6 => fun _ => 0
  | 7 => fun _ => 0
  | 8 => fun _ => 0
  | 9 => fun _ => 0
  | 10 => fun j => sv_10.getD j 0
  | _ => fun j => sv_11.getD j 0
def s_f (k : Nat) : Nat → Value := fun j => match s_ty k with
  | .int => .int (s_i k j)
  | _ => .long (s_l k j)
theorem s_fi {k : Nat} (h : s_ty k = .int) (j : Nat) : s_f k j = .int (s_i k j) := by unfold s_f; rw [h]
theorem s_fl {k : Nat} (h : s_ty k = .long) (j : Nat) : s_f k j = .long (s_l k j) := by unfold s_f; rw [h]
theorem s_N_lt : ∀ k, k < 12 → s_N k < 2 ^ 31 := by decide +kernel
def isNest (w : Cond) : Bool := match w with
  | .fieldLinkNest .. => true
  | .methodLinkNest .. => true
  | _ => false
theorem nest_all : nestWords.all isNest = true := by decide +kernel
theorem nest_is {w : Cond} (h : w ∈ nestWords) : isNest w = true := List.all_eq_true.mp nest_all w h
theorem nest_on {w : Cond} (h : w ∈ nestWords) : w.onTables = true := by
  have h1 := nest_is h
  cases w <;> first | rfl | exact absurd h1 (by simp [isNest])
theorem nest_warm {w : Cond} {s U : State} (h : w ∈ nestWords) (hW : s.WarmedH U.vm) (hZ : va_Nw w s) : va_Nw w U := by
  have h1 := nest_is h
  cases w <;> first | exact va_Nw.warmF hW hZ | exact va_Nw.warmM hW hZ | exact absurd h1 (by simp [isNest])
theorem by_fits (x : Int8) : fits .byte (.int x.toInt32) = true := by
  have h : x.toInt32.toInt8.toInt32 = x.toInt32 := by rw [Int8.toInt8_toInt32]
  rw [← h]
  exact pk_fb _
theorem cpy_bt (f g : Nat → Int8) (sp dp k : Nat) : va_cpy (fun j => (f j).toInt32) (fun j => (g j).toInt32) sp dp k = fun j => (va_cpy f g sp dp k j).toInt32 := by
  funext j
  unfold va_cpy
  by_cases h : dp ≤ j ∧ j < dp + k
  · rw [if_pos h, if_pos h]
  · rw [if_neg h, if_neg h]
section GB
abbrev Bx : Type := va_G × (Nat → ClassId) × Nat × (Nat → Nat)
abbrev b_z (B : Bx) : Nat := B.2.2.1
abbrev b_t (B : Bx) : Nat → Nat := B.2.2.2
abbrev b_c (B : Bx) : Nat → ClassId := B.2.1
abbrev b_y (B : Bx) : List (ClassId × FieldType) := [(b_c B 0, .byte), (b_c B 1, .long), (b_c B 2, .int), (b_c B 3, .object "SpongeDigests$Bytes")]
abbrev Mx : Type := Program × Launch × Env × Room × State × MethodId × Array Value × List Frame × Method × Code × (Nat → Prop)
abbrev m_p (M : Mx) : Program := M.1
abbrev m_l (M : Mx) : Launch := M.2.1
abbrev m_e (M : Mx) : Env := M.2.2.1
abbrev m_R (M : Mx) : Room := M.2.2.2.1
abbrev m_s (M : Mx) : State := M.2.2.2.2.1
abbrev m_m (M : Mx) : MethodId := M.2.2.2.2.2.1
abbrev m_a (M : Mx) : Array Value := M.2.2.2.2.2.2.1
abbrev m_b (M : Mx) : List Frame := M.2.2.2.2.2.2.2.1
abbrev m_h (M : Mx) : Method := M.2.2.2.2.2.2.2.2.1
abbrev m_c (M : Mx) : Code := M.2.2.2.2.2.2.2.2.2.1
abbrev m_A (M : Mx) : Nat → Prop := M.2.2.2.2.2.2.2.2.2.2
abbrev cb (B : Bx) (a n : Nat) (g : Nat → Int8) : Nat × va_E := (a, .inl (b_c B 0, n, .inl (fun j => (g j).toInt32)))
abbrev cj (B : Bx) (a n : Nat) (f : Nat → Int64) : Nat × va_E := (a, .inl (b_c B 1, n, .inr (.inl f)))
abbrev cn (B : Bx) (a n : Nat) (f : Nat → Int32) : Nat × va_E := (a, .inl (b_c B 2, n, .inl f))
abbrev cr (B : Bx) (a n : Nat) (f : Nat → Option Nat) : Nat × va_E := (a, .inl (b_c B 3, n, .inr (.inr (.inr (.inr f)))))
abbrev co (a k : Nat) (fs : List Value) : Nat × va_E := (a, .inr (k, fs))
def KX (B : Bx) (U : State) : Prop := b_z B ≤ U.heap.size ∧ (∀ w ∈ nestWords, va_Nw w U) ∧ ∀ k, k < 12 → va_Z "SpongeDigests" (s_nm k) (s_ds k) (.ref (b_t B k)) (fun q => b_z B ≤ q) U U.heap ∧ va_T (s_ty k) (b_t B k) (s_N k) (s_f k) (fun q => b_z B ≤ q) U U.heap
def CX (B : Bx) (M : Mx) (cc : ByteArray) (nL : Nat) (own : String) : Prop :=
  (m_p M).tables.exec = Jvm.exec ∧ (m_c M).code = cc ∧ (m_c M).maxLocals = nL ∧ (m_s M).vm.findClass own = some (m_m M).cls ∧ (∀ w ∈ W0, w.before (m_a M) (m_s M) = true) ∧ va_K B.1 classes (b_y B) (m_s M) ∧ (∀ q, (m_s M).heap.size ≤ q → m_A M q) ∧ (∀ q, m_A M q → b_z B ≤ q) ∧ KX B (m_s M)
theorem CX.x {B : Bx} {M : Mx} {cc : ByteArray} {nL : Nat} {own : String} (X : CX B M cc nL own) : (m_p M).tables.exec = Jvm.exec := X.1
theorem CX.b {B : Bx} {M : Mx} {cc : ByteArray} {nL : Nat} {own : String} (X : CX B M cc nL own) : (m_c M).code = cc := X.2.1
theorem CX.n {B : Bx} {M : Mx} {cc : ByteArray} {nL : Nat} {own : String} (X : CX B M cc nL own) : (m_c M).maxLocals = nL := X.2.2.1
theorem CX.o {B : Bx} {M : Mx} {cc : ByteArray} {nL : Nat} {own : String} (X : CX B M cc nL own) : (m_s M).vm.findClass own = some (m_m M).cls := X.2.2.2.1
theorem CX.t {B : Bx} {M : Mx} {cc : ByteArray} {nL : Nat} {own : String} (X : CX B M cc nL own) : ∀ w ∈ W0, w.before (m_a M) (m_s M) = true := X.2.2.2.2.1
theorem CX.k {B : Bx} {M : Mx} {cc : ByteArray} {nL : Nat} {own : String} (X : CX B M cc nL own) : va_K B.1 classes (b_y B) (m_s M) := X.2.2.2.2.2.1
theorem CX.A {B : Bx} {M : Mx} {cc : ByteArray} {nL : Nat} {own : String} (X : CX B M cc nL own) : ∀ q, (m_s M).heap.size ≤ q → m_A M q := X.2.2.2.2.2.2.1
theorem CX.z {B : Bx} {M : Mx} {cc : ByteArray} {nL : Nat} {own : String} (X : CX B M cc nL own) : ∀ q, m_A M q → b_z B ≤ q := X.2.2.2.2.2.2.2.1
theorem CX.s {B : Bx} {M : Mx} {cc : ByteArray} {nL : Nat} {own : String} (X : CX B M cc nL own) : KX B (m_s M) := X.2.2.2.2.2.2.2.2
def G (B : Bx) (M : Mx) (nL n1 n2 : Nat) (Q : State → Prop) (ws : va_W) (lv : List (Nat × Value)) (pc : Nat) (st : List Value) : Prop :=
  ∀ (H : Heap) (locs : List Loc) (ls : Array Slot), va_P B.1 classes ws H → va_D (m_A M) ws → va_S (m_A M) (m_s M).heap H locs → lv_has ls nL lv →
    W (m_p M) (m_l M) (m_e M) (m_R M) (m_s M) (m_m M) (m_a M) (m_b M) (m_h M) (m_c M) H locs n1 n2 Q (F0 (m_m M) pc ls st)
def lvq (lv : List (Nat × Value)) (i : Nat) : Option Value := (lv.find? (fun q => q.1 == i)).map (fun q => q.2)
theorem lvq_mem {lv : List (Nat × Value)} {i : Nat} {v : Value} (h : lvq lv i = some v) : (i, v) ∈ lv := by
  unfold lvq at h
  cases hf : lv.find? (fun q => q.1 == i) with
  | none => rw [hf] at h; cases h
  | some q =>
    rw [hf] at h
    have h1 := List.find?_some hf
    have h2 := List.mem_of_find?_eq_some hf
    have h3 : q.1 = i := by simpa using h1
    have h4 : q.2 = v := by simpa using h
    obtain ⟨q1, q2⟩ := q
    subst h3
    subst h4
    exact h2
theorem lvq_at {ls : Array Slot} {nL : Nat} {lv : List (Nat × Value)} (h : lv_has ls nL lv) {i : Nat} {v : Value} (hq : lvq lv i = some v) : ls[i]? = some (.val v) := h.2.2 (i, v) (lvq_mem hq)
variable {B : Bx} {M : Mx} {cc : ByteArray} {nL n1 n2 : Nat} {own : String} {Q : State → Prop} {ws : va_W} {lv : List (Nat × Value)} {pc : Nat} {st rest : List Value}
theorem g_lv (lv' : List (Nat × Value)) (h : lv'.map (fun q => lvq lv q.1) = lv'.map (fun q => some q.2)) (k : G B M nL n1 n2 Q ws lv' pc st) : G B M nL n1 n2 Q ws lv pc st := by
  intro H locs ls hP hD hS hl
  refine k H locs ls hP hD hS ⟨hl.1, hl.2.1, fun q hq => ?_⟩
  obtain ⟨i, hi⟩ := List.getElem?_of_mem hq
  have h1 : (lv'.map (fun q => lvq lv q.1))[i]? = (lv'.map (fun q => some q.2))[i]? := by rw [h]
  rw [List.getElem?_map, List.getElem?_map, hi] at h1
  exact lvq_at hl (Option.some.inj h1)
theorem g_ws (ws' : va_W) (is : List Nat) (hn : va_nd is = true) (h : is.map (fun i => ws[i]?) = ws'.map some) (k : G B M nL n1 n2 Q ws' lv pc st) : G B M nL n1 n2 Q ws lv pc st := by
  intro H locs ls hP hD hS hl
  refine k H locs ls (fun i q hq => ?_) (hD.sub is hn h) hS hl
  have h1 : (is.map (fun i => ws[i]?))[i]? = (ws'.map some)[i]? := by rw [h]
  rw [List.getElem?_map, List.getElem?_map, hq] at h1
  cases hi : is[i]? with
  | none => rw [hi] at h1; cases h1
  | some j => rw [hi] at h1; exact hP j q (Option.some.inj h1)
theorem g_widen (k n : Nat) (h1 : n1 ≤ k) (h2 : n2 ≤ n) (kk : G B M nL k n Q ws lv pc st) : G B M nL n1 n2 Q ws lv pc st := fun H locs ls hP hD hS hl => W.widen h1 h2 (kk H locs ls hP hD hS hl)
theorem g_topi {x : Int32} (k : ∀ y : Int32, y = x → G B M nL n1 n2 Q ws lv pc (.int y :: rest)) : G B M nL n1 n2 Q ws lv pc (.int x :: rest) := k x rfl
theorem g_topl {x : Int64} (k : ∀ y : Int64, y = x → G B M nL n1 n2 Q ws lv pc (.long y :: rest)) : G B M nL n1 n2 Q ws lv pc (.long x :: rest) := k x rfl
theorem g_seti {x : Int32} (y : Int32) (h : x = y) (k : G B M nL n1 n2 Q ws lv pc (.int y :: rest)) : G B M nL n1 n2 Q ws lv pc (.int x :: rest) := h ▸ k
theorem g_setl {x : Int64} (y : Int64) (h : x = y) (k : G B M nL n1 n2 Q ws lv pc (.long y :: rest)) : G B M nL n1 n2 Q ws lv pc (.long x :: rest) := h ▸ k
theorem g_iconst (X : CX B M cc nL own) {n : Int} {v : Int32} (hdg : decode cc pc = .ok (.iconst n, 1)) (hv : Int32.ofInt n = v) (k : G B M nL n1 n2 Q ws lv (pc + 1) (.int v :: rest)) : G B M nL n1 n2 Q ws lv pc (rest) :=
  fun H locs ls hP hD hS hl0 => lv_iconst X.x X.b hdg hv (k H locs ls hP hD hS hl0)
theorem g_bipush (X : CX B M cc nL own) {n : Int} {v : Int32} (hdg : decode cc pc = .ok (.bipush n, 2)) (hv : (Int8.ofInt n).toInt32 = v) (k : G B M nL n1 n2 Q ws lv (pc + 2) (.int v :: rest)) : G B M nL n1 n2 Q ws lv pc (rest) :=
  fun H locs ls hP hD hS hl0 => lv_bipush X.x X.b hdg hv (k H locs ls hP hD hS hl0)
theorem g_sipush (X : CX B M cc nL own) {n : Int} {v : Int32} (hdg : decode cc pc = .ok (.sipush n, 3)) (hv : (Int16.ofInt n).toInt32 = v) (k : G B M nL n1 n2 Q ws lv (pc + 3) (.int v :: rest)) : G B M nL n1 n2 Q ws lv pc (rest) :=
  fun H locs ls hP hD hS hl0 => lv_sipush X.x X.b hdg hv (k H locs ls hP hD hS hl0)
theorem g_lconst (X : CX B M cc nL own) {n : Fin 2} {v : Int64} (hdg : decode cc pc = .ok (.lconst n, 1)) (hv : Int64.ofNat (n : Nat) = v) (k : G B M nL n1 n2 Q ws lv (pc + 1) (.long v :: rest)) : G B M nL n1 n2 Q ws lv pc (rest) :=
  fun H locs ls hP hD hS hl0 => lv_lconst X.x X.b hdg hv (k H locs ls hP hD hS hl0)
theorem g_iload_n (X : CX B M cc nL own) {k : Fin 4} {i : Nat} {x : Int32} (hdg : decode cc pc = .ok (.iload_n k, 1)) (hi : (k : Nat) = i) (hl : lvq lv i = some (.int x)) (k : G B M nL n1 n2 Q ws lv (pc + 1) (.int x :: rest)) : G B M nL n1 n2 Q ws lv pc (rest) :=
  fun H locs ls hP hD hS hl0 => lv_iload_n X.x X.b hdg hi (lvq_at hl0 hl) (k H locs ls hP hD hS hl0)
theorem g_iload (X : CX B M cc nL own) {i : Nat} {x : Int32} (hdg : decode cc pc = .ok (.iload i, 2)) (hl : lvq lv i = some (.int x)) (k : G B M nL n1 n2 Q ws lv (pc + 2) (.int x :: rest)) : G B M nL n1 n2 Q ws lv pc (rest) :=
  fun H locs ls hP hD hS hl0 => lv_iload X.x X.b hdg (lvq_at hl0 hl) (k H locs ls hP hD hS hl0)
theorem g_lload_n (X : CX B M cc nL own) {k : Fin 4} {i : Nat} {x : Int64} (hdg : decode cc pc = .ok (.lload_n k, 1)) (hi : (k : Nat) = i) (hl : lvq lv i = some (.long x)) (k : G B M nL n1 n2 Q ws lv (pc + 1) (.long x :: rest)) : G B M nL n1 n2 Q ws lv pc (rest) :=
  fun H locs ls hP hD hS hl0 => lv_lload_n X.x X.b hdg hi (lvq_at hl0 hl) (k H locs ls hP hD hS hl0)
theorem g_lload (X : CX B M cc nL own) {i : Nat} {x : Int64} (hdg : decode cc pc = .ok (.lload i, 2)) (hl : lvq lv i = some (.long x)) (k : G B M nL n1 n2 Q ws lv (pc + 2) (.long x :: rest)) : G B M nL n1 n2 Q ws lv pc (rest) :=
  fun H locs ls hP hD hS hl0 => lv_lload X.x X.b hdg (lvq_at hl0 hl) (k H locs ls hP hD hS hl0)
theorem g_aload_n (X : CX B M cc nL own) {k : Fin 4} {i : Nat} {x : Nat} (hdg : decode cc pc = .ok (.aload_n k, 1)) (hi : (k : Nat) = i) (hl : lvq lv i = some (.ref x)) (k : G B M nL n1 n2 Q ws lv (pc + 1) (.ref x :: rest)) : G B M nL n1 n2 Q ws lv pc (rest) :=
  fun H locs ls hP hD hS hl0 => lv_aload_n X.x X.b hdg hi (lvq_at hl0 hl) (k H locs ls hP hD hS hl0)
theorem g_aload (X : CX B M cc nL own) {i : Nat} {x : Nat} (hdg : decode cc pc = .ok (.aload i, 2)) (hl : lvq lv i = some (.ref x)) (k : G B M nL n1 n2 Q ws lv (pc + 2) (.ref x :: rest)) : G B M nL n1 n2 Q ws lv pc (rest) :=
  fun H locs ls hP hD hS hl0 => lv_aload X.x X.b hdg (lvq_at hl0 hl) (k H locs ls hP hD hS hl0)
theorem g_istore_n (X : CX B M cc nL own) {k : Fin 4} {i : Nat} {x : Int32} (hdg : decode cc pc = .ok (.istore_n k, 1)) (hi : (k : Nat) = i) (hn : i < nL) (kk : G B M nL n1 n2 Q ws ((i, Value.int x) :: lv.filter (fun q => !(q.1 == i) && !(q.1 + 1 == i && q.2.category == 2))) (pc + 1) rest) : G B M nL n1 n2 Q ws lv pc (.int x :: rest) :=
  fun H locs ls hP hD hS hl0 => lv_istore_n X.x X.b hdg hi hl0 hn rfl (fun ls' hl' => kk H locs ls' hP hD hS hl')
theorem g_istore (X : CX B M cc nL own) {i : Nat} {x : Int32} (hdg : decode cc pc = .ok (.istore i, 2)) (hn : i < nL) (kk : G B M nL n1 n2 Q ws ((i, Value.int x) :: lv.filter (fun q => !(q.1 == i) && !(q.1 + 1 == i && q.2.category == 2))) (pc + 2) rest) : G B M nL n1 n2 Q ws lv pc (.int x :: rest) :=
  fun H locs ls hP hD hS hl0 => lv_istore X.x X.b hdg hl0 hn rfl (fun ls' hl' => kk H locs ls' hP hD hS hl')
theorem g_lstore_n (X : CX B M cc nL own) {k : Fin 4} {i : Nat} {x : Int64} (hdg : decode cc pc = .ok (.lstore_n k, 1)) (hi : (k : Nat) = i) (hn : i + 1 < nL) (kk : G B M nL n1 n2 Q ws ((i, Value.long x) :: lv.filter (fun q => !(q.1 == i) && (!(q.1 == i + 1) && !(q.1 + 1 == i && q.2.category == 2)))) (pc + 1) rest) : G B M nL n1 n2 Q ws lv pc (.long x :: rest) :=
  fun H locs ls hP hD hS hl0 => lv_lstore_n X.x X.b hdg hi hl0 hn rfl (fun ls' hl' => kk H locs ls' hP hD hS hl')
theorem g_lstore (X : CX B M cc nL own) {i : Nat} {x : Int64} (hdg : decode cc pc = .ok (.lstore i, 2)) (hn : i + 1 < nL) (kk : G B M nL n1 n2 Q ws ((i, Value.long x) :: lv.filter (fun q => !(q.1 == i) && (!(q.1 == i + 1) && !(q.1 + 1 == i && q.2.category == 2)))) (pc + 2) rest) : G B M nL n1 n2 Q ws lv pc (.long x :: rest) :=
  fun H locs ls hP hD hS hl0 => lv_lstore X.x X.b hdg hl0 hn rfl (fun ls' hl' => kk H locs ls' hP hD hS hl')
theorem g_astore_n (X : CX B M cc nL own) {k : Fin 4} {i : Nat} {x : Nat} (hdg : decode cc pc = .ok (.astore_n k, 1)) (hi : (k : Nat) = i) (hn : i < nL) (kk : G B M nL n1 n2 Q ws ((i, Value.ref x) :: lv.filter (fun q => !(q.1 == i) && !(q.1 + 1 == i && q.2.category == 2))) (pc + 1) rest) : G B M nL n1 n2 Q ws lv pc (.ref x :: rest) :=
  fun H locs ls hP hD hS hl0 => lv_astore_n X.x X.b hdg hi hl0 hn rfl (fun ls' hl' => kk H locs ls' hP hD hS hl')
theorem g_astore (X : CX B M cc nL own) {i : Nat} {x : Nat} (hdg : decode cc pc = .ok (.astore i, 2)) (hn : i < nL) (kk : G B M nL n1 n2 Q ws ((i, Value.ref x) :: lv.filter (fun q => !(q.1 == i) && !(q.1 + 1 == i && q.2.category == 2))) (pc + 2) rest) : G B M nL n1 n2 Q ws lv pc (.ref x :: rest) :=
  fun H locs ls hP hD hS hl0 => lv_astore X.x X.b hdg hl0 hn rfl (fun ls' hl' => kk H locs ls' hP hD hS hl')
theorem g_iadd (X : CX B M cc nL own) {x y : Int32} (hdg : decode cc pc = .ok (.iadd, 1)) (k : G B M nL n1 n2 Q ws lv (pc + 1) (.int (x + y) :: rest)) : G B M nL n1 n2 Q ws lv pc (.int y :: .int x :: rest) :=
  fun H locs ls hP hD hS hl0 => lv_iadd X.x X.b hdg (k H locs ls hP hD hS hl0)
theorem g_isub (X : CX B M cc nL own) {x y : Int32} (hdg : decode cc pc = .ok (.isub, 1)) (k : G B M nL n1 n2 Q ws lv (pc + 1) (.int (x - y) :: rest)) : G B M nL n1 n2 Q ws lv pc (.int y :: .int x :: rest) :=
  fun H locs ls hP hD hS hl0 => lv_isub X.x X.b hdg (k H locs ls hP hD hS hl0)
theorem g_imul (X : CX B M cc nL own) {x y : Int32} (hdg : decode cc pc = .ok (.imul, 1)) (k : G B M nL n1 n2 Q ws lv (pc + 1) (.int (x * y) :: rest)) : G B M nL n1 n2 Q ws lv pc (.int y :: .int x :: rest) :=
  fun H locs ls hP hD hS hl0 => lv_imul X.x X.b hdg (k H locs ls hP hD hS hl0)
theorem g_iand (X : CX B M cc nL own) {x y : Int32} (hdg : decode cc pc = .ok (.iand, 1)) (k : G B M nL n1 n2 Q ws lv (pc + 1) (.int (x &&& y) :: rest)) : G B M nL n1 n2 Q ws lv pc (.int y :: .int x :: rest) :=
  fun H locs ls hP hD hS hl0 => lv_iand X.x X.b hdg (k H locs ls hP hD hS hl0)
theorem g_ior (X : CX B M cc nL own) {x y : Int32} (hdg : decode cc pc = .ok (.ior, 1)) (k : G B M nL n1 n2 Q ws lv (pc + 1) (.int (x ||| y) :: rest)) : G B M nL n1 n2 Q ws lv pc (.int y :: .int x :: rest) :=
  fun H locs ls hP hD hS hl0 => lv_ior X.x X.b hdg (k H locs ls hP hD hS hl0)
theorem g_ixor (X : CX B M cc nL own) {x y : Int32} (hdg : decode cc pc = .ok (.ixor, 1)) (k : G B M nL n1 n2 Q ws lv (pc + 1) (.int (x ^^^ y) :: rest)) : G B M nL n1 n2 Q ws lv pc (.int y :: .int x :: rest) :=
  fun H locs ls hP hD hS hl0 => lv_ixor X.x X.b hdg (k H locs ls hP hD hS hl0)
theorem g_idiv (X : CX B M cc nL own) {x y : Int32} (hdg : decode cc pc = .ok (.idiv, 1)) (hne : ¬ y = 0) (k : G B M nL n1 n2 Q ws lv (pc + 1) (.int (x / y) :: rest)) : G B M nL n1 n2 Q ws lv pc (.int y :: .int x :: rest) :=
  fun H locs ls hP hD hS hl0 => lv_idiv X.x X.b hdg hne (k H locs ls hP hD hS hl0)
theorem g_irem (X : CX B M cc nL own) {x y : Int32} (hdg : decode cc pc = .ok (.irem, 1)) (hne : ¬ y = 0) (k : G B M nL n1 n2 Q ws lv (pc + 1) (.int (x - x / y * y) :: rest)) : G B M nL n1 n2 Q ws lv pc (.int y :: .int x :: rest) :=
  fun H locs ls hP hD hS hl0 => lv_irem X.x X.b hdg hne (k H locs ls hP hD hS hl0)
theorem g_ineg (X : CX B M cc nL own) {x : Int32} (hdg : decode cc pc = .ok (.ineg, 1)) (k : G B M nL n1 n2 Q ws lv (pc + 1) (.int (-x) :: rest)) : G B M nL n1 n2 Q ws lv pc (.int x :: rest) :=
  fun H locs ls hP hD hS hl0 => lv_ineg X.x X.b hdg (k H locs ls hP hD hS hl0)
theorem g_ladd (X : CX B M cc nL own) {x y : Int64} (hdg : decode cc pc = .ok (.ladd, 1)) (k : G B M nL n1 n2 Q ws lv (pc + 1) (.long (x + y) :: rest)) : G B M nL n1 n2 Q ws lv pc (.long y :: .long x :: rest) :=
  fun H locs ls hP hD hS hl0 => lv_ladd X.x X.b hdg (k H locs ls hP hD hS hl0)
theorem g_lsub (X : CX B M cc nL own) {x y : Int64} (hdg : decode cc pc = .ok (.lsub, 1)) (k : G B M nL n1 n2 Q ws lv (pc + 1) (.long (x - y) :: rest)) : G B M nL n1 n2 Q ws lv pc (.long y :: .long x :: rest) :=
  fun H locs ls hP hD hS hl0 => lv_lsub X.x X.b hdg (k H locs ls hP hD hS hl0)
theorem g_lmul (X : CX B M cc nL own) {x y : Int64} (hdg : decode cc pc = .ok (.lmul, 1)) (k : G B M nL n1 n2 Q ws lv (pc + 1) (.long (x * y) :: rest)) : G B M nL n1 n2 Q ws lv pc (.long y :: .long x :: rest) :=
  fun H locs ls hP hD hS hl0 => lv_lmul X.x X.b hdg (k H locs ls hP hD hS hl0)
theorem g_land (X : CX B M cc nL own) {x y : Int64} (hdg : decode cc pc = .ok (.land, 1)) (k : G B M nL n1 n2 Q ws lv (pc + 1) (.long (x &&& y) :: rest)) : G B M nL n1 n2 Q ws lv pc (.long y :: .long x :: rest) :=
  fun H locs ls hP hD hS hl0 => lv_land X.x X.b hdg (k H locs ls hP hD hS hl0)
theorem g_lor (X : CX B M cc nL own) {x y : Int64} (hdg : decode cc pc = .ok (.lor, 1)) (k : G B M nL n1 n2 Q ws lv (pc + 1) (.long (x ||| y) :: rest)) : G B M nL n1 n2 Q ws lv pc (.long y :: .long x :: rest) :=
  fun H locs ls hP hD hS hl0 => lv_lor X.x X.b hdg (k H locs ls hP hD hS hl0)
theorem g_lxor (X : CX B M cc nL own) {x y : Int64} (hdg : decode cc pc = .ok (.lxor, 1)) (k : G B M nL n1 n2 Q ws lv (pc + 1) (.long (x ^^^ y) :: rest)) : G B M nL n1 n2 Q ws lv pc (.long y :: .long x :: rest) :=
  fun H locs ls hP hD hS hl0 => lv_lxor X.x X.b hdg (k H locs ls hP hD hS hl0)
theorem g_ldiv (X : CX B M cc nL own) {x y : Int64} (hdg : decode cc pc = .ok (.ldiv, 1)) (hne : ¬ y = 0) (k : G B M nL n1 n2 Q ws lv (pc + 1) (.long (x / y) :: rest)) : G B M nL n1 n2 Q ws lv pc (.long y :: .long x :: rest) :=
  fun H locs ls hP hD hS hl0 => lv_ldiv X.x X.b hdg hne (k H locs ls hP hD hS hl0)
theorem g_lrem (X : CX B M cc nL own) {x y : Int64} (hdg : decode cc pc = .ok (.lrem, 1)) (hne : ¬ y = 0) (k : G B M nL n1 n2 Q ws lv (pc + 1) (.long (x - x / y * y) :: rest)) : G B M nL n1 n2 Q ws lv pc (.long y :: .long x :: rest) :=
  fun H locs ls hP hD hS hl0 => lv_lrem X.x X.b hdg hne (k H locs ls hP hD hS hl0)
theorem g_lneg (X : CX B M cc nL own) {x : Int64} (hdg : decode cc pc = .ok (.lneg, 1)) (k : G B M nL n1 n2 Q ws lv (pc + 1) (.long (-x) :: rest)) : G B M nL n1 n2 Q ws lv pc (.long x :: rest) :=
  fun H locs ls hP hD hS hl0 => lv_lneg X.x X.b hdg (k H locs ls hP hD hS hl0)
theorem g_ishl (X : CX B M cc nL own) {x y : Int32} (hdg : decode cc pc = .ok (.ishl, 1)) (k : G B M nL n1 n2 Q ws lv (pc + 1) (.int (x <<< (y &&& 31)) :: rest)) : G B M nL n1 n2 Q ws lv pc (.int y :: .int x :: rest) :=
  fun H locs ls hP hD hS hl0 => lv_ishl X.x X.b hdg (k H locs ls hP hD hS hl0)
theorem g_ishr (X : CX B M cc nL own) {x y : Int32} (hdg : decode cc pc = .ok (.ishr, 1)) (k : G B M nL n1 n2 Q ws lv (pc + 1) (.int (x >>> (y &&& 31)) :: rest)) : G B M nL n1 n2 Q ws lv pc (.int y :: .int x :: rest) :=
  fun H locs ls hP hD hS hl0 => lv_ishr X.x X.b hdg (k H locs ls hP hD hS hl0)
theorem g_i2l (X : CX B M cc nL own) {x : Int32} {v : Int64} (hdg : decode cc pc = .ok (.i2l, 1)) (hv : x.toInt64 = v) (k : G B M nL n1 n2 Q ws lv (pc + 1) (.long v :: rest)) : G B M nL n1 n2 Q ws lv pc (.int x :: rest) :=
  fun H locs ls hP hD hS hl0 => lv_i2l X.x X.b hdg hv (k H locs ls hP hD hS hl0)
theorem g_l2i (X : CX B M cc nL own) {x : Int64} {v : Int32} (hdg : decode cc pc = .ok (.l2i, 1)) (hv : x.toInt32 = v) (k : G B M nL n1 n2 Q ws lv (pc + 1) (.int v :: rest)) : G B M nL n1 n2 Q ws lv pc (.long x :: rest) :=
  fun H locs ls hP hD hS hl0 => lv_l2i X.x X.b hdg hv (k H locs ls hP hD hS hl0)
theorem g_i2b (X : CX B M cc nL own) {x : Int32} {v : Int32} (hdg : decode cc pc = .ok (.i2b, 1)) (hv : x.toInt8.toInt32 = v) (k : G B M nL n1 n2 Q ws lv (pc + 1) (.int v :: rest)) : G B M nL n1 n2 Q ws lv pc (.int x :: rest) :=
  fun H locs ls hP hD hS hl0 => lv_i2b X.x X.b hdg hv (k H locs ls hP hD hS hl0)
theorem g_iushr (X : CX B M cc nL own) {x y v : Int32} (hdg : decode cc pc = .ok (.iushr, 1)) (hv : (x.toUInt32 >>> (y.toUInt32 &&& Int32.toUInt32 31)).toInt32 = v) (k : G B M nL n1 n2 Q ws lv (pc + 1) (.int v :: rest)) : G B M nL n1 n2 Q ws lv pc (.int y :: .int x :: rest) :=
  fun H locs ls hP hD hS hl0 => lv_iushr X.x X.b hdg hv (k H locs ls hP hD hS hl0)
theorem g_lushr (X : CX B M cc nL own) {x v : Int64} {y : Int32} (hdg : decode cc pc = .ok (.lushr, 1)) (hv : (x.toUInt64 >>> (y.toInt64.toUInt64 &&& Int64.toUInt64 63)).toInt64 = v) (k : G B M nL n1 n2 Q ws lv (pc + 1) (.long v :: rest)) : G B M nL n1 n2 Q ws lv pc (.int y :: .long x :: rest) :=
  fun H locs ls hP hD hS hl0 => lv_lushr X.x X.b hdg hv (k H locs ls hP hD hS hl0)
theorem g_lshl (X : CX B M cc nL own) {x v : Int64} {y : Int32} (hdg : decode cc pc = .ok (.lshl, 1)) (hv : x <<< (y.toInt64 &&& 63) = v) (k : G B M nL n1 n2 Q ws lv (pc + 1) (.long v :: rest)) : G B M nL n1 n2 Q ws lv pc (.int y :: .long x :: rest) :=
  fun H locs ls hP hD hS hl0 => lv_lshl X.x X.b hdg hv (k H locs ls hP hD hS hl0)
theorem g_lshr (X : CX B M cc nL own) {x v : Int64} {y : Int32} (hdg : decode cc pc = .ok (.lshr, 1)) (hv : x >>> (y.toInt64 &&& 63) = v) (k : G B M nL n1 n2 Q ws lv (pc + 1) (.long v :: rest)) : G B M nL n1 n2 Q ws lv pc (.int y :: .long x :: rest) :=
  fun H locs ls hP hD hS hl0 => lv_lshr X.x X.b hdg hv (k H locs ls hP hD hS hl0)
theorem g_dup (X : CX B M cc nL own) {va : Value} (hdg : decode cc pc = .ok (.dup, 1)) (hva : va.category = 1) (k : G B M nL n1 n2 Q ws lv (pc + 1) (va :: va :: rest)) : G B M nL n1 n2 Q ws lv pc (va :: rest) :=
  fun H locs ls hP hD hS hl0 => lv_dup X.x X.b hdg hva (k H locs ls hP hD hS hl0)
theorem g_pop (X : CX B M cc nL own) {va : Value} (hdg : decode cc pc = .ok (.pop, 1)) (hva : va.category = 1) (k : G B M nL n1 n2 Q ws lv (pc + 1) (rest)) : G B M nL n1 n2 Q ws lv pc (va :: rest) :=
  fun H locs ls hP hD hS hl0 => lv_pop X.x X.b hdg hva (k H locs ls hP hD hS hl0)
theorem g_dup_x1 (X : CX B M cc nL own) {va vb : Value} (hdg : decode cc pc = .ok (.dup_x1, 1)) (hva : va.category = 1) (hvb : vb.category = 1) (k : G B M nL n1 n2 Q ws lv (pc + 1) (va :: vb :: va :: rest)) : G B M nL n1 n2 Q ws lv pc (va :: vb :: rest) :=
  fun H locs ls hP hD hS hl0 => lv_dup_x1 X.x X.b hdg hva hvb (k H locs ls hP hD hS hl0)
theorem g_dup_x2 (X : CX B M cc nL own) {va vb vd : Value} (hdg : decode cc pc = .ok (.dup_x2, 1)) (hva : va.category = 1) (hvb : vb.category = 1) (hvd : vd.category = 1) (k : G B M nL n1 n2 Q ws lv (pc + 1) (va :: vb :: vd :: va :: rest)) : G B M nL n1 n2 Q ws lv pc (va :: vb :: vd :: rest) :=
  fun H locs ls hP hD hS hl0 => lv_dup_x2 X.x X.b hdg hva hvb hvd (k H locs ls hP hD hS hl0)
theorem g_dup2_11 (X : CX B M cc nL own) {va vb : Value} (hdg : decode cc pc = .ok (.dup2, 1)) (hva : va.category = 1) (hvb : vb.category = 1) (k : G B M nL n1 n2 Q ws lv (pc + 1) (va :: vb :: va :: vb :: rest)) : G B M nL n1 n2 Q ws lv pc (va :: vb :: rest) :=
  fun H locs ls hP hD hS hl0 => lv_dup2_11 X.x X.b hdg hva hvb (k H locs ls hP hD hS hl0)
theorem g_dup2_2 (X : CX B M cc nL own) {va : Value} (hdg : decode cc pc = .ok (.dup2, 1)) (hva : va.category = 2) (k : G B M nL n1 n2 Q ws lv (pc + 1) (va :: va :: rest)) : G B M nL n1 n2 Q ws lv pc (va :: rest) :=
  fun H locs ls hP hD hS hl0 => lv_dup2_2 X.x X.b hdg hva (k H locs ls hP hD hS hl0)
theorem g_pop2_2 (X : CX B M cc nL own) {va : Value} (hdg : decode cc pc = .ok (.pop2, 1)) (hva : va.category = 2) (k : G B M nL n1 n2 Q ws lv (pc + 1) (rest)) : G B M nL n1 n2 Q ws lv pc (va :: rest) :=
  fun H locs ls hP hD hS hl0 => lv_pop2_2 X.x X.b hdg hva (k H locs ls hP hD hS hl0)
theorem g_dup2_x1_2 (X : CX B M cc nL own) {va vb : Value} (hdg : decode cc pc = .ok (.dup2_x1, 1)) (hva : va.category = 2) (hvb : vb.category = 1) (k : G B M nL n1 n2 Q ws lv (pc + 1) (va :: vb :: va :: rest)) : G B M nL n1 n2 Q ws lv pc (va :: vb :: rest) :=
  fun H locs ls hP hD hS hl0 => lv_dup2_x1_2 X.x X.b hdg hva hvb (k H locs ls hP hD hS hl0)
theorem g_dup2_x2_2 (X : CX B M cc nL own) {va vb vd : Value} (hdg : decode cc pc = .ok (.dup2_x2, 1)) (hva : va.category = 2) (hvb : vb.category = 1) (hvd : vd.category = 1) (k : G B M nL n1 n2 Q ws lv (pc + 1) (va :: vb :: vd :: va :: rest)) : G B M nL n1 n2 Q ws lv pc (va :: vb :: vd :: rest) :=
  fun H locs ls hP hD hS hl0 => lv_dup2_x2_2 X.x X.b hdg hva hvb hvd (k H locs ls hP hD hS hl0)
theorem g_if_eq (X : CX B M cc nL own) {x : Int32} {off : Int} {tgt : Nat} (hdg : decode cc pc = .ok (.ifCond .eq off, 3)) (ht : (pc : Int) + off = (tgt : Int)) (kt : x = 0 → G B M nL n1 n2 Q ws lv tgt rest) (kf : ¬ x = 0 → G B M nL n1 n2 Q ws lv (pc + 3) rest) : G B M nL n1 n2 Q ws lv pc (.int x :: rest) :=
  fun H locs ls hP hD hS hl0 => lv_if_eq X.x X.b hdg ht (fun hc => kt hc H locs ls hP hD hS hl0) (fun hc => kf hc H locs ls hP hD hS hl0)
theorem g_if_ne (X : CX B M cc nL own) {x : Int32} {off : Int} {tgt : Nat} (hdg : decode cc pc = .ok (.ifCond .ne off, 3)) (ht : (pc : Int) + off = (tgt : Int)) (kt : ¬ x = 0 → G B M nL n1 n2 Q ws lv tgt rest) (kf : x = 0 → G B M nL n1 n2 Q ws lv (pc + 3) rest) : G B M nL n1 n2 Q ws lv pc (.int x :: rest) :=
  fun H locs ls hP hD hS hl0 => lv_if_ne X.x X.b hdg ht (fun hc => kt hc H locs ls hP hD hS hl0) (fun hc => kf hc H locs ls hP hD hS hl0)
theorem g_if_lt (X : CX B M cc nL own) {x : Int32} {off : Int} {tgt : Nat} (hdg : decode cc pc = .ok (.ifCond .lt off, 3)) (ht : (pc : Int) + off = (tgt : Int)) (kt : x < 0 → G B M nL n1 n2 Q ws lv tgt rest) (kf : ¬ x < 0 → G B M nL n1 n2 Q ws lv (pc + 3) rest) : G B M nL n1 n2 Q ws lv pc (.int x :: rest) :=
  fun H locs ls hP hD hS hl0 => lv_if_lt X.x X.b hdg ht (fun hc => kt hc H locs ls hP hD hS hl0) (fun hc => kf hc H locs ls hP hD hS hl0)
theorem g_if_ge (X : CX B M cc nL own) {x : Int32} {off : Int} {tgt : Nat} (hdg : decode cc pc = .ok (.ifCond .ge off, 3)) (ht : (pc : Int) + off = (tgt : Int)) (kt : 0 ≤ x → G B M nL n1 n2 Q ws lv tgt rest) (kf : ¬ 0 ≤ x → G B M nL n1 n2 Q ws lv (pc + 3) rest) : G B M nL n1 n2 Q ws lv pc (.int x :: rest) :=
  fun H locs ls hP hD hS hl0 => lv_if_ge X.x X.b hdg ht (fun hc => kt hc H locs ls hP hD hS hl0) (fun hc => kf hc H locs ls hP hD hS hl0)
theorem g_if_gt (X : CX B M cc nL own) {x : Int32} {off : Int} {tgt : Nat} (hdg : decode cc pc = .ok (.ifCond .gt off, 3)) (ht : (pc : Int) + off = (tgt : Int)) (kt : 0 < x → G B M nL n1 n2 Q ws lv tgt rest) (kf : ¬ 0 < x → G B M nL n1 n2 Q ws lv (pc + 3) rest) : G B M nL n1 n2 Q ws lv pc (.int x :: rest) :=
  fun H locs ls hP hD hS hl0 => lv_if_gt X.x X.b hdg ht (fun hc => kt hc H locs ls hP hD hS hl0) (fun hc => kf hc H locs ls hP hD hS hl0)
theorem g_if_le (X : CX B M cc nL own) {x : Int32} {off : Int} {tgt : Nat} (hdg : decode cc pc = .ok (.ifCond .le off, 3)) (ht : (pc : Int) + off = (tgt : Int)) (kt : x ≤ 0 → G B M nL n1 n2 Q ws lv tgt rest) (kf : ¬ x ≤ 0 → G B M nL n1 n2 Q ws lv (pc + 3) rest) : G B M nL n1 n2 Q ws lv pc (.int x :: rest) :=
  fun H locs ls hP hD hS hl0 => lv_if_le X.x X.b hdg ht (fun hc => kt hc H locs ls hP hD hS hl0) (fun hc => kf hc H locs ls hP hD hS hl0)
theorem g_icmp_eq (X : CX B M cc nL own) {x y : Int32} {off : Int} {tgt : Nat} (hdg : decode cc pc = .ok (.if_icmp .eq off, 3)) (ht : (pc : Int) + off = (tgt : Int)) (kt : x = y → G B M nL n1 n2 Q ws lv tgt rest) (kf : ¬ x = y → G B M nL n1 n2 Q ws lv (pc + 3) rest) : G B M nL n1 n2 Q ws lv pc (.int y :: .int x :: rest) :=
  fun H locs ls hP hD hS hl0 => lv_icmp_eq X.x X.b hdg ht (fun hc => kt hc H locs ls hP hD hS hl0) (fun hc => kf hc H locs ls hP hD hS hl0)
theorem g_icmp_ne (X : CX B M cc nL own) {x y : Int32} {off : Int} {tgt : Nat} (hdg : decode cc pc = .ok (.if_icmp .ne off, 3)) (ht : (pc : Int) + off = (tgt : Int)) (kt : ¬ x = y → G B M nL n1 n2 Q ws lv tgt rest) (kf : x = y → G B M nL n1 n2 Q ws lv (pc + 3) rest) : G B M nL n1 n2 Q ws lv pc (.int y :: .int x :: rest) :=
  fun H locs ls hP hD hS hl0 => lv_icmp_ne X.x X.b hdg ht (fun hc => kt hc H locs ls hP hD hS hl0) (fun hc => kf hc H locs ls hP hD hS hl0)
theorem g_icmp_lt (X : CX B M cc nL own) {x y : Int32} {off : Int} {tgt : Nat} (hdg : decode cc pc = .ok (.if_icmp .lt off, 3)) (ht : (pc : Int) + off = (tgt : Int)) (kt : x < y → G B M nL n1 n2 Q ws lv tgt rest) (kf : ¬ x < y → G B M nL n1 n2 Q ws lv (pc + 3) rest) : G B M nL n1 n2 Q ws lv pc (.int y :: .int x :: rest) :=
  fun H locs ls hP hD hS hl0 => lv_icmp_lt X.x X.b hdg ht (fun hc => kt hc H locs ls hP hD hS hl0) (fun hc => kf hc H locs ls hP hD hS hl0)
theorem g_icmp_ge (X : CX B M cc nL own) {x y : Int32} {off : Int} {tgt : Nat} (hdg : decode cc pc = .ok (.if_icmp .ge off, 3)) (ht : (pc : Int) + off = (tgt : Int)) (kt : y ≤ x → G B M nL n1 n2 Q ws lv tgt rest) (kf : ¬ y ≤ x → G B M nL n1 n2 Q ws lv (pc + 3) rest) : G B M nL n1 n2 Q ws lv pc (.int y :: .int x :: rest) :=
  fun H locs ls hP hD hS hl0 => lv_icmp_ge X.x X.b hdg ht (fun hc => kt hc H locs ls hP hD hS hl0) (fun hc => kf hc H locs ls hP hD hS hl0)
theorem g_icmp_gt (X : CX B M cc nL own) {x y : Int32} {off : Int} {tgt : Nat} (hdg : decode cc pc = .ok (.if_icmp .gt off, 3)) (ht : (pc : Int) + off = (tgt : Int)) (kt : y < x → G B M nL n1 n2 Q ws lv tgt rest) (kf : ¬ y < x → G B M nL n1 n2 Q ws lv (pc + 3) rest) : G B M nL n1 n2 Q ws lv pc (.int y :: .int x :: rest) :=
  fun H locs ls hP hD hS hl0 => lv_icmp_gt X.x X.b hdg ht (fun hc => kt hc H locs ls hP hD hS hl0) (fun hc => kf hc H locs ls hP hD hS hl0)
theorem g_icmp_le (X : CX B M cc nL own) {x y : Int32} {off : Int} {tgt : Nat} (hdg : decode cc pc = .ok (.if_icmp .le off, 3)) (ht : (pc : Int) + off = (tgt : Int)) (kt : x ≤ y → G B M nL n1 n2 Q ws lv tgt rest) (kf : ¬ x ≤ y → G B M nL n1 n2 Q ws lv (pc + 3) rest) : G B M nL n1 n2 Q ws lv pc (.int y :: .int x :: rest) :=
  fun H locs ls hP hD hS hl0 => lv_icmp_le X.x X.b hdg ht (fun hc => kt hc H locs ls hP hD hS hl0) (fun hc => kf hc H locs ls hP hD hS hl0)
theorem g_goto (X : CX B M cc nL own) {off : Int} {tgt : Nat} (hdg : decode cc pc = .ok (.goto off, 3)) (ht : (pc : Int) + off = (tgt : Int)) (k : G B M nL n1 n2 Q ws lv tgt rest) : G B M nL n1 n2 Q ws lv pc rest :=
  fun H locs ls hP hD hS hl0 => lv_goto X.x X.b hdg ht (k H locs ls hP hD hS hl0)
theorem g_ldc (X : CX B M cc nL own) {index : Nat} {v : Int32} (hconst : Cond.constant own index v ∈ W0) (hdg : decode cc pc = .ok (.ldc index, 2)) (k : G B M nL n1 n2 Q ws lv (pc + 2) (.int v :: rest)) : G B M nL n1 n2 Q ws lv pc rest :=
  fun H locs ls hP hD hS hl0 => lv_ldc X.x X.b X.o (X.t _ hconst) hdg (k H locs ls hP hD hS hl0)
theorem g_ldc2 (X : CX B M cc nL own) {index : Nat} {v : Int64} (hconst : Cond.constantLong own index v ∈ W0) (hdg : decode cc pc = .ok (.ldc2_w index, 3)) (k : G B M nL n1 n2 Q ws lv (pc + 3) (.long v :: rest)) : G B M nL n1 n2 Q ws lv pc rest :=
  fun H locs ls hP hD hS hl0 => lv_ldc2 X.x X.b X.o (X.t _ hconst) hdg (k H locs ls hP hD hS hl0)
theorem g_tableIn (X : CX B M cc nL own) {dflt lo hi : Int} {offs : Array Int} {len : Nat} {x : Int32} {off : Int} {tgt : Nat} (hdg : decode cc pc = .ok (.tableswitch dflt lo hi offs, len)) (h1 : ¬ x.toInt < lo) (h2 : ¬ hi < x.toInt) (ho : offs[(x.toInt - lo).toNat]? = some off) (ht : (pc : Int) + off = (tgt : Int)) (k : G B M nL n1 n2 Q ws lv tgt rest) : G B M nL n1 n2 Q ws lv pc (.int x :: rest) :=
  fun H locs ls hP hD hS hl0 => lv_tableIn X.x X.b hdg h1 h2 ho ht (k H locs ls hP hD hS hl0)
theorem g_tableOut (X : CX B M cc nL own) {dflt lo hi : Int} {offs : Array Int} {len : Nat} {x : Int32} {tgt : Nat} (hdg : decode cc pc = .ok (.tableswitch dflt lo hi offs, len)) (h : x.toInt < lo ∨ hi < x.toInt) (ht : (pc : Int) + dflt = (tgt : Int)) (k : G B M nL n1 n2 Q ws lv tgt rest) : G B M nL n1 n2 Q ws lv pc (.int x :: rest) :=
  fun H locs ls hP hD hS hl0 => lv_tableOut X.x X.b hdg h ht (k H locs ls hP hD hS hl0)
theorem g_lookup (X : CX B M cc nL own) {dflt : Int} {ps : Array (Int × Int)} {len : Nat} {x : Int32} {off : Int} {tgt : Nat} (hdg : decode cc pc = .ok (.lookupswitch dflt ps, len)) (hp : (ps.toList.zip (ps.toList.drop 1)).all (fun (a, next) => a.1 < next.1) = true) (ho : Op.lookupswitch.offset ps.toList dflt x.toInt = off) (ht : (pc : Int) + off = (tgt : Int)) (k : G B M nL n1 n2 Q ws lv tgt rest) : G B M nL n1 n2 Q ws lv pc (.int x :: rest) :=
  fun H locs ls hP hD hS hl0 => lv_lookup X.x X.b hdg hp ho ht (k H locs ls hP hD hS hl0)
theorem g_get (X : CX B M cc nL own) {C : String} {T : u_T} {N ci index a : Nat} (hin : ∀ w ∈ u_ws C T N, w ∈ W0) (q0 : Nat) {fs : List Value} (he : ws[q0]? = some (a, .inr (ci, fs))) (hc : classes[ci]? = some (C, T, N)) (k : Nat) (hk : k < N) (hlink : Cond.fieldLink own index (T k).1 (T k).2.1 (T k).2.2.1 ∈ W0) {v : Value} (hv : fs[k]? = some v) (hdg : decode cc pc = .ok (.getfield index, 3))
    (kk : G B M nL n1 n2 Q ws lv (pc + 3) (v :: rest)) : G B M nL n1 n2 Q ws lv pc (.ref a :: rest) :=
  fun H locs ls hP hD hS hl => va_get X.x X.b X.t hin X.o X.k hP q0 he hc k hk (X.t _ hlink) (fun _ h => h) hv hdg (kk H locs ls hP hD hS hl)
theorem g_getN (X : CX B M cc nL own) {C host : String} {T : u_T} {N ci index a : Nat} (hin : ∀ w ∈ u_ws C T N, w ∈ W0) (q0 : Nat) {fs : List Value} (he : ws[q0]? = some (a, .inr (ci, fs))) (hc : classes[ci]? = some (C, T, N)) (k : Nat) (hk : k < N) (hlink : Cond.fieldLinkNest own index (T k).1 (T k).2.1 (T k).2.2.1 host ∈ nestWords) {v : Value} (hv : fs[k]? = some v) (hdg : decode cc pc = .ok (.getfield index, 3))
    (kk : G B M nL n1 n2 Q ws lv (pc + 3) (v :: rest)) : G B M nL n1 n2 Q ws lv pc (.ref a :: rest) :=
  fun H locs ls hP hD hS hl => va_getN X.x X.b X.t hin X.o X.k hP q0 he hc k hk (va_Nw.use rfl (X.s.2.1 _ hlink)) (fun _ h => h) hv hdg (kk H locs ls hP hD hS hl)
theorem g_put (X : CX B M cc nL own) {C : String} {T : u_T} {N ci index a : Nat} (hin : ∀ w ∈ u_ws C T N, w ∈ W0) (ty0 : Nat → FieldType) (hty : ∀ k, k < N → parseFieldDescriptor (T k).2.2.1 = some (ty0 k)) (hnm : ∀ a, a < N → ∀ b, b < N → a ≠ b → (T a).2.1 ≠ (T b).2.1) (q0 : Nat) {fs : List Value} (he : ws[q0]? = some (a, .inr (ci, fs))) (hc : classes[ci]? = some (C, T, N)) (k : Nat) (hk : k < N) (hlink : Cond.fieldLink own index (T k).1 (T k).2.1 (T k).2.2.1 ∈ W0) (hfin : (T k).2.2.2 = false) {v : Value} (hn : narrow (ty0 k) v = v) (hfit : fits (ty0 k) v = true) (hl9 : k < fs.length) (hdg : decode cc pc = .ok (.putfield index, 3))
    (kk : G B M nL n1 n2 Q (ws.set q0 (a, .inr (ci, fs.set k v))) lv (pc + 3) rest) : G B M nL n1 n2 Q ws lv pc (v :: .ref a :: rest) :=
  fun H locs ls hP hD hS hl => va_put X.x X.b X.t hin ty0 hty hnm X.o X.k hP hD hS q0 he hc k hk (X.t _ hlink) (fun _ h => h) hfin (hty k hk) hn hfit hl9 hdg (fun H1 locs1 hP1 hD1 hS1 => kk H1 locs1 ls hP1 hD1 hS1 hl)
theorem g_putN (X : CX B M cc nL own) {C host : String} {T : u_T} {N ci index a : Nat} (hin : ∀ w ∈ u_ws C T N, w ∈ W0) (ty0 : Nat → FieldType) (hty : ∀ k, k < N → parseFieldDescriptor (T k).2.2.1 = some (ty0 k)) (hnm : ∀ a, a < N → ∀ b, b < N → a ≠ b → (T a).2.1 ≠ (T b).2.1) (q0 : Nat) {fs : List Value} (he : ws[q0]? = some (a, .inr (ci, fs))) (hc : classes[ci]? = some (C, T, N)) (k : Nat) (hk : k < N) (hlink : Cond.fieldLinkNest own index (T k).1 (T k).2.1 (T k).2.2.1 host ∈ nestWords) (hfin : (T k).2.2.2 = false) {v : Value} (hn : narrow (ty0 k) v = v) (hfit : fits (ty0 k) v = true) (hl9 : k < fs.length) (hdg : decode cc pc = .ok (.putfield index, 3))
    (kk : G B M nL n1 n2 Q (ws.set q0 (a, .inr (ci, fs.set k v))) lv (pc + 3) rest) : G B M nL n1 n2 Q ws lv pc (v :: .ref a :: rest) :=
  fun H locs ls hP hD hS hl => va_putN X.x X.b X.t hin ty0 hty hnm X.o X.k hP hD hS q0 he hc k hk (va_Nw.use rfl (X.s.2.1 _ hlink)) (fun _ h => h) hfin (hty k hk) hn hfit hl9 hdg (fun H1 locs1 hP1 hD1 hS1 => kk H1 locs1 ls hP1 hD1 hS1 hl)
theorem g_putF (X : CX B M cc nL own) (hini : (m_h M).name = "<init>") {C : String} {T : u_T} {N ci index a : Nat} (hin : ∀ w ∈ u_ws C T N, w ∈ W0) (ty0 : Nat → FieldType) (hty : ∀ k, k < N → parseFieldDescriptor (T k).2.2.1 = some (ty0 k)) (hnm : ∀ a, a < N → ∀ b, b < N → a ≠ b → (T a).2.1 ≠ (T b).2.1) (q0 : Nat) {fs : List Value} (he : ws[q0]? = some (a, .inr (ci, fs))) (hc : classes[ci]? = some (C, T, N)) (k : Nat) (hk : k < N) (hlink : Cond.fieldLink own index (T k).1 (T k).2.1 (T k).2.2.1 ∈ W0) (hfin : (T k).2.2.2 = true) (hdecl : (T k).1 = own) {v : Value} (hn : narrow (ty0 k) v = v) (hfit : fits (ty0 k) v = true) (hl9 : k < fs.length) (hdg : decode cc pc = .ok (.putfield index, 3))
    (kk : G B M nL n1 n2 Q (ws.set q0 (a, .inr (ci, fs.set k v))) lv (pc + 3) rest) : G B M nL n1 n2 Q ws lv pc (v :: .ref a :: rest) :=
  fun H locs ls hP hD hS hl => va_putF X.x X.b X.t hin ty0 hty hnm X.o X.k hP hD hS q0 he hc k hk (X.t _ hlink) (fun _ h => h) hfin hini hdecl (hty k hk) hn hfit hl9 hdg (fun H1 locs1 hP1 hD1 hS1 => kk H1 locs1 ls hP1 hD1 hS1 hl)
theorem bt_up (g : Nat → Int8) (k : Nat) (x : Int32) : upd (fun j => (g j).toInt32) k (vp_nar .byte x) = fun j => (va_up g k x.toInt8 j).toInt32 := by
  funext j
  rw [vp_nar_byte]
  by_cases h : j = k
  · subst h; simp [upd, va_up]
  · simp [upd, va_up, h]
theorem g_bald (X : CX B M cc nL own) {a n : Nat} {g : Nat → Int8} (q0 : Nat) (he : ws[q0]? = some (cb B a n g)) (k : Nat) {i : Int32} (hi : i = nI k) (hk : k < n) (hn : n < 2 ^ 31) (hdg : decode cc pc = .ok (.baload, 1))
    (kk : G B M nL n1 n2 Q ws lv (pc + 1) (.int (g k).toInt32 :: rest)) : G B M nL n1 n2 Q ws lv pc (.int i :: .ref a :: rest) := by
  intro H locs ls hP hD hS hl
  subst hi
  refine va_bald X.x X.b X.k hP q0 0 he rfl (vp_in_nI hk hn) hdg ?_
  rw [nI_clamp (Nat.lt_trans hk hn)]
  exact kk H locs ls hP hD hS hl
theorem g_bast (X : CX B M cc nL own) {a n : Nat} {g : Nat → Int8} (q0 : Nat) (he : ws[q0]? = some (cb B a n g)) (k : Nat) {i x : Int32} (hi : i = nI k) (hk : k < n) (hn : n < 2 ^ 31) (hdg : decode cc pc = .ok (.bastore, 1))
    (kk : G B M nL n1 n2 Q (ws.set q0 (cb B a n (va_up g k x.toInt8))) lv (pc + 1) rest) : G B M nL n1 n2 Q ws lv pc (.int x :: .int i :: .ref a :: rest) := by
  intro H locs ls hP hD hS hl
  subst hi
  refine va_bast X.x X.b X.k hP hD hS q0 0 he rfl (vp_in_nI hk hn) hdg (fun H1 locs1 hP1 hD1 hS1 => ?_)
  rw [nI_clamp (Nat.lt_trans hk hn), bt_up] at hP1 hD1
  exact kk H1 locs1 ls hP1 hD1 hS1 hl
theorem g_lald (X : CX B M cc nL own) {a n : Nat} {f : Nat → Int64} (q0 : Nat) (he : ws[q0]? = some (cj B a n f)) (k : Nat) {i : Int32} (hi : i = nI k) (hk : k < n) (hn : n < 2 ^ 31) (hdg : decode cc pc = .ok (.laload, 1))
    (kk : G B M nL n1 n2 Q ws lv (pc + 1) (.long (f k) :: rest)) : G B M nL n1 n2 Q ws lv pc (.int i :: .ref a :: rest) := by
  intro H locs ls hP hD hS hl
  subst hi
  refine va_lald X.x X.b X.k hP q0 1 he rfl (vp_in_nI hk hn) hdg ?_
  rw [nI_clamp (Nat.lt_trans hk hn)]
  exact kk H locs ls hP hD hS hl
theorem g_last (X : CX B M cc nL own) {a n : Nat} {f : Nat → Int64} (q0 : Nat) (he : ws[q0]? = some (cj B a n f)) (k : Nat) {i : Int32} {x : Int64} (hi : i = nI k) (hk : k < n) (hn : n < 2 ^ 31) (hdg : decode cc pc = .ok (.lastore, 1))
    (kk : G B M nL n1 n2 Q (ws.set q0 (cj B a n (va_up f k x))) lv (pc + 1) rest) : G B M nL n1 n2 Q ws lv pc (.long x :: .int i :: .ref a :: rest) := by
  intro H locs ls hP hD hS hl
  subst hi
  refine va_last X.x X.b X.k hP hD hS q0 1 he rfl (vp_in_nI hk hn) hdg (fun H1 locs1 hP1 hD1 hS1 => ?_)
  rw [nI_clamp (Nat.lt_trans hk hn)] at hP1 hD1
  exact kk H1 locs1 ls hP1 hD1 hS1 hl
theorem g_iald (X : CX B M cc nL own) {a n : Nat} {f : Nat → Int32} (q0 : Nat) (he : ws[q0]? = some (cn B a n f)) (k : Nat) {i : Int32} (hi : i = nI k) (hk : k < n) (hn : n < 2 ^ 31) (hdg : decode cc pc = .ok (.iaload, 1))
    (kk : G B M nL n1 n2 Q ws lv (pc + 1) (.int (f k) :: rest)) : G B M nL n1 n2 Q ws lv pc (.int i :: .ref a :: rest) := by
  intro H locs ls hP hD hS hl
  subst hi
  refine va_iald X.x X.b X.k hP q0 2 he rfl (vp_in_nI hk hn) hdg ?_
  rw [nI_clamp (Nat.lt_trans hk hn)]
  exact kk H locs ls hP hD hS hl
theorem g_iast (X : CX B M cc nL own) {a n : Nat} {f : Nat → Int32} (q0 : Nat) (he : ws[q0]? = some (cn B a n f)) (k : Nat) {i x : Int32} (hi : i = nI k) (hk : k < n) (hn : n < 2 ^ 31) (hdg : decode cc pc = .ok (.iastore, 1))
    (kk : G B M nL n1 n2 Q (ws.set q0 (cn B a n (va_up f k x))) lv (pc + 1) rest) : G B M nL n1 n2 Q ws lv pc (.int x :: .int i :: .ref a :: rest) := by
  intro H locs ls hP hD hS hl
  subst hi
  refine va_iast X.x X.b X.k hP hD hS q0 2 he rfl (vp_in_nI hk hn) hdg (fun H1 locs1 hP1 hD1 hS1 => ?_)
  rw [nI_clamp (Nat.lt_trans hk hn)] at hP1 hD1
  exact kk H1 locs1 ls hP1 hD1 hS1 hl
theorem g_rald (X : CX B M cc nL own) {a n : Nat} {f : Nat → Option Nat} (q0 : Nat) (he : ws[q0]? = some (cr B a n f)) (k : Nat) {i : Int32} (hi : i = nI k) (hk : k < n) (hn : n < 2 ^ 31) {r : Nat} (hr : f k = some r) (hdg : decode cc pc = .ok (.aaload, 1))
    (kk : G B M nL n1 n2 Q ws lv (pc + 1) (.ref r :: rest)) : G B M nL n1 n2 Q ws lv pc (.int i :: .ref a :: rest) := by
  intro H locs ls hP hD hS hl
  subst hi
  refine va_aldq X.x X.b X.k hP q0 3 he rfl (vp_in_nI hk hn) hdg ?_
  rw [nI_clamp (Nat.lt_trans hk hn), hr]
  exact kk H locs ls hP hD hS hl
theorem g_alen (X : CX B M cc nL own) {a : Nat} {cA : ClassId} {x : vp_A} (q0 t0 : Nat) (he : ws[q0]? = some (a, .inl (cA, x))) {ty : FieldType} (ht : (b_y B)[t0]? = some (cA, ty)) {v : Int32} (hv : nI x.1 = v) (hdg : decode cc pc = .ok (.arraylength, 1))
    (kk : G B M nL n1 n2 Q ws lv (pc + 1) (.int v :: rest)) : G B M nL n1 n2 Q ws lv pc (.ref a :: rest) :=
  fun H locs ls hP hD hS hl => va_alen X.x X.b X.k hP q0 t0 he ht hv hdg (kk H locs ls hP hD hS hl)
theorem CX.Z (X : CX B M cc nL own) (k : Nat) (hk : k < 12) : va_Z "SpongeDigests" (s_nm k) (s_ds k) (.ref (b_t B k)) (m_A M) (m_s M) (m_s M).heap := (X.s.2.2 k hk).1.narrow X.z
theorem CX.T (X : CX B M cc nL own) (k : Nat) (hk : k < 12) : va_T (s_ty k) (b_t B k) (s_N k) (s_f k) (m_A M) (m_s M) (m_s M).heap := (X.s.2.2 k hk).2.narrow X.z
theorem g_gets (X : CX B M cc nL own) {index : Nat} (k : Nat) (hk : k < 12) (hlink : Cond.fieldLink own index "SpongeDigests" (s_nm k) (s_ds k) ∈ W0) (hdg : decode cc pc = .ok (.getstatic index, 3))
    (kk : G B M nL n1 n2 Q ws lv (pc + 3) (.ref (b_t B k) :: rest)) : G B M nL n1 n2 Q ws lv pc rest :=
  fun H locs ls hP hD hS hl => va_gets X.x X.b (X.Z k hk) hS X.o (X.t _ hlink) (fun _ h => h) hdg (kk H locs ls hP hD hS hl)
theorem g_getsN (X : CX B M cc nL own) {index : Nat} {host : String} (k : Nat) (hk : k < 12) (hlink : Cond.fieldLinkNest own index "SpongeDigests" (s_nm k) (s_ds k) host ∈ nestWords) (hdg : decode cc pc = .ok (.getstatic index, 3))
    (kk : G B M nL n1 n2 Q ws lv (pc + 3) (.ref (b_t B k) :: rest)) : G B M nL n1 n2 Q ws lv pc rest :=
  fun H locs ls hP hD hS hl => va_getsN X.x X.b (X.Z k hk) hS X.o (va_Nw.use rfl (X.s.2.1 _ hlink)) (fun _ h => h) hdg (kk H locs ls hP hD hS hl)
theorem g_ti (X : CX B M cc nL own) (k : Nat) (hk : k < 12) (hty : s_ty k = .int) (j : Nat) {i : Int32} (hi : i = nI j) (hj : j < s_N k) (hdg : decode cc pc = .ok (.iaload, 1))
    (kk : G B M nL n1 n2 Q ws lv (pc + 1) (.int (s_i k j) :: rest)) : G B M nL n1 n2 Q ws lv pc (.int i :: .ref (b_t B k) :: rest) := by
  intro H locs ls hP hD hS hl
  subst hi
  have hn := s_N_lt k hk
  have hT := X.T k hk
  rw [hty] at hT
  exact va_ti X.x X.b hT hS (vp_in_nI hj hn) (by rw [nI_clamp (Nat.lt_trans hj hn)]; exact s_fi hty j) hdg (kk H locs ls hP hD hS hl)
theorem g_tl (X : CX B M cc nL own) (k : Nat) (hk : k < 12) (hty : s_ty k = .long) (j : Nat) {i : Int32} (hi : i = nI j) (hj : j < s_N k) (hdg : decode cc pc = .ok (.laload, 1))
    (kk : G B M nL n1 n2 Q ws lv (pc + 1) (.long (s_l k j) :: rest)) : G B M nL n1 n2 Q ws lv pc (.int i :: .ref (b_t B k) :: rest) := by
  intro H locs ls hP hD hS hl
  subst hi
  have hn := s_N_lt k hk
  have hT := X.T k hk
  rw [hty] at hT
  exact va_tl X.x X.b hT hS (vp_in_nI hj hn) (by rw [nI_clamp (Nat.lt_trans hj hn)]; exact s_fl hty j) hdg (kk H locs ls hP hD hS hl)
def PreW (B : Bx) (ws : va_W) (sz : Nat) (U : State) : Prop := U.heap.size = sz ∧ KX B U ∧ va_P B.1 classes ws U.heap ∧ va_K B.1 classes (b_y B) U ∧ va_D (fun q => b_z B ≤ q) ws
def PostW (B : Bx) (A : Nat → Prop) (ws1 : va_W) (t : State) : Prop := va_P B.1 classes ws1 t.heap ∧ va_K B.1 classes (b_y B) t ∧ va_D A ws1
def Cv {S : Type} (l : Launch) (B : Bx) (y : MethodName) (b : ByteArray) (n : Nat) (rm : Room) (av : List Value) (ws : va_W) (ok : S → Prop) (ws1 : S → va_W) : Prop :=
  ∀ sz : Nat, Met l y (Cond.code y b n none :: W0) rm (va_Pc av (PreW B ws sz)) (va_Qv ok (fun u t => PostW B (va_A ws sz) (ws1 u) t) (va_A ws sz)) rm.cells rm.slots (va_A ws sz)
def Ci {S : Type} (l : Launch) (B : Bx) (y : MethodName) (b : ByteArray) (n : Nat) (rt : FieldType) (rm : Room) (av : List Value) (ws : va_W) (ok : Int32 → S → Prop) (ws1 : S → va_W) : Prop :=
  ∀ sz : Nat, Met l y (Cond.code y b n (some rt) :: W0) rm (va_Pc av (PreW B ws sz)) (va_Qi ok (fun u t => PostW B (va_A ws sz) (ws1 u) t) (va_A ws sz)) rm.cells rm.slots (va_A ws sz)
def Cl {S : Type} (l : Launch) (B : Bx) (y : MethodName) (b : ByteArray) (n : Nat) (rm : Room) (av : List Value) (ws : va_W) (ok : Int64 → S → Prop) (ws1 : S → va_W) : Prop :=
  ∀ sz : Nat, Met l y (Cond.code y b n (some .long) :: W0) rm (va_Pc av (PreW B ws sz)) (va_Ql ok (fun u t => PostW B (va_A ws sz) (ws1 u) t) (va_A ws sz)) rm.cells rm.slots (va_A ws sz)
def Cr {S : Type} (l : Launch) (B : Bx) (y : MethodName) (b : ByteArray) (n : Nat) (rt : FieldType) (rm : Room) (av : List Value) (ws : va_W) (ok : S → Prop) (ra : S → Nat) (ws1 : S → va_W) : Prop :=
  ∀ sz : Nat, Met l y (Cond.code y b n (some rt) :: W0) rm (va_Pc av (PreW B ws sz)) (va_Qr ok (fun u a t => a = ra u ∧ PostW B (va_A ws sz) (ws1 u) t) (va_A ws sz)) rm.cells rm.slots (va_A ws sz)
theorem KX.go {s U : State} {H : Heap} {A : Nat → Prop} {locs : List Loc} (h : KX B s) (hA : ∀ q, A q → b_z B ≤ q) (hS : va_S A s.heap H locs) (hU : U.heap = H) (hW : s.WarmedH U.vm) : KX B U := by
  obtain ⟨h1, h2, h3⟩ := h
  refine ⟨by rw [hU]; exact Nat.le_trans h1 hS.1, fun w hw => nest_warm hw hW (h2 w hw), fun k hk => ?_⟩
  obtain ⟨z, t⟩ := h3 k hk
  have hq : ∀ a : Nat, a < s.heap.size → ¬ (b_z B ≤ a) → U.heap[a]? = s.heap[a]? := fun a h4 h5 => by rw [hU]; exact hS.2.1 a h4 (fun h6 => h5 (hA a h6))
  exact ⟨va_Z.moved hW.alike (z.kept hq), va_T.moved hW.alike (t.kept hq)⟩
theorem KX.same {u U : State} (h : KX B u) (hv : u.vm = U.vm) (hh : U.heap = u.heap) : KX B U := by
  obtain ⟨h1, h2, h3⟩ := h
  refine ⟨by rw [hh]; exact h1, fun w hw => va_Nw.same (nest_on hw) hv (h2 w hw), fun k hk => ?_⟩
  rw [hh]
  have hal : u.vm.Alike U.vm := by rw [hv]; exact Vm.Alike.refl _
  exact ⟨va_Z.moved hal (h3 k hk).1, va_T.moved hal (h3 k hk).2⟩
theorem PreW.blind (av : List Value) (ws : va_W) (sz : Nat) : FrameBlind (va_Pc av (PreW B ws sz)) := fun a U g mk q => by
  obtain ⟨q0, q1, q2, q3, q4, q5⟩ := q
  exact ⟨q0, q1, KX.same q2 rfl rfl, q3, va_K.moved (u := U) (U := U.calling g mk a) (Vm.Alike.refl U.vm) q4, q5⟩
theorem PreW.at (X : CX B M cc nL own) {H : Heap} {locs : List Loc} (av : List Value) {wc : va_W} {isC : List Nat} (hP : va_P B.1 classes ws H) (hD : va_D (m_A M) ws) (hS : va_S (m_A M) (m_s M).heap H locs) (hnC : va_nd isC = true) (hC : isC.map (fun i => ws[i]?) = wc.map some) : ∀ U : State, U.heap = H → (m_s M).WarmedH U.vm → va_Pc av (PreW B wc H.size) av.toArray U := by
  intro U hU hW
  refine ⟨rfl, by rw [hU], X.s.go X.z hS hU hW, ?_, va_K.moved hW.alike X.k, (hD.sub isC hnC hC).weaken (fun _ q _ h => X.z q.1 h)⟩
  rw [hU]
  intro i q hq
  have h1 : (isC.map (fun i => ws[i]?))[i]? = (wc.map some)[i]? := by rw [hC]
  rw [List.getElem?_map, List.getElem?_map, hq] at h1
  cases hi : isC[i]? with
  | none => rw [hi] at h1; cases h1
  | some j => rw [hi] at h1; exact hP j q (Option.some.inj h1)
theorem W0_good {y' : MethodName} {b' : ByteArray} {n' : Nat} {r' : Option FieldType} (h : Cond.code y' b' n' r' ∈ W0) : GoodIn W0 (Cond.code y' b' n' r' :: W0) := by
  intro w hw
  have hm : w ∈ W0 := by
    rcases List.mem_cons.mp hw with rfl | h1
    · exact h
    · exact h1
  exact ⟨hm, good_of_word (List.mem_filter.mp hm).2⟩
end GB
end
section
def wput (ws : va_W) : List Nat → va_W → va_W
  | i :: is, c :: cs => wput (ws.set i c) is cs
  | [], _ => ws
  | _ :: _, [] => ws
theorem wset_fst {ws : va_W} {i : Nat} {c : Nat × va_E} (h : (ws[i]?).map Prod.fst = some c.1) (k : Nat) : ((ws.set i c)[k]?).map Prod.fst = (ws[k]?).map Prod.fst := by
  rw [List.getElem?_set]
  by_cases hik : i = k
  · subst hik
    rw [if_pos rfl]
    by_cases hl : i < ws.length
    · rw [if_pos hl, h]; rfl
    · rw [List.getElem?_eq_none (by omega)] at h; cases h
  · rw [if_neg hik]
theorem wput_fst : ∀ (is : List Nat) (cs ws : va_W), (∀ (j i : Nat) (c : Nat × va_E), is[j]? = some i → cs[j]? = some c → (ws[i]?).map Prod.fst = some c.1) → ∀ k : Nat, ((wput ws is cs)[k]?).map Prod.fst = (ws[k]?).map Prod.fst
  | [], cs, ws, _, k => by cases cs <;> rfl
  | i :: is, [], ws, _, k => rfl
  | i :: is, c :: cs, ws, h, k => by
    have h0 := h 0 i c rfl rfl
    show ((wput (ws.set i c) is cs)[k]?).map Prod.fst = _
    rw [wput_fst is cs (ws.set i c) (fun j i' c' h1 h2 => by rw [wset_fst h0]; exact h (j + 1) i' c' h1 h2) k, wset_fst h0]
theorem wput_in : ∀ (is : List Nat) (cs ws : va_W), is.length = cs.length → ∀ (k : Nat) (q : Nat × va_E), (wput ws is cs)[k]? = some q → q ∈ cs ∨ (k ∉ is ∧ ws[k]? = some q)
  | [], [], ws, _, k, q, h => Or.inr ⟨List.not_mem_nil, h⟩
  | [], c :: cs, ws, hl, k, q, h => by simp at hl
  | i :: is, [], ws, hl, k, q, h => by simp at hl
  | i :: is, c :: cs, ws, hl, k, q, h => by
    have hl' : is.length = cs.length := by simpa using hl
    rcases wput_in is cs (ws.set i c) hl' k q h with h1 | ⟨h1, h2⟩
    · exact Or.inl (List.mem_cons_of_mem _ h1)
    · rw [List.getElem?_set] at h2
      by_cases hik : i = k
      · rw [if_pos hik] at h2
        by_cases h3 : i < ws.length
        · rw [if_pos h3] at h2
          cases h2
          exact Or.inl List.mem_cons_self
        · rw [if_neg h3] at h2; cases h2
      · rw [if_neg hik] at h2
        refine Or.inr ⟨fun hm => ?_, h2⟩
        rcases List.mem_cons.mp hm with h4 | h4
        · exact hik h4.symm
        · exact h1 h4
theorem va_D.fst {A : Nat → Prop} {ws ws' : va_W} (hD : va_D A ws) (h : ∀ k : Nat, (ws'[k]?).map Prod.fst = (ws[k]?).map Prod.fst) : va_D A ws' := by
  have key : ∀ (k : Nat) (q : Nat × va_E), ws'[k]? = some q → ∃ q', ws[k]? = some q' ∧ q'.1 = q.1 := by
    intro k q hq
    have h1 := h k
    rw [hq] at h1
    cases hw : ws[k]? with
    | none => rw [hw] at h1; cases h1
    | some q' => rw [hw] at h1; exact ⟨q', rfl, (Option.some.inj h1).symm⟩
  refine ⟨fun i j x y hx hy hxy => ?_, fun k q hq => ?_⟩
  · obtain ⟨x', h1, h2⟩ := key i x hx
    obtain ⟨y', h3, h4⟩ := key j y hy
    exact hD.1 i j x' y' h1 h3 (by rw [h2, h4]; exact hxy)
  · obtain ⟨q', h1, h2⟩ := key k q hq
    rw [← h2]
    exact hD.2 k q' h1
theorem wput_at {ws wc : va_W} {isC : List Nat} (hC : isC.map (fun i => ws[i]?) = wc.map some) : ∀ (k : Nat) (q : Nat × va_E), wc[k]? = some q → ∃ i, isC[k]? = some i ∧ ws[i]? = some q := by
  intro k q hq
  have h1 : (isC.map (fun i => ws[i]?))[k]? = some (some q) := by rw [hC, List.getElem?_map, hq]; rfl
  rw [List.getElem?_map] at h1
  cases hi : isC[k]? with
  | none => rw [hi] at h1; cases h1
  | some i => rw [hi] at h1; exact ⟨i, rfl, Option.some.inj h1⟩
theorem wput_adr {ws wc w1 : va_W} {isC : List Nat} (hC : isC.map (fun i => ws[i]?) = wc.map some) (hadr : w1.map Prod.fst = wc.map Prod.fst) : ∀ k : Nat, ((wput ws isC w1)[k]?).map Prod.fst = (ws[k]?).map Prod.fst := by
  refine wput_fst isC w1 ws (fun j i c hj hc => ?_)
  have e1 : (w1.map Prod.fst)[j]? = (wc.map Prod.fst)[j]? := by rw [hadr]
  rw [List.getElem?_map, List.getElem?_map, hc] at e1
  cases hw : wc[j]? with
  | none => rw [hw] at e1; cases e1
  | some q =>
    rw [hw] at e1
    obtain ⟨i', h3, h4⟩ := wput_at hC j q hw
    rw [hj] at h3
    cases h3
    rw [h4]
    exact e1.symm
theorem wput_join {A0 : Nat → Prop} {D : va_G} {cl : List vw_C} {ws wc w1 : va_W} {H H1 : Heap} (hP : va_P D cl ws H) (hD : va_D A0 ws) (isC : List Nat) (hC : isC.map (fun i => ws[i]?) = wc.map some) (hadr : w1.map Prod.fst = wc.map Prod.fst)
    (hk : ∀ q : Nat, q < H.size → ¬ va_A wc H.size q → H1[q]? = H[q]?) (hP1 : va_P D cl w1 H1) : va_P D cl (wput ws isC w1) H1 ∧ va_D A0 (wput ws isC w1) := by
  have hlC : isC.length = wc.length := by have := congrArg List.length hC; simpa using this
  have hl1 : w1.length = wc.length := by have := congrArg List.length hadr; simpa using this
  refine ⟨fun k q hq => ?_, hD.fst (wput_adr hC hadr)⟩
  rcases wput_in isC w1 ws (hlC.trans hl1.symm) k q hq with h1 | ⟨h1, h2⟩
  · obtain ⟨j, hj⟩ := List.getElem?_of_mem h1
    exact hP1 j q hj
  · have hlt := (hP k q h2).lt
    refine (hP k q h2).kept (hk q.1 hlt (fun h => ?_))
    rcases h with ⟨k2, e, h⟩ | h
    · obtain ⟨j, h3, h4⟩ := wput_at hC k2 (q.1, e) h
      have h5 := hD.1 k j q (q.1, e) h2 h4 rfl
      subst h5
      exact h1 (List.mem_of_getElem? h3)
    · omega
theorem wput_joinA {A0 : Nat → Prop} {D : va_G} {cl : List vw_C} {ws wc w1 wn : va_W} {H H1 : Heap} (hP : va_P D cl ws H) (hD : va_D A0 ws) (isC : List Nat) (hC : isC.map (fun i => ws[i]?) = wc.map some) (hadr : w1.map Prod.fst = wc.map Prod.fst)
    (hk : ∀ q : Nat, q < H.size → ¬ va_A wc H.size q → H1[q]? = H[q]?) (hF : ∀ q, va_A wc H.size q → A0 q) (hP1 : va_P D cl (w1 ++ wn) H1) (hD1 : va_D (va_A wc H.size) (w1 ++ wn)) : va_P D cl (wput ws isC w1 ++ wn) H1 ∧ va_D A0 (wput ws isC w1 ++ wn) := by
  have hP1a : va_P D cl w1 H1 := fun k q hq => hP1 k q (by rw [List.getElem?_append_left (List.getElem?_eq_some_iff.mp hq).1]; exact hq)
  have hr : ∀ (j : Nat) (q : Nat × va_E), wn[j]? = some q → (w1 ++ wn)[w1.length + j]? = some q := fun j q hq => by rw [List.getElem?_append_right (by omega), Nat.add_sub_cancel_left]; exact hq
  obtain ⟨p1, d1⟩ := wput_join hP hD isC hC hadr hk hP1a
  refine ⟨va_P.app p1 (fun k q hq => hP1 _ q (hr k q hq)), va_D.app d1 ⟨fun i j x y hx hy hxy => ?_, fun k q hq => hF _ (hD1.2 _ q (hr k q hq))⟩ (fun i j x y hx hy hxy => ?_)⟩
  · have := hD1.1 _ _ x y (hr i x hx) (hr j y hy) hxy
    omega
  · have h1 := wput_adr hC hadr i
    rw [hx] at h1
    cases hw : ws[i]? with
    | none => rw [hw] at h1; cases h1
    | some q =>
      rw [hw] at h1
      have h2 : x.1 = q.1 := Option.some.inj h1
      have hlt := (hP i q hw).lt
      rcases hD1.2 _ y (hr j y hy) with ⟨k2, e, h⟩ | h
      · have e1 : (w1.map Prod.fst)[k2]? = (wc.map Prod.fst)[k2]? := by rw [hadr]
        rw [List.getElem?_map, List.getElem?_map, h] at e1
        cases hw1 : w1[k2]? with
        | none => rw [hw1] at e1; cases e1
        | some z =>
          rw [hw1] at e1
          have h3 : z.1 = y.1 := Option.some.inj e1
          have hlk := (List.getElem?_eq_some_iff.mp hw1).1
          have h4 := hD1.1 k2 (w1.length + j) z y (by rw [List.getElem?_append_left hlk]; exact hw1) (hr j y hy) h3
          omega
      · omega
section GC
variable {B : Bx} {M : Mx} {cc : ByteArray} {nL n1 n2 : Nat} {own : String} {Q : State → Prop} {ws : va_W} {lv : List (Nat × Value)} {pc : Nat} {st rest : List Value}
theorem g_callVv {S : Type} (X : CX B M cc nL own) {ok : S → Prop} {ws1 : S → va_W} {y : MethodName} {b : ByteArray} {n index : Nat} {rm : Room} {As : List Value} {wc : va_W} {a q0 ci N : Nat} {T : u_T} {fs : List Value} (hM : Cv (m_l M) B y b n rm (.ref a :: As) wc ok ws1)
    (hlink : Cond.methodLink own index y ∈ W0) (hinst : Cond.instanceMethod y ∈ W0) (hsel : Cond.selects y.cls y y ∈ W0) (hini : Cond.initialized y.cls ∈ W0) (hcode : Cond.code y b n none ∈ W0) (hd : y.cls ≠ "java/lang/invoke/MethodHandle" ∧ y.cls ≠ "java/lang/invoke/VarHandle" ∧ (parseMethodDescriptor y.desc).map (fun d => d.parameters.length) = some As.length)
    (isC : List Nat) (hnC : va_nd isC = true) (hC : isC.map (fun i => ws[i]?) = wc.map some) (hadr : ∀ u : S, (ws1 u).map Prod.fst = wc.map Prod.fst) (he : ws[q0]? = some (a, .inr (ci, fs))) (hci : classes[ci]? = some (y.cls, T, N)) 
    (hroom : rm.frames + 1 ≤ (m_R M).frames ∧ 8 + (n + 11) + rm.locals ≤ (m_R M).locals) (hcs : n1 + rm.cells ≤ (m_R M).cells ∧ n2 + rm.slots ≤ (m_R M).slots) (hst : st = As.reverse ++ .ref a :: rest) (hrs : (rest.map fun v => v.category).sum ≤ 8) (hdg : decode cc pc = .ok (.invokevirtual index, 3))
    (kk : ∀ (u : S), ok u → G B M nL (n1 + rm.cells) (n2 + rm.slots) Q (wput ws isC (ws1 u)) lv (pc + 3) (rest)) : G B M nL n1 n2 Q ws lv pc st := by
  intro H locs ls hP hD hS hl
  subst hst
  have hFc := va_free (wc := wc) hD hS X.A isC hC
  refine va_callv (va_runV (As := As) (rest := rest) ⟨X.x, X.b, X.n, X.o, X.t⟩ (hM H.size) ⟨callB_of As.length X.t (W0_good hcode) rfl rfl rfl (X.t _ hini) (X.t _ hlink) hd hroom, X.t _ hinst, X.t _ hsel⟩ ⟨PreW.blind _ _ _, va_recv X.k hP hci he, PreW.at X (.ref a :: As) hP hD hS hnC hC⟩ rfl rfl hl.1 rfl (lv_room hrs) hdg hcs) hS (fun q _ h => hFc q h) hFc (fun u t H1 locs1 ht hvm hw hB hz1 hk1 hS1 => ?_)
  obtain ⟨hP1, hK1, hD1⟩ := hB
  rw [ht] at hP1
  obtain ⟨hP2, hD2⟩ := wput_join (w1 := ws1 u) hP hD isC hC (hadr u) hk1 hP1
  skip
  exact kk u hw H1 locs1 ls hP2 hD2 hS1 hl
theorem g_callVi {S : Type} (X : CX B M cc nL own) {ok : Int32 → S → Prop} {rt : FieldType} {ws1 : S → va_W} {y : MethodName} {b : ByteArray} {n index : Nat} {rm : Room} {As : List Value} {wc : va_W} {a q0 ci N : Nat} {T : u_T} {fs : List Value} (hM : Ci (m_l M) B y b n rt rm (.ref a :: As) wc ok ws1)
    (hlink : Cond.methodLink own index y ∈ W0) (hinst : Cond.instanceMethod y ∈ W0) (hsel : Cond.selects y.cls y y ∈ W0) (hini : Cond.initialized y.cls ∈ W0) (hcode : Cond.code y b n (some rt) ∈ W0) (hd : y.cls ≠ "java/lang/invoke/MethodHandle" ∧ y.cls ≠ "java/lang/invoke/VarHandle" ∧ (parseMethodDescriptor y.desc).map (fun d => d.parameters.length) = some As.length)
    (isC : List Nat) (hnC : va_nd isC = true) (hC : isC.map (fun i => ws[i]?) = wc.map some) (hadr : ∀ u : S, (ws1 u).map Prod.fst = wc.map Prod.fst) (he : ws[q0]? = some (a, .inr (ci, fs))) (hci : classes[ci]? = some (y.cls, T, N)) 
    (hroom : rm.frames + 1 ≤ (m_R M).frames ∧ 8 + (n + 11) + rm.locals ≤ (m_R M).locals) (hcs : n1 + rm.cells ≤ (m_R M).cells ∧ n2 + rm.slots ≤ (m_R M).slots) (hst : st = As.reverse ++ .ref a :: rest) (hrs : (rest.map fun v => v.category).sum ≤ 8) (hdg : decode cc pc = .ok (.invokevirtual index, 3))
    (kk : ∀ (r : Int32) (u : S), ok r u → G B M nL (n1 + rm.cells) (n2 + rm.slots) Q (wput ws isC (ws1 u)) lv (pc + 3) (.int r :: rest)) : G B M nL n1 n2 Q ws lv pc st := by
  intro H locs ls hP hD hS hl
  subst hst
  have hFc := va_free (wc := wc) hD hS X.A isC hC
  refine va_calli (va_runV (As := As) (rest := rest) ⟨X.x, X.b, X.n, X.o, X.t⟩ (hM H.size) ⟨callB_of As.length X.t (W0_good hcode) rfl rfl rfl (X.t _ hini) (X.t _ hlink) hd hroom, X.t _ hinst, X.t _ hsel⟩ ⟨PreW.blind _ _ _, va_recv X.k hP hci he, PreW.at X (.ref a :: As) hP hD hS hnC hC⟩ rfl rfl hl.1 rfl (lv_room hrs) hdg hcs) hS (fun q _ h => hFc q h) hFc (fun r u t H1 locs1 ht hvm hw hB hz1 hk1 hS1 => ?_)
  obtain ⟨hP1, hK1, hD1⟩ := hB
  rw [ht] at hP1
  obtain ⟨hP2, hD2⟩ := wput_join (w1 := ws1 u) hP hD isC hC (hadr u) hk1 hP1
  skip
  exact kk r u hw H1 locs1 ls hP2 hD2 hS1 hl
theorem g_callVl {S : Type} (X : CX B M cc nL own) {ok : Int64 → S → Prop} {ws1 : S → va_W} {y : MethodName} {b : ByteArray} {n index : Nat} {rm : Room} {As : List Value} {wc : va_W} {a q0 ci N : Nat} {T : u_T} {fs : List Value} (hM : Cl (m_l M) B y b n rm (.ref a :: As) wc ok ws1)
    (hlink : Cond.methodLink own index y ∈ W0) (hinst : Cond.instanceMethod y ∈ W0) (hsel : Cond.selects y.cls y y ∈ W0) (hini : Cond.initialized y.cls ∈ W0) (hcode : Cond.code y b n (some .long) ∈ W0) (hd : y.cls ≠ "java/lang/invoke/MethodHandle" ∧ y.cls ≠ "java/lang/invoke/VarHandle" ∧ (parseMethodDescriptor y.desc).map (fun d => d.parameters.length) = some As.length)
    (isC : List Nat) (hnC : va_nd isC = true) (hC : isC.map (fun i => ws[i]?) = wc.map some) (hadr : ∀ u : S, (ws1 u).map Prod.fst = wc.map Prod.fst) (he : ws[q0]? = some (a, .inr (ci, fs))) (hci : classes[ci]? = some (y.cls, T, N)) 
    (hroom : rm.frames + 1 ≤ (m_R M).frames ∧ 8 + (n + 11) + rm.locals ≤ (m_R M).locals) (hcs : n1 + rm.cells ≤ (m_R M).cells ∧ n2 + rm.slots ≤ (m_R M).slots) (hst : st = As.reverse ++ .ref a :: rest) (hrs : (rest.map fun v => v.category).sum ≤ 8) (hdg : decode cc pc = .ok (.invokevirtual index, 3))
    (kk : ∀ (r : Int64) (u : S), ok r u → G B M nL (n1 + rm.cells) (n2 + rm.slots) Q (wput ws isC (ws1 u)) lv (pc + 3) (.long r :: rest)) : G B M nL n1 n2 Q ws lv pc st := by
  intro H locs ls hP hD hS hl
  subst hst
  have hFc := va_free (wc := wc) hD hS X.A isC hC
  refine va_calll (va_runV (As := As) (rest := rest) ⟨X.x, X.b, X.n, X.o, X.t⟩ (hM H.size) ⟨callB_of As.length X.t (W0_good hcode) rfl rfl rfl (X.t _ hini) (X.t _ hlink) hd hroom, X.t _ hinst, X.t _ hsel⟩ ⟨PreW.blind _ _ _, va_recv X.k hP hci he, PreW.at X (.ref a :: As) hP hD hS hnC hC⟩ rfl rfl hl.1 rfl (lv_room hrs) hdg hcs) hS (fun q _ h => hFc q h) hFc (fun r u t H1 locs1 ht hvm hw hB hz1 hk1 hS1 => ?_)
  obtain ⟨hP1, hK1, hD1⟩ := hB
  rw [ht] at hP1
  obtain ⟨hP2, hD2⟩ := wput_join (w1 := ws1 u) hP hD isC hC (hadr u) hk1 hP1
  skip
  exact kk r u hw H1 locs1 ls hP2 hD2 hS1 hl
theorem g_callVr {S : Type} (X : CX B M cc nL own) {ok : S → Prop} {ra : S → Nat} {rt : FieldType} {ws1 : S → va_W} {y : MethodName} {b : ByteArray} {n index : Nat} {rm : Room} {As : List Value} {wc : va_W} {a q0 ci N : Nat} {T : u_T} {fs : List Value} (hM : Cr (m_l M) B y b n rt rm (.ref a :: As) wc ok ra ws1)
    (hlink : Cond.methodLink own index y ∈ W0) (hinst : Cond.instanceMethod y ∈ W0) (hsel : Cond.selects y.cls y y ∈ W0) (hini : Cond.initialized y.cls ∈ W0) (hcode : Cond.code y b n (some rt) ∈ W0) (hd : y.cls ≠ "java/lang/invoke/MethodHandle" ∧ y.cls ≠ "java/lang/invoke/VarHandle" ∧ (parseMethodDescriptor y.desc).map (fun d => d.parameters.length) = some As.length)
    (isC : List Nat) (hnC : va_nd isC = true) (hC : isC.map (fun i => ws[i]?) = wc.map some) (hadr : ∀ u : S, (ws1 u).map Prod.fst = wc.map Prod.fst) (he : ws[q0]? = some (a, .inr (ci, fs))) (hci : classes[ci]? = some (y.cls, T, N)) 
    (hroom : rm.frames + 1 ≤ (m_R M).frames ∧ 8 + (n + 11) + rm.locals ≤ (m_R M).locals) (hcs : n1 + rm.cells ≤ (m_R M).cells ∧ n2 + rm.slots ≤ (m_R M).slots) (hst : st = As.reverse ++ .ref a :: rest) (hrs : (rest.map fun v => v.category).sum ≤ 8) (hdg : decode cc pc = .ok (.invokevirtual index, 3))
    (kk : ∀ (u : S), ok u → G B M nL (n1 + rm.cells) (n2 + rm.slots) Q (wput ws isC (ws1 u)) lv (pc + 3) (.ref (ra u) :: rest)) : G B M nL n1 n2 Q ws lv pc st := by
  intro H locs ls hP hD hS hl
  subst hst
  have hFc := va_free (wc := wc) hD hS X.A isC hC
  refine va_callr (va_runV (As := As) (rest := rest) ⟨X.x, X.b, X.n, X.o, X.t⟩ (hM H.size) ⟨callB_of As.length X.t (W0_good hcode) rfl rfl rfl (X.t _ hini) (X.t _ hlink) hd hroom, X.t _ hinst, X.t _ hsel⟩ ⟨PreW.blind _ _ _, va_recv X.k hP hci he, PreW.at X (.ref a :: As) hP hD hS hnC hC⟩ rfl rfl hl.1 rfl (lv_room hrs) hdg hcs) hS (fun q _ h => hFc q h) hFc (fun u ra9 t H1 locs1 ht hvm hw hB hz1 hk1 hS1 => ?_)
  obtain ⟨hra, hP1, hK1, hD1⟩ := hB
  rw [ht] at hP1
  obtain ⟨hP2, hD2⟩ := wput_join (w1 := ws1 u) hP hD isC hC (hadr u) hk1 hP1
  subst hra
  exact kk u hw H1 locs1 ls hP2 hD2 hS1 hl
theorem g_callVNv {S : Type} (X : CX B M cc nL own) {ok : S → Prop} {ws1 : S → va_W} {y : MethodName} {b : ByteArray} {n index : Nat} {rm : Room} {As : List Value} {wc : va_W} {host : String} {a q0 ci N : Nat} {T : u_T} {fs : List Value} (hM : Cv (m_l M) B y b n rm (.ref a :: As) wc ok ws1)
    (hlink : Cond.methodLinkNest own index y host ∈ nestWords) (hinst : Cond.instanceMethod y ∈ W0) (hsel : Cond.selects y.cls y y ∈ W0) (hini : Cond.initialized y.cls ∈ W0) (hcode : Cond.code y b n none ∈ W0) (hd : y.cls ≠ "java/lang/invoke/MethodHandle" ∧ y.cls ≠ "java/lang/invoke/VarHandle" ∧ (parseMethodDescriptor y.desc).map (fun d => d.parameters.length) = some As.length)
    (isC : List Nat) (hnC : va_nd isC = true) (hC : isC.map (fun i => ws[i]?) = wc.map some) (hadr : ∀ u : S, (ws1 u).map Prod.fst = wc.map Prod.fst) (he : ws[q0]? = some (a, .inr (ci, fs))) (hci : classes[ci]? = some (y.cls, T, N)) 
    (hroom : rm.frames + 1 ≤ (m_R M).frames ∧ 8 + (n + 11) + rm.locals ≤ (m_R M).locals) (hcs : n1 + rm.cells ≤ (m_R M).cells ∧ n2 + rm.slots ≤ (m_R M).slots) (hst : st = As.reverse ++ .ref a :: rest) (hrs : (rest.map fun v => v.category).sum ≤ 8) (hdg : decode cc pc = .ok (.invokevirtual index, 3))
    (kk : ∀ (u : S), ok u → G B M nL (n1 + rm.cells) (n2 + rm.slots) Q (wput ws isC (ws1 u)) lv (pc + 3) (rest)) : G B M nL n1 n2 Q ws lv pc st := by
  intro H locs ls hP hD hS hl
  subst hst
  have hFc := va_free (wc := wc) hD hS X.A isC hC
  refine va_callv (va_runVN (As := As) (rest := rest) ⟨X.x, X.b, X.n, X.o, X.t⟩ (hM H.size) ⟨va_cnB As.length X.t (W0_good hcode) rfl rfl rfl (X.s.2.1 _ hlink) (X.t _ hini) hd hroom, X.t _ hinst, X.t _ hsel⟩ ⟨PreW.blind _ _ _, va_recv X.k hP hci he, PreW.at X (.ref a :: As) hP hD hS hnC hC⟩ rfl rfl hl.1 rfl (lv_room hrs) hdg hcs) hS (fun q _ h => hFc q h) hFc (fun u t H1 locs1 ht hvm hw hB hz1 hk1 hS1 => ?_)
  obtain ⟨hP1, hK1, hD1⟩ := hB
  rw [ht] at hP1
  obtain ⟨hP2, hD2⟩ := wput_join (w1 := ws1 u) hP hD isC hC (hadr u) hk1 hP1
  skip
  exact kk u hw H1 locs1 ls hP2 hD2 hS1 hl
theorem g_callVNi {S : Type} (X : CX B M cc nL own) {ok : Int32 → S → Prop} {rt : FieldType} {ws1 : S → va_W} {y : MethodName} {b : ByteArray} {n index : Nat} {rm : Room} {As : List Value} {wc : va_W} {host : String} {a q0 ci N : Nat} {T : u_T} {fs : List Value} (hM : Ci (m_l M) B y b n rt rm (.ref a :: As) wc ok ws1)
    (hlink : Cond.methodLinkNest own index y host ∈ nestWords) (hinst : Cond.instanceMethod y ∈ W0) (hsel : Cond.selects y.cls y y ∈ W0) (hini : Cond.initialized y.cls ∈ W0) (hcode : Cond.code y b n (some rt) ∈ W0) (hd : y.cls ≠ "java/lang/invoke/MethodHandle" ∧ y.cls ≠ "java/lang/invoke/VarHandle" ∧ (parseMethodDescriptor y.desc).map (fun d => d.parameters.length) = some As.length)
    (isC : List Nat) (hnC : va_nd isC = true) (hC : isC.map (fun i => ws[i]?) = wc.map some) (hadr : ∀ u : S, (ws1 u).map Prod.fst = wc.map Prod.fst) (he : ws[q0]? = some (a, .inr (ci, fs))) (hci : classes[ci]? = some (y.cls, T, N)) 
    (hroom : rm.frames + 1 ≤ (m_R M).frames ∧ 8 + (n + 11) + rm.locals ≤ (m_R M).locals) (hcs : n1 + rm.cells ≤ (m_R M).cells ∧ n2 + rm.slots ≤ (m_R M).slots) (hst : st = As.reverse ++ .ref a :: rest) (hrs : (rest.map fun v => v.category).sum ≤ 8) (hdg : decode cc pc = .ok (.invokevirtual index, 3))
    (kk : ∀ (r : Int32) (u : S), ok r u → G B M nL (n1 + rm.cells) (n2 + rm.slots) Q (wput ws isC (ws1 u)) lv (pc + 3) (.int r :: rest)) : G B M nL n1 n2 Q ws lv pc st := by
  intro H locs ls hP hD hS hl
  subst hst
  have hFc := va_free (wc := wc) hD hS X.A isC hC
  refine va_calli (va_runVN (As := As) (rest := rest) ⟨X.x, X.b, X.n, X.o, X.t⟩ (hM H.size) ⟨va_cnB As.length X.t (W0_good hcode) rfl rfl rfl (X.s.2.1 _ hlink) (X.t _ hini) hd hroom, X.t _ hinst, X.t _ hsel⟩ ⟨PreW.blind _ _ _, va_recv X.k hP hci he, PreW.at X (.ref a :: As) hP hD hS hnC hC⟩ rfl rfl hl.1 rfl (lv_room hrs) hdg hcs) hS (fun q _ h => hFc q h) hFc (fun r u t H1 locs1 ht hvm hw hB hz1 hk1 hS1 => ?_)
  obtain ⟨hP1, hK1, hD1⟩ := hB
  rw [ht] at hP1
  obtain ⟨hP2, hD2⟩ := wput_join (w1 := ws1 u) hP hD isC hC (hadr u) hk1 hP1
  skip
  exact kk r u hw H1 locs1 ls hP2 hD2 hS1 hl
theorem g_callVNl {S : Type} (X : CX B M cc nL own) {ok : Int64 → S → Prop} {ws1 : S → va_W} {y : MethodName} {b : ByteArray} {n index : Nat} {rm : Room} {As : List Value} {wc : va_W} {host : String} {a q0 ci N : Nat} {T : u_T} {fs : List Value} (hM : Cl (m_l M) B y b n rm (.ref a :: As) wc ok ws1)
    (hlink : Cond.methodLinkNest own index y host ∈ nestWords) (hinst : Cond.instanceMethod y ∈ W0) (hsel : Cond.selects y.cls y y ∈ W0) (hini : Cond.initialized y.cls ∈ W0) (hcode : Cond.code y b n (some .long) ∈ W0) (hd : y.cls ≠ "java/lang/invoke/MethodHandle" ∧ y.cls ≠ "java/lang/invoke/VarHandle" ∧ (parseMethodDescriptor y.desc).map (fun d => d.parameters.length) = some As.length)
    (isC : List Nat) (hnC : va_nd isC = true) (hC : isC.map (fun i => ws[i]?) = wc.map some) (hadr : ∀ u : S, (ws1 u).map Prod.fst = wc.map Prod.fst) (he : ws[q0]? = some (a, .inr (ci, fs))) (hci : classes[ci]? = some (y.cls, T, N)) 
    (hroom : rm.frames + 1 ≤ (m_R M).frames ∧ 8 + (n + 11) + rm.locals ≤ (m_R M).locals) (hcs : n1 + rm.cells ≤ (m_R M).cells ∧ n2 + rm.slots ≤ (m_R M).slots) (hst : st = As.reverse ++ .ref a :: rest) (hrs : (rest.map fun v => v.category).sum ≤ 8) (hdg : decode cc pc = .ok (.invokevirtual index, 3))
    (kk : ∀ (r : Int64) (u : S), ok r u → G B M nL (n1 + rm.cells) (n2 + rm.slots) Q (wput ws isC (ws1 u)) lv (pc + 3) (.long r :: rest)) : G B M nL n1 n2 Q ws lv pc st := by
  intro H locs ls hP hD hS hl
  subst hst
  have hFc := va_free (wc := wc) hD hS X.A isC hC
  refine va_calll (va_runVN (As := As) (rest := rest) ⟨X.x, X.b, X.n, X.o, X.t⟩ (hM H.size) ⟨va_cnB As.length X.t (W0_good hcode) rfl rfl rfl (X.s.2.1 _ hlink) (X.t _ hini) hd hroom, X.t _ hinst, X.t _ hsel⟩ ⟨PreW.blind _ _ _, va_recv X.k hP hci he, PreW.at X (.ref a :: As) hP hD hS hnC hC⟩ rfl rfl hl.1 rfl (lv_room hrs) hdg hcs) hS (fun q _ h => hFc q h) hFc (fun r u t H1 locs1 ht hvm hw hB hz1 hk1 hS1 => ?_)
  obtain ⟨hP1, hK1, hD1⟩ := hB
  rw [ht] at hP1
  obtain ⟨hP2, hD2⟩ := wput_join (w1 := ws1 u) hP hD isC hC (hadr u) hk1 hP1
  skip
  exact kk r u hw H1 locs1 ls hP2 hD2 hS1 hl
theorem g_callVNr {S : Type} (X : CX B M cc nL own) {ok : S → Prop} {ra : S → Nat} {rt : FieldType} {ws1 : S → va_W} {y : MethodName} {b : ByteArray} {n index : Nat} {rm : Room} {As : List Value} {wc : va_W} {host : String} {a q0 ci N : Nat} {T : u_T} {fs : List Value} (hM : Cr (m_l M) B y b n rt rm (.ref a :: As) wc ok ra ws1)
    (hlink : Cond.methodLinkNest own index y host ∈ nestWords) (hinst : Cond.instanceMethod y ∈ W0) (hsel : Cond.selects y.cls y y ∈ W0) (hini : Cond.initialized y.cls ∈ W0) (hcode : Cond.code y b n (some rt) ∈ W0) (hd : y.cls ≠ "java/lang/invoke/MethodHandle" ∧ y.cls ≠ "java/lang/invoke/VarHandle" ∧ (parseMethodDescriptor y.desc).map (fun d => d.parameters.length) = some As.length)
    (isC : List Nat) (hnC : va_nd isC = true) (hC : isC.map (fun i => ws[i]?) = wc.map some) (hadr : ∀ u : S, (ws1 u).map Prod.fst = wc.map Prod.fst) (he : ws[q0]? = some (a, .inr (ci, fs))) (hci : classes[ci]? = some (y.cls, T, N)) 
    (hroom : rm.frames + 1 ≤ (m_R M).frames ∧ 8 + (n + 11) + rm.locals ≤ (m_R M).locals) (hcs : n1 + rm.cells ≤ (m_R M).cells ∧ n2 + rm.slots ≤ (m_R M).slots) (hst : st = As.reverse ++ .ref a :: rest) (hrs : (rest.map fun v => v.category).sum ≤ 8) (hdg : decode cc pc = .ok (.invokevirtual index, 3))
    (kk : ∀ (u : S), ok u → G B M nL (n1 + rm.cells) (n2 + rm.slots) Q (wput ws isC (ws1 u)) lv (pc + 3) (.ref (ra u) :: rest)) : G B M nL n1 n2 Q ws lv pc st := by
  intro H locs ls hP hD hS hl
  subst hst
  have hFc := va_free (wc := wc) hD hS X.A isC hC
  refine va_callr (va_runVN (As := As) (rest := rest) ⟨X.x, X.b, X.n, X.o, X.t⟩ (hM H.size) ⟨va_cnB As.length X.t (W0_good hcode) rfl rfl rfl (X.s.2.1 _ hlink) (X.t _ hini) hd hroom, X.t _ hinst, X.t _ hsel⟩ ⟨PreW.blind _ _ _, va_recv X.k hP hci he, PreW.at X (.ref a :: As) hP hD hS hnC hC⟩ rfl rfl hl.1 rfl (lv_room hrs) hdg hcs) hS (fun q _ h => hFc q h) hFc (fun u ra9 t H1 locs1 ht hvm hw hB hz1 hk1 hS1 => ?_)
  obtain ⟨hra, hP1, hK1, hD1⟩ := hB
  rw [ht] at hP1
  obtain ⟨hP2, hD2⟩ := wput_join (w1 := ws1 u) hP hD isC hC (hadr u) hk1 hP1
  subst hra
  exact kk u hw H1 locs1 ls hP2 hD2 hS1 hl
theorem g_callSv {S : Type} (X : CX B M cc nL own) {ok : S → Prop} {ws1 : S → va_W} {y : MethodName} {b : ByteArray} {n index : Nat} {rm : Room} {As : List Value} {wc : va_W} (hM : Cv (m_l M) B y b n rm As wc ok ws1)
    (hlink : Cond.methodLink own index y ∈ W0) (hstat : Cond.static y ∈ W0) (hini : Cond.initialized y.cls ∈ W0) (hcode : Cond.code y b n none ∈ W0) (hd : y.cls ≠ "java/lang/invoke/MethodHandle" ∧ y.cls ≠ "java/lang/invoke/VarHandle" ∧ (parseMethodDescriptor y.desc).map (fun d => d.parameters.length) = some As.length)
    (isC : List Nat) (hnC : va_nd isC = true) (hC : isC.map (fun i => ws[i]?) = wc.map some) (hadr : ∀ u : S, (ws1 u).map Prod.fst = wc.map Prod.fst) 
    (hroom : rm.frames + 1 ≤ (m_R M).frames ∧ 8 + (n + 11) + rm.locals ≤ (m_R M).locals) (hcs : n1 + rm.cells ≤ (m_R M).cells ∧ n2 + rm.slots ≤ (m_R M).slots) (hst : st = As.reverse ++ rest) (hrs : (rest.map fun v => v.category).sum ≤ 8) (hdg : decode cc pc = .ok (.invokestatic index, 3))
    (kk : ∀ (u : S), ok u → G B M nL (n1 + rm.cells) (n2 + rm.slots) Q (wput ws isC (ws1 u)) lv (pc + 3) (rest)) : G B M nL n1 n2 Q ws lv pc st := by
  intro H locs ls hP hD hS hl
  subst hst
  have hFc := va_free (wc := wc) hD hS X.A isC hC
  refine va_callv (va_runS (As := As) (rest := rest) ⟨X.x, X.b, X.n, X.o, X.t⟩ (hM H.size) ⟨callB_of As.length X.t (W0_good hcode) rfl rfl rfl (X.t _ hini) (X.t _ hlink) hd hroom, X.t _ hstat⟩ ⟨PreW.blind _ _ _, PreW.at X As hP hD hS hnC hC⟩ rfl rfl hl.1 rfl (lv_room hrs) hdg hcs) hS (fun q _ h => hFc q h) hFc (fun u t H1 locs1 ht hvm hw hB hz1 hk1 hS1 => ?_)
  obtain ⟨hP1, hK1, hD1⟩ := hB
  rw [ht] at hP1
  obtain ⟨hP2, hD2⟩ := wput_join (w1 := ws1 u) hP hD isC hC (hadr u) hk1 hP1
  skip
  exact kk u hw H1 locs1 ls hP2 hD2 hS1 hl
theorem g_callSi {S : Type} (X : CX B M cc nL own) {ok : Int32 → S → Prop} {rt : FieldType} {ws1 : S → va_W} {y : MethodName} {b : ByteArray} {n index : Nat} {rm : Room} {As : List Value} {wc : va_W} (hM : Ci (m_l M) B y b n rt rm As wc ok ws1)
    (hlink : Cond.methodLink own index y ∈ W0) (hstat : Cond.static y ∈ W0) (hini : Cond.initialized y.cls ∈ W0) (hcode : Cond.code y b n (some rt) ∈ W0) (hd : y.cls ≠ "java/lang/invoke/MethodHandle" ∧ y.cls ≠ "java/lang/invoke/VarHandle" ∧ (parseMethodDescriptor y.desc).map (fun d => d.parameters.length) = some As.length)
    (isC : List Nat) (hnC : va_nd isC = true) (hC : isC.map (fun i => ws[i]?) = wc.map some) (hadr : ∀ u : S, (ws1 u).map Prod.fst = wc.map Prod.fst) 
    (hroom : rm.frames + 1 ≤ (m_R M).frames ∧ 8 + (n + 11) + rm.locals ≤ (m_R M).locals) (hcs : n1 + rm.cells ≤ (m_R M).cells ∧ n2 + rm.slots ≤ (m_R M).slots) (hst : st = As.reverse ++ rest) (hrs : (rest.map fun v => v.category).sum ≤ 8) (hdg : decode cc pc = .ok (.invokestatic index, 3))
    (kk : ∀ (r : Int32) (u : S), ok r u → G B M nL (n1 + rm.cells) (n2 + rm.slots) Q (wput ws isC (ws1 u)) lv (pc + 3) (.int r :: rest)) : G B M nL n1 n2 Q ws lv pc st := by
  intro H locs ls hP hD hS hl
  subst hst
  have hFc := va_free (wc := wc) hD hS X.A isC hC
  refine va_calli (va_runS (As := As) (rest := rest) ⟨X.x, X.b, X.n, X.o, X.t⟩ (hM H.size) ⟨callB_of As.length X.t (W0_good hcode) rfl rfl rfl (X.t _ hini) (X.t _ hlink) hd hroom, X.t _ hstat⟩ ⟨PreW.blind _ _ _, PreW.at X As hP hD hS hnC hC⟩ rfl rfl hl.1 rfl (lv_room hrs) hdg hcs) hS (fun q _ h => hFc q h) hFc (fun r u t H1 locs1 ht hvm hw hB hz1 hk1 hS1 => ?_)
  obtain ⟨hP1, hK1, hD1⟩ := hB
  rw [ht] at hP1
  obtain ⟨hP2, hD2⟩ := wput_join (w1 := ws1 u) hP hD isC hC (hadr u) hk1 hP1
  skip
  exact kk r u hw H1 locs1 ls hP2 hD2 hS1 hl
theorem g_callSl {S : Type} (X : CX B M cc nL own) {ok : Int64 → S → Prop} {ws1 : S → va_W} {y : MethodName} {b : ByteArray} {n index : Nat} {rm : Room} {As : List Value} {wc : va_W} (hM : Cl (m_l M) B y b n rm As wc ok ws1)
    (hlink : Cond.methodLink own index y ∈ W0) (hstat : Cond.static y ∈ W0) (hini : Cond.initialized y.cls ∈ W0) (hcode : Cond.code y b n (some .long) ∈ W0) (hd : y.cls ≠ "java/lang/invoke/MethodHandle" ∧ y.cls ≠ "java/lang/invoke/VarHandle" ∧ (parseMethodDescriptor y.desc).map (fun d => d.parameters.length) = some As.length)
    (isC : List Nat) (hnC : va_nd isC = true) (hC : isC.map (fun i => ws[i]?) = wc.map some) (hadr : ∀ u : S, (ws1 u).map Prod.fst = wc.map Prod.fst) 
    (hroom : rm.frames + 1 ≤ (m_R M).frames ∧ 8 + (n + 11) + rm.locals ≤ (m_R M).locals) (hcs : n1 + rm.cells ≤ (m_R M).cells ∧ n2 + rm.slots ≤ (m_R M).slots) (hst : st = As.reverse ++ rest) (hrs : (rest.map fun v => v.category).sum ≤ 8) (hdg : decode cc pc = .ok (.invokestatic index, 3))
    (kk : ∀ (r : Int64) (u : S), ok r u → G B M nL (n1 + rm.cells) (n2 + rm.slots) Q (wput ws isC (ws1 u)) lv (pc + 3) (.long r :: rest)) : G B M nL n1 n2 Q ws lv pc st := by
  intro H locs ls hP hD hS hl
  subst hst
  have hFc := va_free (wc := wc) hD hS X.A isC hC
  refine va_calll (va_runS (As := As) (rest := rest) ⟨X.x, X.b, X.n, X.o, X.t⟩ (hM H.size) ⟨callB_of As.length X.t (W0_good hcode) rfl rfl rfl (X.t _ hini) (X.t _ hlink) hd hroom, X.t _ hstat⟩ ⟨PreW.blind _ _ _, PreW.at X As hP hD hS hnC hC⟩ rfl rfl hl.1 rfl (lv_room hrs) hdg hcs) hS (fun q _ h => hFc q h) hFc (fun r u t H1 locs1 ht hvm hw hB hz1 hk1 hS1 => ?_)
  obtain ⟨hP1, hK1, hD1⟩ := hB
  rw [ht] at hP1
  obtain ⟨hP2, hD2⟩ := wput_join (w1 := ws1 u) hP hD isC hC (hadr u) hk1 hP1
  skip
  exact kk r u hw H1 locs1 ls hP2 hD2 hS1 hl
theorem g_callSr {S : Type} (X : CX B M cc nL own) {ok : S → Prop} {ra : S → Nat} {rt : FieldType} {ws1 : S → va_W} {y : MethodName} {b : ByteArray} {n index : Nat} {rm : Room} {As : List Value} {wc : va_W} (hM : Cr (m_l M) B y b n rt rm As wc ok ra ws1)
    (hlink : Cond.methodLink own index y ∈ W0) (hstat : Cond.static y ∈ W0) (hini : Cond.initialized y.cls ∈ W0) (hcode : Cond.code y b n (some rt) ∈ W0) (hd : y.cls ≠ "java/lang/invoke/MethodHandle" ∧ y.cls ≠ "java/lang/invoke/VarHandle" ∧ (parseMethodDescriptor y.desc).map (fun d => d.parameters.length) = some As.length)
    (isC : List Nat) (hnC : va_nd isC = true) (hC : isC.map (fun i => ws[i]?) = wc.map some) (hadr : ∀ u : S, (ws1 u).map Prod.fst = wc.map Prod.fst) 
    (hroom : rm.frames + 1 ≤ (m_R M).frames ∧ 8 + (n + 11) + rm.locals ≤ (m_R M).locals) (hcs : n1 + rm.cells ≤ (m_R M).cells ∧ n2 + rm.slots ≤ (m_R M).slots) (hst : st = As.reverse ++ rest) (hrs : (rest.map fun v => v.category).sum ≤ 8) (hdg : decode cc pc = .ok (.invokestatic index, 3))
    (kk : ∀ (u : S), ok u → G B M nL (n1 + rm.cells) (n2 + rm.slots) Q (wput ws isC (ws1 u)) lv (pc + 3) (.ref (ra u) :: rest)) : G B M nL n1 n2 Q ws lv pc st := by
  intro H locs ls hP hD hS hl
  subst hst
  have hFc := va_free (wc := wc) hD hS X.A isC hC
  refine va_callr (va_runS (As := As) (rest := rest) ⟨X.x, X.b, X.n, X.o, X.t⟩ (hM H.size) ⟨callB_of As.length X.t (W0_good hcode) rfl rfl rfl (X.t _ hini) (X.t _ hlink) hd hroom, X.t _ hstat⟩ ⟨PreW.blind _ _ _, PreW.at X As hP hD hS hnC hC⟩ rfl rfl hl.1 rfl (lv_room hrs) hdg hcs) hS (fun q _ h => hFc q h) hFc (fun u ra9 t H1 locs1 ht hvm hw hB hz1 hk1 hS1 => ?_)
  obtain ⟨hra, hP1, hK1, hD1⟩ := hB
  rw [ht] at hP1
  obtain ⟨hP2, hD2⟩ := wput_join (w1 := ws1 u) hP hD isC hC (hadr u) hk1 hP1
  subst hra
  exact kk u hw H1 locs1 ls hP2 hD2 hS1 hl
theorem g_callSNv {S : Type} (X : CX B M cc nL own) {ok : S → Prop} {ws1 : S → va_W} {y : MethodName} {b : ByteArray} {n index : Nat} {rm : Room} {As : List Value} {wc : va_W} {host : String} (hM : Cv (m_l M) B y b n rm As wc ok ws1)
    (hlink : Cond.methodLinkNest own index y host ∈ nestWords) (hstat : Cond.static y ∈ W0) (hini : Cond.initialized y.cls ∈ W0) (hcode : Cond.code y b n none ∈ W0) (hd : y.cls ≠ "java/lang/invoke/MethodHandle" ∧ y.cls ≠ "java/lang/invoke/VarHandle" ∧ (parseMethodDescriptor y.desc).map (fun d => d.parameters.length) = some As.length)
    (isC : List Nat) (hnC : va_nd isC = true) (hC : isC.map (fun i => ws[i]?) = wc.map some) (hadr : ∀ u : S, (ws1 u).map Prod.fst = wc.map Prod.fst) 
    (hroom : rm.frames + 1 ≤ (m_R M).frames ∧ 8 + (n + 11) + rm.locals ≤ (m_R M).locals) (hcs : n1 + rm.cells ≤ (m_R M).cells ∧ n2 + rm.slots ≤ (m_R M).slots) (hst : st = As.reverse ++ rest) (hrs : (rest.map fun v => v.category).sum ≤ 8) (hdg : decode cc pc = .ok (.invokestatic index, 3))
    (kk : ∀ (u : S), ok u → G B M nL (n1 + rm.cells) (n2 + rm.slots) Q (wput ws isC (ws1 u)) lv (pc + 3) (rest)) : G B M nL n1 n2 Q ws lv pc st := by
  intro H locs ls hP hD hS hl
  subst hst
  have hFc := va_free (wc := wc) hD hS X.A isC hC
  refine va_callv (va_runSN (As := As) (rest := rest) ⟨X.x, X.b, X.n, X.o, X.t⟩ (hM H.size) ⟨va_cnB As.length X.t (W0_good hcode) rfl rfl rfl (X.s.2.1 _ hlink) (X.t _ hini) hd hroom, X.t _ hstat, trivial⟩ ⟨PreW.blind _ _ _, PreW.at X As hP hD hS hnC hC⟩ rfl rfl hl.1 rfl (lv_room hrs) hdg hcs) hS (fun q _ h => hFc q h) hFc (fun u t H1 locs1 ht hvm hw hB hz1 hk1 hS1 => ?_)
  obtain ⟨hP1, hK1, hD1⟩ := hB
  rw [ht] at hP1
  obtain ⟨hP2, hD2⟩ := wput_join (w1 := ws1 u) hP hD isC hC (hadr u) hk1 hP1
  skip
  exact kk u hw H1 locs1 ls hP2 hD2 hS1 hl
theorem g_callSNi {S : Type} (X : CX B M cc nL own) {ok : Int32 → S → Prop} {rt : FieldType} {ws1 : S → va_W} {y : MethodName} {b : ByteArray} {n index : Nat} {rm : Room} {As : List Value} {wc : va_W} {host : String} (hM : Ci (m_l M) B y b n rt rm As wc ok ws1)
    (hlink : Cond.methodLinkNest own index y host ∈ nestWords) (hstat : Cond.static y ∈ W0) (hini : Cond.initialized y.cls ∈ W0) (hcode : Cond.code y b n (some rt) ∈ W0) (hd : y.cls ≠ "java/lang/invoke/MethodHandle" ∧ y.cls ≠ "java/lang/invoke/VarHandle" ∧ (parseMethodDescriptor y.desc).map (fun d => d.parameters.length) = some As.length)
    (isC : List Nat) (hnC : va_nd isC = true) (hC : isC.map (fun i => ws[i]?) = wc.map some) (hadr : ∀ u : S, (ws1 u).map Prod.fst = wc.map Prod.fst) 
    (hroom : rm.frames + 1 ≤ (m_R M).frames ∧ 8 + (n + 11) + rm.locals ≤ (m_R M).locals) (hcs : n1 + rm.cells ≤ (m_R M).cells ∧ n2 + rm.slots ≤ (m_R M).slots) (hst : st = As.reverse ++ rest) (hrs : (rest.map fun v => v.category).sum ≤ 8) (hdg : decode cc pc = .ok (.invokestatic index, 3))
    (kk : ∀ (r : Int32) (u : S), ok r u → G B M nL (n1 + rm.cells) (n2 + rm.slots) Q (wput ws isC (ws1 u)) lv (pc + 3) (.int r :: rest)) : G B M nL n1 n2 Q ws lv pc st := by
  intro H locs ls hP hD hS hl
  subst hst
  have hFc := va_free (wc := wc) hD hS X.A isC hC
  refine va_calli (va_runSN (As := As) (rest := rest) ⟨X.x, X.b, X.n, X.o, X.t⟩ (hM H.size) ⟨va_cnB As.length X.t (W0_good hcode) rfl rfl rfl (X.s.2.1 _ hlink) (X.t _ hini) hd hroom, X.t _ hstat, trivial⟩ ⟨PreW.blind _ _ _, PreW.at X As hP hD hS hnC hC⟩ rfl rfl hl.1 rfl (lv_room hrs) hdg hcs) hS (fun q _ h => hFc q h) hFc (fun r u t H1 locs1 ht hvm hw hB hz1 hk1 hS1 => ?_)
  obtain ⟨hP1, hK1, hD1⟩ := hB
  rw [ht] at hP1
  obtain ⟨hP2, hD2⟩ := wput_join (w1 := ws1 u) hP hD isC hC (hadr u) hk1 hP1
  skip
  exact kk r u hw H1 locs1 ls hP2 hD2 hS1 hl
theorem g_callSNl {S : Type} (X : CX B M cc nL own) {ok : Int64 → S → Prop} {ws1 : S → va_W} {y : MethodName} {b : ByteArray} {n index : Nat} {rm : Room} {As : List Value} {wc : va_W} {host : String} (hM : Cl (m_l M) B y b n rm As wc ok ws1)
    (hlink : Cond.methodLinkNest own index y host ∈ nestWords) (hstat : Cond.static y ∈ W0) (hini : Cond.initialized y.cls ∈ W0) (hcode : Cond.code y b n (some .long) ∈ W0) (hd : y.cls ≠ "java/lang/invoke/MethodHandle" ∧ y.cls ≠ "java/lang/invoke/VarHandle" ∧ (parseMethodDescriptor y.desc).map (fun d => d.parameters.length) = some As.length)
    (isC : List Nat) (hnC : va_nd isC = true) (hC : isC.map (fun i => ws[i]?) = wc.map some) (hadr : ∀ u : S, (ws1 u).map Prod.fst = wc.map Prod.fst) 
    (hroom : rm.frames + 1 ≤ (m_R M).frames ∧ 8 + (n + 11) + rm.locals ≤ (m_R M).locals) (hcs : n1 + rm.cells ≤ (m_R M).cells ∧ n2 + rm.slots ≤ (m_R M).slots) (hst : st = As.reverse ++ rest) (hrs : (rest.map fun v => v.category).sum ≤ 8) (hdg : decode cc pc = .ok (.invokestatic index, 3))
    (kk : ∀ (r : Int64) (u : S), ok r u → G B M nL (n1 + rm.cells) (n2 + rm.slots) Q (wput ws isC (ws1 u)) lv (pc + 3) (.long r :: rest)) : G B M nL n1 n2 Q ws lv pc st := by
  intro H locs ls hP hD hS hl
  subst hst
  have hFc := va_free (wc := wc) hD hS X.A isC hC
  refine va_calll (va_runSN (As := As) (rest := rest) ⟨X.x, X.b, X.n, X.o, X.t⟩ (hM H.size) ⟨va_cnB As.length X.t (W0_good hcode) rfl rfl rfl (X.s.2.1 _ hlink) (X.t _ hini) hd hroom, X.t _ hstat, trivial⟩ ⟨PreW.blind _ _ _, PreW.at X As hP hD hS hnC hC⟩ rfl rfl hl.1 rfl (lv_room hrs) hdg hcs) hS (fun q _ h => hFc q h) hFc (fun r u t H1 locs1 ht hvm hw hB hz1 hk1 hS1 => ?_)
  obtain ⟨hP1, hK1, hD1⟩ := hB
  rw [ht] at hP1
  obtain ⟨hP2, hD2⟩ := wput_join (w1 := ws1 u) hP hD isC hC (hadr u) hk1 hP1
  skip
  exact kk r u hw H1 locs1 ls hP2 hD2 hS1 hl
theorem g_callSNr {S : Type} (X : CX B M cc nL own) {ok : S → Prop} {ra : S → Nat} {rt : FieldType} {ws1 : S → va_W} {y : MethodName} {b : ByteArray} {n index : Nat} {rm : Room} {As : List Value} {wc : va_W} {host : String} (hM : Cr (m_l M) B y b n rt rm As wc ok ra ws1)
    (hlink : Cond.methodLinkNest own index y host ∈ nestWords) (hstat : Cond.static y ∈ W0) (hini : Cond.initialized y.cls ∈ W0) (hcode : Cond.code y b n (some rt) ∈ W0) (hd : y.cls ≠ "java/lang/invoke/MethodHandle" ∧ y.cls ≠ "java/lang/invoke/VarHandle" ∧ (parseMethodDescriptor y.desc).map (fun d => d.parameters.length) = some As.length)
    (isC : List Nat) (hnC : va_nd isC = true) (hC : isC.map (fun i => ws[i]?) = wc.map some) (hadr : ∀ u : S, (ws1 u).map Prod.fst = wc.map Prod.fst) 
    (hroom : rm.frames + 1 ≤ (m_R M).frames ∧ 8 + (n + 11) + rm.locals ≤ (m_R M).locals) (hcs : n1 + rm.cells ≤ (m_R M).cells ∧ n2 + rm.slots ≤ (m_R M).slots) (hst : st = As.reverse ++ rest) (hrs : (rest.map fun v => v.category).sum ≤ 8) (hdg : decode cc pc = .ok (.invokestatic index, 3))
    (kk : ∀ (u : S), ok u → G B M nL (n1 + rm.cells) (n2 + rm.slots) Q (wput ws isC (ws1 u)) lv (pc + 3) (.ref (ra u) :: rest)) : G B M nL n1 n2 Q ws lv pc st := by
  intro H locs ls hP hD hS hl
  subst hst
  have hFc := va_free (wc := wc) hD hS X.A isC hC
  refine va_callr (va_runSN (As := As) (rest := rest) ⟨X.x, X.b, X.n, X.o, X.t⟩ (hM H.size) ⟨va_cnB As.length X.t (W0_good hcode) rfl rfl rfl (X.s.2.1 _ hlink) (X.t _ hini) hd hroom, X.t _ hstat, trivial⟩ ⟨PreW.blind _ _ _, PreW.at X As hP hD hS hnC hC⟩ rfl rfl hl.1 rfl (lv_room hrs) hdg hcs) hS (fun q _ h => hFc q h) hFc (fun u ra9 t H1 locs1 ht hvm hw hB hz1 hk1 hS1 => ?_)
  obtain ⟨hra, hP1, hK1, hD1⟩ := hB
  rw [ht] at hP1
  obtain ⟨hP2, hD2⟩ := wput_join (w1 := ws1 u) hP hD isC hC (hadr u) hk1 hP1
  subst hra
  exact kk u hw H1 locs1 ls hP2 hD2 hS1 hl
theorem g_callIv {S : Type} (X : CX B M cc nL own) {ok : S → Prop} {ws1 : S → va_W} {y : MethodName} {b : ByteArray} {n index : Nat} {rm : Room} {As : List Value} {wc : va_W} {a : Nat} (hM : Cv (m_l M) B y b n rm (.ref a :: As) wc ok ws1)
    (hlink : Cond.methodLink own index y ∈ W0) (hinst : Cond.instanceMethod y ∈ W0) (hnm : y.name = "<init>") (hini : Cond.initialized y.cls ∈ W0) (hcode : Cond.code y b n none ∈ W0) (hd : y.cls ≠ "java/lang/invoke/MethodHandle" ∧ y.cls ≠ "java/lang/invoke/VarHandle" ∧ (parseMethodDescriptor y.desc).map (fun d => d.parameters.length) = some As.length)
    (isC : List Nat) (hnC : va_nd isC = true) (hC : isC.map (fun i => ws[i]?) = wc.map some) (hadr : ∀ u : S, (ws1 u).map Prod.fst = wc.map Prod.fst) 
    (hroom : rm.frames + 1 ≤ (m_R M).frames ∧ 8 + (n + 11) + rm.locals ≤ (m_R M).locals) (hcs : n1 + rm.cells ≤ (m_R M).cells ∧ n2 + rm.slots ≤ (m_R M).slots) (hst : st = As.reverse ++ .ref a :: rest) (hrs : (rest.map fun v => v.category).sum ≤ 8) (hdg : decode cc pc = .ok (.invokespecial index, 3))
    (kk : ∀ (u : S), ok u → G B M nL (n1 + rm.cells) (n2 + rm.slots) Q (wput ws isC (ws1 u)) lv (pc + 3) (rest)) : G B M nL n1 n2 Q ws lv pc st := by
  intro H locs ls hP hD hS hl
  subst hst
  have hFc := va_free (wc := wc) hD hS X.A isC hC
  refine va_callv (va_runI (As := As) (rest := rest) ⟨X.x, X.b, X.n, X.o, X.t⟩ (hM H.size) ⟨callB_of As.length X.t (W0_good hcode) rfl rfl rfl (X.t _ hini) (X.t _ hlink) hd hroom, hnm, X.t _ hinst⟩ ⟨PreW.blind _ _ _, PreW.at X (.ref a :: As) hP hD hS hnC hC⟩ rfl rfl hl.1 rfl (lv_room hrs) hdg hcs) hS (fun q _ h => hFc q h) hFc (fun u t H1 locs1 ht hvm hw hB hz1 hk1 hS1 => ?_)
  obtain ⟨hP1, hK1, hD1⟩ := hB
  rw [ht] at hP1
  obtain ⟨hP2, hD2⟩ := wput_join (w1 := ws1 u) hP hD isC hC (hadr u) hk1 hP1
  skip
  exact kk u hw H1 locs1 ls hP2 hD2 hS1 hl
theorem g_callIvA {S : Type} (X : CX B M cc nL own) {ok : S → Prop} {ws1 : S → va_W} (wn : S → va_W) {y : MethodName} {b : ByteArray} {n index : Nat} {rm : Room} {As : List Value} {wc : va_W} {a : Nat} (hM : Cv (m_l M) B y b n rm (.ref a :: As) wc ok (fun u => ws1 u ++ wn u))
    (hlink : Cond.methodLink own index y ∈ W0) (hinst : Cond.instanceMethod y ∈ W0) (hnm : y.name = "<init>") (hini : Cond.initialized y.cls ∈ W0) (hcode : Cond.code y b n none ∈ W0) (hd : y.cls ≠ "java/lang/invoke/MethodHandle" ∧ y.cls ≠ "java/lang/invoke/VarHandle" ∧ (parseMethodDescriptor y.desc).map (fun d => d.parameters.length) = some As.length)
    (isC : List Nat) (hnC : va_nd isC = true) (hC : isC.map (fun i => ws[i]?) = wc.map some) (hadr : ∀ u : S, (ws1 u).map Prod.fst = wc.map Prod.fst) 
    (hroom : rm.frames + 1 ≤ (m_R M).frames ∧ 8 + (n + 11) + rm.locals ≤ (m_R M).locals) (hcs : n1 + rm.cells ≤ (m_R M).cells ∧ n2 + rm.slots ≤ (m_R M).slots) (hst : st = As.reverse ++ .ref a :: rest) (hrs : (rest.map fun v => v.category).sum ≤ 8) (hdg : decode cc pc = .ok (.invokespecial index, 3))
    (kk : ∀ (u : S), ok u → G B M nL (n1 + rm.cells) (n2 + rm.slots) Q (wput ws isC (ws1 u) ++ wn u) lv (pc + 3) (rest)) : G B M nL n1 n2 Q ws lv pc st := by
  intro H locs ls hP hD hS hl
  subst hst
  have hFc := va_free (wc := wc) hD hS X.A isC hC
  refine va_callv (va_runI (As := As) (rest := rest) ⟨X.x, X.b, X.n, X.o, X.t⟩ (hM H.size) ⟨callB_of As.length X.t (W0_good hcode) rfl rfl rfl (X.t _ hini) (X.t _ hlink) hd hroom, hnm, X.t _ hinst⟩ ⟨PreW.blind _ _ _, PreW.at X (.ref a :: As) hP hD hS hnC hC⟩ rfl rfl hl.1 rfl (lv_room hrs) hdg hcs) hS (fun q _ h => hFc q h) hFc (fun u t H1 locs1 ht hvm hw hB hz1 hk1 hS1 => ?_)
  obtain ⟨hP1, hK1, hD1⟩ := hB
  rw [ht] at hP1
  obtain ⟨hP2, hD2⟩ := wput_joinA (w1 := ws1 u) (wn := wn u) hP hD isC hC (hadr u) hk1 hFc hP1 hD1
  skip
  exact kk u hw H1 locs1 ls hP2 hD2 hS1 hl
theorem g_callINv {S : Type} (X : CX B M cc nL own) {ok : S → Prop} {ws1 : S → va_W} {y : MethodName} {b : ByteArray} {n index : Nat} {rm : Room} {As : List Value} {wc : va_W} {host : String} {a : Nat} (hM : Cv (m_l M) B y b n rm (.ref a :: As) wc ok ws1)
    (hlink : Cond.methodLinkNest own index y host ∈ nestWords) (hinst : Cond.instanceMethod y ∈ W0) (hnm : y.name = "<init>") (hini : Cond.initialized y.cls ∈ W0) (hcode : Cond.code y b n none ∈ W0) (hd : y.cls ≠ "java/lang/invoke/MethodHandle" ∧ y.cls ≠ "java/lang/invoke/VarHandle" ∧ (parseMethodDescriptor y.desc).map (fun d => d.parameters.length) = some As.length)
    (isC : List Nat) (hnC : va_nd isC = true) (hC : isC.map (fun i => ws[i]?) = wc.map some) (hadr : ∀ u : S, (ws1 u).map Prod.fst = wc.map Prod.fst) 
    (hroom : rm.frames + 1 ≤ (m_R M).frames ∧ 8 + (n + 11) + rm.locals ≤ (m_R M).locals) (hcs : n1 + rm.cells ≤ (m_R M).cells ∧ n2 + rm.slots ≤ (m_R M).slots) (hst : st = As.reverse ++ .ref a :: rest) (hrs : (rest.map fun v => v.category).sum ≤ 8) (hdg : decode cc pc = .ok (.invokespecial index, 3))
    (kk : ∀ (u : S), ok u → G B M nL (n1 + rm.cells) (n2 + rm.slots) Q (wput ws isC (ws1 u)) lv (pc + 3) (rest)) : G B M nL n1 n2 Q ws lv pc st := by
  intro H locs ls hP hD hS hl
  subst hst
  have hFc := va_free (wc := wc) hD hS X.A isC hC
  refine va_callv (va_runIN (As := As) (rest := rest) ⟨X.x, X.b, X.n, X.o, X.t⟩ (hM H.size) ⟨va_cnB As.length X.t (W0_good hcode) rfl rfl rfl (X.s.2.1 _ hlink) (X.t _ hini) hd hroom, hnm, X.t _ hinst⟩ ⟨PreW.blind _ _ _, PreW.at X (.ref a :: As) hP hD hS hnC hC⟩ rfl rfl hl.1 rfl (lv_room hrs) hdg hcs) hS (fun q _ h => hFc q h) hFc (fun u t H1 locs1 ht hvm hw hB hz1 hk1 hS1 => ?_)
  obtain ⟨hP1, hK1, hD1⟩ := hB
  rw [ht] at hP1
  obtain ⟨hP2, hD2⟩ := wput_join (w1 := ws1 u) hP hD isC hC (hadr u) hk1 hP1
  skip
  exact kk u hw H1 locs1 ls hP2 hD2 hS1 hl
theorem g_callINvA {S : Type} (X : CX B M cc nL own) {ok : S → Prop} {ws1 : S → va_W} (wn : S → va_W) {y : MethodName} {b : ByteArray} {n index : Nat} {rm : Room} {As : List Value} {wc : va_W} {host : String} {a : Nat} (hM : Cv (m_l M) B y b n rm (.ref a :: As) wc ok (fun u => ws1 u ++ wn u))
    (hlink : Cond.methodLinkNest own index y host ∈ nestWords) (hinst : Cond.instanceMethod y ∈ W0) (hnm : y.name = "<init>") (hini : Cond.initialized y.cls ∈ W0) (hcode : Cond.code y b n none ∈ W0) (hd : y.cls ≠ "java/lang/invoke/MethodHandle" ∧ y.cls ≠ "java/lang/invoke/VarHandle" ∧ (parseMethodDescriptor y.desc).map (fun d => d.parameters.length) = some As.length)
    (isC : List Nat) (hnC : va_nd isC = true) (hC : isC.map (fun i => ws[i]?) = wc.map some) (hadr : ∀ u : S, (ws1 u).map Prod.fst = wc.map Prod.fst) 
    (hroom : rm.frames + 1 ≤ (m_R M).frames ∧ 8 + (n + 11) + rm.locals ≤ (m_R M).locals) (hcs : n1 + rm.cells ≤ (m_R M).cells ∧ n2 + rm.slots ≤ (m_R M).slots) (hst : st = As.reverse ++ .ref a :: rest) (hrs : (rest.map fun v => v.category).sum ≤ 8) (hdg : decode cc pc = .ok (.invokespecial index, 3))
    (kk : ∀ (u : S), ok u → G B M nL (n1 + rm.cells) (n2 + rm.slots) Q (wput ws isC (ws1 u) ++ wn u) lv (pc + 3) (rest)) : G B M nL n1 n2 Q ws lv pc st := by
  intro H locs ls hP hD hS hl
  subst hst
  have hFc := va_free (wc := wc) hD hS X.A isC hC
  refine va_callv (va_runIN (As := As) (rest := rest) ⟨X.x, X.b, X.n, X.o, X.t⟩ (hM H.size) ⟨va_cnB As.length X.t (W0_good hcode) rfl rfl rfl (X.s.2.1 _ hlink) (X.t _ hini) hd hroom, hnm, X.t _ hinst⟩ ⟨PreW.blind _ _ _, PreW.at X (.ref a :: As) hP hD hS hnC hC⟩ rfl rfl hl.1 rfl (lv_room hrs) hdg hcs) hS (fun q _ h => hFc q h) hFc (fun u t H1 locs1 ht hvm hw hB hz1 hk1 hS1 => ?_)
  obtain ⟨hP1, hK1, hD1⟩ := hB
  rw [ht] at hP1
  obtain ⟨hP2, hD2⟩ := wput_joinA (w1 := ws1 u) (wn := wn u) hP hD isC hC (hadr u) hk1 hFc hP1 hD1
  skip
  exact kk u hw H1 locs1 ls hP2 hD2 hS1 hl
end GC
section GD
theorem ctr_v {S : Type} {l : Launch} {B : Bx} {y : MethodName} {b : ByteArray} {nL : Nat} {rm : Room} {av : List Value} {ws : va_W} {ok : S → Prop} {ws1 : S → va_W} (hy : plainName y.cls = true) (hav : (lg_sl av).length ≤ nL)
    (body : ∀ (M : Mx) (Q : State → Prop), m_l M = l → m_R M = rm → (m_h M).name = y.name → CX B M b nL y.cls → (∀ (u : S) (lv : List (Nat × Value)) (pc : Nat), ok u → decode b pc = .ok (.return_, 1) → G B M nL rm.cells rm.slots Q (ws1 u) lv pc []) → G B M nL 0 0 Q ws (lv_args 0 av) 0 []) : Cv l B y b nL rm av ws ok ws1 := by
  intro sz
  refine Met.ofW (cc := b) (maxL := nL) (ret := none) hy rfl ?_
  intro p e s m args below meth c s₁ Bd hml hv
  obtain ⟨rfl, hsz, hX, hP, hK, hD0⟩ := hv
  subst hsz
  have hin : meth.name = y.name := (name_of_methodNamed Bd.named Bd.method).1
  have hD := hD0.self (sz := s.heap.size)
  rw [lg_entry_eq]
  refine body (p, l, e, rm, s, m, av.toArray, below, meth, c, va_A ws s.heap.size) _ rfl rfl hin ⟨Bd.exec, Bd.bytes, hml, findClass_of_methodNamed Bd.named, fun w hw => atoms_spec (ws := Cond.code y b nL none :: W0) Bd.pre w (List.mem_cons_of_mem _ hw), hK, fun q h => Or.inr h, fun q h => ?_, hX⟩ ?_ s.heap [] _ hP hD va_S.rf (lv_entry av hav)
  · rcases h with ⟨k, e9, hk⟩ | h
    · exact hD0.2 k _ hk
    · exact Nat.le_trans hX.1 h
  · intro u lv pc hok hd H locs ls hP2 hD2 hS2 hl2
    exact W.vret Bd.exec Bd.bytes Bd.returns (fun t ht hW => ⟨⟨u, rfl, hok, by rw [ht]; exact hP2, va_K.moved hW.alike hK, hD2⟩, hS2.F ht⟩) hS2.2.2 hd Bd.notSynchronized
theorem ctr_i {S : Type} {l : Launch} {B : Bx} {y : MethodName} {b : ByteArray} {nL : Nat} {rm : Room} {av : List Value} {ws : va_W} {ok : Int32 → S → Prop} {ws1 : S → va_W} (hy : plainName y.cls = true) (hav : (lg_sl av).length ≤ nL)
    (body : ∀ (M : Mx) (Q : State → Prop), m_l M = l → m_R M = rm → (m_h M).name = y.name → CX B M b nL y.cls → (∀ (r : Int32) (u : S) (lv : List (Nat × Value)) (pc : Nat), ok r u → decode b pc = .ok (.ireturn, 1) → G B M nL rm.cells rm.slots Q (ws1 u) lv pc [.int r]) → G B M nL 0 0 Q ws (lv_args 0 av) 0 []) : Ci l B y b nL .int rm av ws ok ws1 := by
  intro sz
  refine Met.ofW (cc := b) (maxL := nL) (ret := (some .int)) hy rfl ?_
  intro p e s m args below meth c s₁ Bd hml hv
  obtain ⟨rfl, hsz, hX, hP, hK, hD0⟩ := hv
  subst hsz
  have hin : meth.name = y.name := (name_of_methodNamed Bd.named Bd.method).1
  have hD := hD0.self (sz := s.heap.size)
  rw [lg_entry_eq]
  refine body (p, l, e, rm, s, m, av.toArray, below, meth, c, va_A ws s.heap.size) _ rfl rfl hin ⟨Bd.exec, Bd.bytes, hml, findClass_of_methodNamed Bd.named, fun w hw => atoms_spec (ws := Cond.code y b nL (some .int) :: W0) Bd.pre w (List.mem_cons_of_mem _ hw), hK, fun q h => Or.inr h, fun q h => ?_, hX⟩ ?_ s.heap [] _ hP hD va_S.rf (lv_entry av hav)
  · rcases h with ⟨k, e9, hk⟩ | h
    · exact hD0.2 k _ hk
    · exact Nat.le_trans hX.1 h
  · intro r u lv pc hok hd H locs ls hP2 hD2 hS2 hl2
    exact W.iret Bd.exec Bd.bytes Bd.returns (fun t ht hW => ⟨⟨r, u, rfl, hok, by rw [ht]; exact hP2, va_K.moved hW.alike hK, hD2⟩, hS2.F ht⟩) hS2.2.2 hd Bd.notSynchronized
theorem ctr_z {S : Type} {l : Launch} {B : Bx} {y : MethodName} {b : ByteArray} {nL : Nat} {rm : Room} {av : List Value} {ws : va_W} {ok : Int32 → S → Prop} {ws1 : S → va_W} (hy : plainName y.cls = true) (hav : (lg_sl av).length ≤ nL)
    (body : ∀ (M : Mx) (Q : State → Prop), m_l M = l → m_R M = rm → (m_h M).name = y.name → CX B M b nL y.cls → (∀ (r : Int32) (u : S) (lv : List (Nat × Value)) (pc : Nat), narrow .boolean (.int r) = .int r ∧ ok r u → decode b pc = .ok (.ireturn, 1) → G B M nL rm.cells rm.slots Q (ws1 u) lv pc [.int r]) → G B M nL 0 0 Q ws (lv_args 0 av) 0 []) : Ci l B y b nL .boolean rm av ws ok ws1 := by
  intro sz
  refine Met.ofW (cc := b) (maxL := nL) (ret := (some .boolean)) hy rfl ?_
  intro p e s m args below meth c s₁ Bd hml hv
  obtain ⟨rfl, hsz, hX, hP, hK, hD0⟩ := hv
  subst hsz
  have hin : meth.name = y.name := (name_of_methodNamed Bd.named Bd.method).1
  have hD := hD0.self (sz := s.heap.size)
  rw [lg_entry_eq]
  refine body (p, l, e, rm, s, m, av.toArray, below, meth, c, va_A ws s.heap.size) _ rfl rfl hin ⟨Bd.exec, Bd.bytes, hml, findClass_of_methodNamed Bd.named, fun w hw => atoms_spec (ws := Cond.code y b nL (some .boolean) :: W0) Bd.pre w (List.mem_cons_of_mem _ hw), hK, fun q h => Or.inr h, fun q h => ?_, hX⟩ ?_ s.heap [] _ hP hD va_S.rf (lv_entry av hav)
  · rcases h with ⟨k, e9, hk⟩ | h
    · exact hD0.2 k _ hk
    · exact Nat.le_trans hX.1 h
  · intro r u lv pc hok hd H locs ls hP2 hD2 hS2 hl2
    exact W.zret Bd.exec Bd.bytes Bd.returns hok.1 (fun t ht hW => ⟨⟨r, u, rfl, hok.2, by rw [ht]; exact hP2, va_K.moved hW.alike hK, hD2⟩, hS2.F ht⟩) hS2.2.2 hd Bd.notSynchronized
theorem ctr_l {S : Type} {l : Launch} {B : Bx} {y : MethodName} {b : ByteArray} {nL : Nat} {rm : Room} {av : List Value} {ws : va_W} {ok : Int64 → S → Prop} {ws1 : S → va_W} (hy : plainName y.cls = true) (hav : (lg_sl av).length ≤ nL)
    (body : ∀ (M : Mx) (Q : State → Prop), m_l M = l → m_R M = rm → (m_h M).name = y.name → CX B M b nL y.cls → (∀ (r : Int64) (u : S) (lv : List (Nat × Value)) (pc : Nat), ok r u → decode b pc = .ok (.lreturn, 1) → G B M nL rm.cells rm.slots Q (ws1 u) lv pc [.long r]) → G B M nL 0 0 Q ws (lv_args 0 av) 0 []) : Cl l B y b nL rm av ws ok ws1 := by
  intro sz
  refine Met.ofW (cc := b) (maxL := nL) (ret := (some .long)) hy rfl ?_
  intro p e s m args below meth c s₁ Bd hml hv
  obtain ⟨rfl, hsz, hX, hP, hK, hD0⟩ := hv
  subst hsz
  have hin : meth.name = y.name := (name_of_methodNamed Bd.named Bd.method).1
  have hD := hD0.self (sz := s.heap.size)
  rw [lg_entry_eq]
  refine body (p, l, e, rm, s, m, av.toArray, below, meth, c, va_A ws s.heap.size) _ rfl rfl hin ⟨Bd.exec, Bd.bytes, hml, findClass_of_methodNamed Bd.named, fun w hw => atoms_spec (ws := Cond.code y b nL (some .long) :: W0) Bd.pre w (List.mem_cons_of_mem _ hw), hK, fun q h => Or.inr h, fun q h => ?_, hX⟩ ?_ s.heap [] _ hP hD va_S.rf (lv_entry av hav)
  · rcases h with ⟨k, e9, hk⟩ | h
    · exact hD0.2 k _ hk
    · exact Nat.le_trans hX.1 h
  · intro r u lv pc hok hd H locs ls hP2 hD2 hS2 hl2
    exact W.lret Bd.exec Bd.bytes Bd.returns (fun t ht hW => ⟨⟨r, u, rfl, hok, by rw [ht]; exact hP2, va_K.moved hW.alike hK, hD2⟩, hS2.F ht⟩) hS2.2.2 hd Bd.notSynchronized
theorem ctr_r {S : Type} {l : Launch} {B : Bx} {y : MethodName} {b : ByteArray} {nL : Nat} {rm : Room} {av : List Value} {ws : va_W} {ok : S → Prop} {ra : S → Nat} {rt : FieldType} {ws1 : S → va_W} (hy : plainName y.cls = true) (hrt : (∃ n, rt = .object n) ∨ ∃ t, rt = .array t) (hav : (lg_sl av).length ≤ nL)
    (body : ∀ (M : Mx) (Q : State → Prop), m_l M = l → m_R M = rm → (m_h M).name = y.name → CX B M b nL y.cls → (∀ (u : S) (lv : List (Nat × Value)) (pc : Nat), ok u → decode b pc = .ok (.areturn, 1) → G B M nL rm.cells rm.slots Q (ws1 u) lv pc [.ref (ra u)]) → G B M nL 0 0 Q ws (lv_args 0 av) 0 []) : Cr l B y b nL rt rm av ws ok ra ws1 := by
  intro sz
  refine Met.ofW (cc := b) (maxL := nL) (ret := (some rt)) hy rfl ?_
  intro p e s m args below meth c s₁ Bd hml hv
  obtain ⟨rfl, hsz, hX, hP, hK, hD0⟩ := hv
  subst hsz
  have hin : meth.name = y.name := (name_of_methodNamed Bd.named Bd.method).1
  have hD := hD0.self (sz := s.heap.size)
  rw [lg_entry_eq]
  refine body (p, l, e, rm, s, m, av.toArray, below, meth, c, va_A ws s.heap.size) _ rfl rfl hin ⟨Bd.exec, Bd.bytes, hml, findClass_of_methodNamed Bd.named, fun w hw => atoms_spec (ws := Cond.code y b nL (some rt) :: W0) Bd.pre w (List.mem_cons_of_mem _ hw), hK, fun q h => Or.inr h, fun q h => ?_, hX⟩ ?_ s.heap [] _ hP hD va_S.rf (lv_entry av hav)
  · rcases h with ⟨k, e9, hk⟩ | h
    · exact hD0.2 k _ hk
    · exact Nat.le_trans hX.1 h
  · intro u lv pc hok hd H locs ls hP2 hD2 hS2 hl2
    exact W.aret Bd.exec Bd.bytes Bd.returns hrt (Or.inr ⟨_, rfl⟩) (fun t ht hW => ⟨⟨u, ra u, rfl, hok, rfl, by rw [ht]; exact hP2, va_K.moved hW.alike hK, hD2⟩, hS2.F ht⟩) hS2.2.2 hd Bd.notSynchronized
end GD
end
section
section GE
variable {B : Bx} {M : Mx} {cc : ByteArray} {nL n1 n2 : Nat} {own : String} {Q : State → Prop} {ws : va_W} {lv : List (Nat × Value)} {pc : Nat} {st rest : List Value}
theorem g_iinc (X : CX B M cc nL own) {i : Nat} {n : Int} {x k9 : Int32} (hdg : decode cc pc = .ok (.iinc i n, 3)) (hl : lvq lv i = some (.int x)) (hv : Int32.ofInt n = k9) (hn : i < nL)
    (kk : G B M nL n1 n2 Q ws ((i, Value.int (x + k9)) :: lv.filter (fun q => !(q.1 == i) && !(q.1 + 1 == i && q.2.category == 2))) (pc + 3) rest) : G B M nL n1 n2 Q ws lv pc rest := by
  intro H locs ls hP hD hS hl0
  obtain ⟨k, hk⟩ := List.getElem?_of_mem (lvq_mem hl)
  exact lv_iinc X.x X.b hdg hl0 hk (by rw [hv]) hn rfl (fun ls' hl' => kk H locs ls' hP hD hS hl')
theorem g_lcmp (X : CX B M cc nL own) {x y : Int64} (hdg : decode cc pc = .ok (.lcmp, 1)) (k : G B M nL n1 n2 Q ws lv (pc + 1) (.int (lg_cmp x y) :: rest)) : G B M nL n1 n2 Q ws lv pc (.long y :: .long x :: rest) :=
  fun H locs ls hP hD hS hl => W.lcmp X.x X.b hdg (k H locs ls hP hD hS hl)
theorem g_mmin (X : CX B M cc nL own) {index : Nat} (hlink : Cond.methodLink own index Lib.Math.min.name ∈ W0) (hstat : Cond.static Lib.Math.min.name ∈ W0) (hini : Cond.initialized "java/lang/Math" ∈ W0) (hcode : Cond.code Lib.Math.min.name Lib.Math.min.code 2 (some .int) ∈ W0)
    (hframes : 1 ≤ (m_R M).frames) (hlocals : (rest.map fun v => v.category).sum + 13 ≤ (m_R M).locals) (hc : n1 ≤ (m_R M).cells) (hs : n2 ≤ (m_R M).slots) {x y : Int32} (hdg : decode cc pc = .ok (.invokestatic index, 3))
    (kk : G B M nL n1 n2 Q ws lv (pc + 3) (.int (if y < x then y else x) :: rest)) : G B M nL n1 n2 Q ws lv pc (.int y :: .int x :: rest) :=
  fun H locs ls hP hD hS hl => va_mmin X.x X.b (by rw [X.n]; exact hl.1.symm) X.o (X.t _ hlink) (X.t _ hstat) (X.t _ hini) (X.t _ hcode) hframes hlocals hc hs hdg (kk H locs ls hP hD hS hl)
theorem nI_nn {k : Nat} (h : k < 2 ^ 31) : ¬ nI k < 0 := nI_pos h
theorem g_copyb (X : CX B M cc nL own) {index : Nat} (hlink : Cond.methodLink own index arraycopyName ∈ W0) (hnat : Cond.native arraycopyName ∈ W0) (hstat : Cond.static arraycopyName ∈ W0) (hini : Cond.initialized "java/lang/System" ∈ W0)
    (q0 q1 : Nat) {a0 a n0 m0 : Nat} {f g : Nat → Int8} (he0 : ws[q0]? = some (cb B a0 n0 f)) (he1 : ws[q1]? = some (cb B a m0 g)) (sp dp k : Nat) {x1 x2 x3 : Int32} (h1 : x1 = nI sp) (h2 : x2 = nI dp) (h3 : x3 = nI k) (h4 : sp + k ≤ n0) (h5 : dp + k ≤ m0) (hn0 : n0 < 2 ^ 31) (hm0 : m0 < 2 ^ 31)
    (hframes : 1 ≤ (m_R M).frames) (hlocals : (rest.map fun v => v.category).sum + (nativeFrameWords "java/lang/System" "arraycopy" 5 + 11) ≤ (m_R M).locals) (hdg : decode cc pc = .ok (.invokestatic index, 3))
    (kk : G B M nL n1 n2 Q (ws.set q1 (cb B a m0 (va_cpy f g sp dp k))) lv (pc + 3) rest) : G B M nL n1 n2 Q ws lv pc (.int x3 :: .int x2 :: .ref a :: .int x1 :: .ref a0 :: rest) := by
  intro H locs ls hP hD hS hl
  subst h1 h2 h3
  have e1 := nI_clamp (n := sp) (by omega)
  have e2 := nI_clamp (n := dp) (by omega)
  have e3 := nI_clamp (n := k) (by omega)
  refine va_copyi X.x X.b (by rw [X.n]; exact hl.1.symm) X.o (X.t _ hlink) (X.t _ hnat) (X.t _ hstat) (X.t _ hini) X.k hP hD hS q0 q1 0 0 he0 he1 rfl rfl rfl (nI_pos (by omega)) (nI_pos (by omega)) (nI_pos (by omega)) (by rw [e1, e3]; exact h4) (by rw [e2, e3]; exact h5) (fun i _ => by_fits _) hframes hlocals hdg (fun H1 locs1 hP1 hD1 hS1 => ?_)
  rw [e1, e2, e3, cpy_bt] at hP1 hD1
  exact kk H1 locs1 ls hP1 hD1 hS1 hl
theorem g_copyj (X : CX B M cc nL own) {index : Nat} (hlink : Cond.methodLink own index arraycopyName ∈ W0) (hnat : Cond.native arraycopyName ∈ W0) (hstat : Cond.static arraycopyName ∈ W0) (hini : Cond.initialized "java/lang/System" ∈ W0)
    (q0 q1 : Nat) {a0 a n0 m0 : Nat} {f g : Nat → Int64} (he0 : ws[q0]? = some (cj B a0 n0 f)) (he1 : ws[q1]? = some (cj B a m0 g)) (sp dp k : Nat) {x1 x2 x3 : Int32} (h1 : x1 = nI sp) (h2 : x2 = nI dp) (h3 : x3 = nI k) (h4 : sp + k ≤ n0) (h5 : dp + k ≤ m0) (hn0 : n0 < 2 ^ 31) (hm0 : m0 < 2 ^ 31)
    (hframes : 1 ≤ (m_R M).frames) (hlocals : (rest.map fun v => v.category).sum + (nativeFrameWords "java/lang/System" "arraycopy" 5 + 11) ≤ (m_R M).locals) (hdg : decode cc pc = .ok (.invokestatic index, 3))
    (kk : G B M nL n1 n2 Q (ws.set q1 (cj B a m0 (va_cpy f g sp dp k))) lv (pc + 3) rest) : G B M nL n1 n2 Q ws lv pc (.int x3 :: .int x2 :: .ref a :: .int x1 :: .ref a0 :: rest) := by
  intro H locs ls hP hD hS hl
  subst h1 h2 h3
  have e1 := nI_clamp (n := sp) (by omega)
  have e2 := nI_clamp (n := dp) (by omega)
  have e3 := nI_clamp (n := k) (by omega)
  refine va_copyl X.x X.b (by rw [X.n]; exact hl.1.symm) X.o (X.t _ hlink) (X.t _ hnat) (X.t _ hstat) (X.t _ hini) X.k hP hD hS q0 q1 1 1 he0 he1 rfl rfl rfl (nI_pos (by omega)) (nI_pos (by omega)) (nI_pos (by omega)) (by rw [e1, e3]; exact h4) (by rw [e2, e3]; exact h5) (fun i _ => rfl) hframes hlocals hdg (fun H1 locs1 hP1 hD1 hS1 => ?_)
  rw [e1, e2, e3] at hP1 hD1
  exact kk H1 locs1 ls hP1 hD1 hS1 hl
end GE
def it {σ : Type} (F : Nat → σ → σ) : Nat → σ → σ
  | 0, s => s
  | k + 1, s => F k (it F k s)
theorem loopI {σ : Type} (F : Nat → σ → σ) (J : Nat → σ → Prop) (P : Nat → σ → Prop) (n : Nat) (s0 : σ) (h0 : J 0 s0) (hJ : ∀ (k : Nat) (s : σ), k < n → J k s → J (k + 1) (F k s))
    (hs : ∀ (k : Nat) (s : σ), k < n → J k s → (∀ t : σ, t = F k s → P (k + 1) t) → P k s) (he : J n (it F n s0) → P n (it F n s0)) : P 0 s0 := by
  have hall : ∀ k, k ≤ n → J k (it F k s0) := by
    intro k
    induction k with
    | zero => exact fun _ => h0
    | succ k ih => exact fun h => hJ k _ (by omega) (ih (by omega))
  have hdn : ∀ j k, k + j = n → P k (it F k s0) := by
    intro j
    induction j with
    | zero => intro k hk; have : k = n := by omega
              subst this; exact he (hall _ (Nat.le_refl _))
    | succ j ih => intro k hk; exact hs k _ (by omega) (hall k (by omega)) (fun t ht => by subst ht; exact ih (k + 1) (by omega))
  exact hdn n 0 (by omega)
theorem loopF {σ : Type} (F : Nat → σ → σ) (P : Nat → σ → Prop) (n : Nat) (s0 : σ) (hs : ∀ (k : Nat) (s : σ), k < n → (∀ t : σ, t = F k s → P (k + 1) t) → P k s) (he : P n (it F n s0)) : P 0 s0 :=
  loopI F (fun _ _ => True) P n s0 trivial (fun _ _ _ _ => trivial) (fun k s hk _ kk => hs k s hk kk) (fun _ => he)
theorem loopK (P : Nat → Prop) (n : Nat) (hs : ∀ k : Nat, k < n → P (k + 1) → P k) (he : P n) : P 0 := by
  have hdn : ∀ j k, k + j = n → P k := by
    intro j
    induction j with
    | zero => intro k hk; have : k = n := by omega
              subst this; exact he
    | succ j ih => intro k hk; exact hs k (by omega) (ih (k + 1) (by omega))
  exact hdn n 0 (by omega)
abbrev Rm (d c s : Nat) : Room := { frames := d, cells := c, slots := s, locals := 100 * d }
def ush (x y : Int32) : Int32 := (x.toUInt32 >>> (y.toUInt32 &&& Int32.toUInt32 31)).toInt32
def lush (x : Int64) (y : Int32) : Int64 := (x.toUInt64 >>> (y.toInt64.toUInt64 &&& Int64.toUInt64 63)).toInt64
def lshl (x : Int64) (y : Int32) : Int64 := x <<< (y.toInt64 &&& 63)
def lshr (x : Int64) (y : Int32) : Int64 := x >>> (y.toInt64 &&& 63)
section GN
variable {B : Bx} {M : Mx} {cc : ByteArray} {nL n1 n2 : Nat} {own : String} {Q : State → Prop} {ws : va_W} {lv : List (Nat × Value)} {pc : Nat} {st rest : List Value}
theorem g_wsq (ws' : va_W) (h : ws = ws') (k : G B M nL n1 n2 Q ws' lv pc st) : G B M nL n1 n2 Q ws lv pc st := h ▸ k
theorem g_lve (lv' : List (Nat × Value)) (h : lv = lv') (k : G B M nL n1 n2 Q ws lv' pc st) : G B M nL n1 n2 Q ws lv pc st := h ▸ k
theorem g_iaddN (X : CX B M cc nL own) {a b : Nat} (c : Nat) (hc : a + b = c) (hdg : decode cc pc = .ok (.iadd, 1)) (k : G B M nL n1 n2 Q ws lv (pc + 1) (.int (nI c) :: rest)) : G B M nL n1 n2 Q ws lv pc (.int (nI b) :: .int (nI a) :: rest) := g_iadd X hdg (by rw [nI_add, hc]; exact k)
theorem g_isubN (X : CX B M cc nL own) {a b : Nat} (c : Nat) (hc : c + b = a) (hdg : decode cc pc = .ok (.isub, 1)) (k : G B M nL n1 n2 Q ws lv (pc + 1) (.int (nI c) :: rest)) : G B M nL n1 n2 Q ws lv pc (.int (nI b) :: .int (nI a) :: rest) := g_isub X hdg (by rw [pk_sub (by omega), show a - b = c by omega]; exact k)
theorem g_imulN (X : CX B M cc nL own) {a b : Nat} (c : Nat) (hc : a * b = c) (hdg : decode cc pc = .ok (.imul, 1)) (k : G B M nL n1 n2 Q ws lv (pc + 1) (.int (nI c) :: rest)) : G B M nL n1 n2 Q ws lv pc (.int (nI b) :: .int (nI a) :: rest) := g_imul X hdg (by rw [pk_mul, hc]; exact k)
theorem g_idivN (X : CX B M cc nL own) {a b : Nat} (c : Nat) (ha : a < 2 ^ 31) (h0 : 0 < b) (hb : b < 2 ^ 31) (hc : a / b = c) (hdg : decode cc pc = .ok (.idiv, 1)) (k : G B M nL n1 n2 Q ws lv (pc + 1) (.int (nI c) :: rest)) : G B M nL n1 n2 Q ws lv pc (.int (nI b) :: .int (nI a) :: rest) := g_idiv X hdg (nI_ne0 h0 hb) (by rw [pk_div ha h0 hb, hc]; exact k)
theorem g_iremN (X : CX B M cc nL own) {a b : Nat} (c : Nat) (ha : a < 2 ^ 31) (h0 : 0 < b) (hb : b < 2 ^ 31) (hc : a % b = c) (hdg : decode cc pc = .ok (.irem, 1)) (k : G B M nL n1 n2 Q ws lv (pc + 1) (.int (nI c) :: rest)) : G B M nL n1 n2 Q ws lv pc (.int (nI b) :: .int (nI a) :: rest) := g_irem X hdg (nI_ne0 h0 hb) (by rw [pk_rem ha h0 hb, hc]; exact k)
theorem g_ishrN (X : CX B M cc nL own) {a b : Nat} (k9 c : Nat) (hs : ((nI b &&& 31).toBitVec.smod 32).toNat = k9) (ha : a < 2 ^ 31) (hc : a / 2 ^ k9 = c) (hdg : decode cc pc = .ok (.ishr, 1)) (k : G B M nL n1 n2 Q ws lv (pc + 1) (.int (nI c) :: rest)) : G B M nL n1 n2 Q ws lv pc (.int (nI b) :: .int (nI a) :: rest) := g_ishr X hdg (by rw [pk_shrN ha _ k9 hs, hc]; exact k)
theorem g_iandN (X : CX B M cc nL own) {a b : Nat} (k9 c : Nat) (hs : (nI b).toBitVec.toNat = 2 ^ k9 - 1) (ha : a < 2 ^ 32) (hc : a % 2 ^ k9 = c) (hdg : decode cc pc = .ok (.iand, 1)) (k : G B M nL n1 n2 Q ws lv (pc + 1) (.int (nI c) :: rest)) : G B M nL n1 n2 Q ws lv pc (.int (nI b) :: .int (nI a) :: rest) := g_iand X hdg (by rw [pk_andN ha k9 hs, hc]; exact k)
theorem g_iincN (X : CX B M cc nL own) {i : Nat} {n : Int} {a : Nat} (c : Nat) (hdg : decode cc pc = .ok (.iinc i n, 3)) (hl : lvq lv i = some (.int (nI a))) (d : Nat) (hv : n = (d : Int)) (hc : a + d = c) (hn : i < nL)
    (kk : G B M nL n1 n2 Q ws ((i, Value.int (nI c)) :: lv.filter (fun q => !(q.1 == i) && !(q.1 + 1 == i && q.2.category == 2))) (pc + 3) rest) : G B M nL n1 n2 Q ws lv pc rest :=
  g_iinc (k9 := nI d) X hdg hl (by subst hv; exact Int32.ofInt_eq_ofNat) hn (by rw [nI_add, hc]; exact kk)
theorem g_iincD (X : CX B M cc nL own) {i : Nat} {n : Int} {a : Nat} (c : Nat) (hdg : decode cc pc = .ok (.iinc i n, 3)) (hl : lvq lv i = some (.int (nI a))) (d : Nat) (hv : n = -(d : Int)) (hc : c + d = a) (hn : i < nL)
    (kk : G B M nL n1 n2 Q ws ((i, Value.int (nI c)) :: lv.filter (fun q => !(q.1 == i) && !(q.1 + 1 == i && q.2.category == 2))) (pc + 3) rest) : G B M nL n1 n2 Q ws lv pc rest :=
  g_iinc (k9 := -nI d) X hdg hl (by subst hv; rw [Int32.ofInt_neg]; rfl) hn (by rw [show nI a + -nI d = nI c by rw [← Int32.sub_eq_add_neg, pk_sub (by omega)]; congr 1; omega]; exact kk)
theorem g_bastB (X : CX B M cc nL own) {a n : Nat} {g : Nat → Int8} (q0 : Nat) (he : ws[q0]? = some (cb B a n g)) (k : Nat) {i : Int32} {t : Int8} (hi : i = nI k) (hk : k < n) (hn : n < 2 ^ 31) (hdg : decode cc pc = .ok (.bastore, 1))
    (kk : G B M nL n1 n2 Q (ws.set q0 (cb B a n (va_up g k t))) lv (pc + 1) rest) : G B M nL n1 n2 Q ws lv pc (.int t.toInt32 :: .int i :: .ref a :: rest) := g_bast X q0 he k hi hk hn hdg (by rw [Int8.toInt8_toInt32]; exact kk)
theorem g_icmp_eqN (X : CX B M cc nL own) {a b : Nat} {off : Int} {tgt : Nat} (hdg : decode cc pc = .ok (.if_icmp .eq off, 3)) (ht : (pc : Int) + off = (tgt : Int)) (ha : a < 2 ^ 31) (hb : b < 2 ^ 31) (kt : a = b → G B M nL n1 n2 Q ws lv tgt rest) (kf : a ≠ b → G B M nL n1 n2 Q ws lv (pc + 3) rest) : G B M nL n1 n2 Q ws lv pc (.int (nI b) :: .int (nI a) :: rest) :=
  g_icmp_eq X hdg ht (fun h => kt ((nI_eq ha hb).mp h)) (fun h => kf (fun h2 => h ((nI_eq ha hb).mpr h2)))
theorem g_icmp_neN (X : CX B M cc nL own) {a b : Nat} {off : Int} {tgt : Nat} (hdg : decode cc pc = .ok (.if_icmp .ne off, 3)) (ht : (pc : Int) + off = (tgt : Int)) (ha : a < 2 ^ 31) (hb : b < 2 ^ 31) (kt : a ≠ b → G B M nL n1 n2 Q ws lv tgt rest) (kf : a = b → G B M nL n1 n2 Q ws lv (pc + 3) rest) : G B M nL n1 n2 Q ws lv pc (.int (nI b) :: .int (nI a) :: rest) :=
  g_icmp_ne X hdg ht (fun h => kt (fun h2 => h ((nI_eq ha hb).mpr h2))) (fun h => kf ((nI_eq ha hb).mp h))
theorem g_icmp_ltN (X : CX B M cc nL own) {a b : Nat} {off : Int} {tgt : Nat} (hdg : decode cc pc = .ok (.if_icmp .lt off, 3)) (ht : (pc : Int) + off = (tgt : Int)) (ha : a < 2 ^ 31) (hb : b < 2 ^ 31) (kt : a < b → G B M nL n1 n2 Q ws lv tgt rest) (kf : b ≤ a → G B M nL n1 n2 Q ws lv (pc + 3) rest) : G B M nL n1 n2 Q ws lv pc (.int (nI b) :: .int (nI a) :: rest) :=
  g_icmp_lt X hdg ht (fun h => kt ((nI_ltI ha hb).mp h)) (fun h => kf (Nat.le_of_not_lt (fun h2 => h ((nI_ltI ha hb).mpr h2))))
theorem g_icmp_geN (X : CX B M cc nL own) {a b : Nat} {off : Int} {tgt : Nat} (hdg : decode cc pc = .ok (.if_icmp .ge off, 3)) (ht : (pc : Int) + off = (tgt : Int)) (ha : a < 2 ^ 31) (hb : b < 2 ^ 31) (kt : b ≤ a → G B M nL n1 n2 Q ws lv tgt rest) (kf : a < b → G B M nL n1 n2 Q ws lv (pc + 3) rest) : G B M nL n1 n2 Q ws lv pc (.int (nI b) :: .int (nI a) :: rest) :=
  g_icmp_ge X hdg ht (fun h => kt ((nI_leI hb ha).mp h)) (fun h => kf (Nat.lt_of_not_le (fun h2 => h ((nI_leI hb ha).mpr h2))))
theorem g_icmp_gtN (X : CX B M cc nL own) {a b : Nat} {off : Int} {tgt : Nat} (hdg : decode cc pc = .ok (.if_icmp .gt off, 3)) (ht : (pc : Int) + off = (tgt : Int)) (ha : a < 2 ^ 31) (hb : b < 2 ^ 31) (kt : b < a → G B M nL n1 n2 Q ws lv tgt rest) (kf : a ≤ b → G B M nL n1 n2 Q ws lv (pc + 3) rest) : G B M nL n1 n2 Q ws lv pc (.int (nI b) :: .int (nI a) :: rest) :=
  g_icmp_gt X hdg ht (fun h => kt ((nI_ltI hb ha).mp h)) (fun h => kf (Nat.le_of_not_lt (fun h2 => h ((nI_ltI hb ha).mpr h2))))
theorem g_icmp_leN (X : CX B M cc nL own) {a b : Nat} {off : Int} {tgt : Nat} (hdg : decode cc pc = .ok (.if_icmp .le off, 3)) (ht : (pc : Int) + off = (tgt : Int)) (ha : a < 2 ^ 31) (hb : b < 2 ^ 31) (kt : a ≤ b → G B M nL n1 n2 Q ws lv tgt rest) (kf : b < a → G B M nL n1 n2 Q ws lv (pc + 3) rest) : G B M nL n1 n2 Q ws lv pc (.int (nI b) :: .int (nI a) :: rest) :=
  g_icmp_le X hdg ht (fun h => kt ((nI_leI ha hb).mp h)) (fun h => kf (Nat.lt_of_not_le (fun h2 => h ((nI_leI ha hb).mpr h2))))
theorem g_if_eqN (X : CX B M cc nL own) {a : Nat} {off : Int} {tgt : Nat} (hdg : decode cc pc = .ok (.ifCond .eq off, 3)) (ht : (pc : Int) + off = (tgt : Int)) (ha : a < 2 ^ 31) (kt : a = 0 → G B M nL n1 n2 Q ws lv tgt rest) (kf : 0 < a → G B M nL n1 n2 Q ws lv (pc + 3) rest) : G B M nL n1 n2 Q ws lv pc (.int (nI a) :: rest) :=
  g_if_eq X hdg ht (fun h => kt ((nI_eq ha (by omega)).mp (h.trans nI_0.symm))) (fun h => kf (Nat.pos_of_ne_zero (fun h2 => h (by rw [h2]; exact nI_0))))
theorem g_if_neN (X : CX B M cc nL own) {a : Nat} {off : Int} {tgt : Nat} (hdg : decode cc pc = .ok (.ifCond .ne off, 3)) (ht : (pc : Int) + off = (tgt : Int)) (ha : a < 2 ^ 31) (kt : 0 < a → G B M nL n1 n2 Q ws lv tgt rest) (kf : a = 0 → G B M nL n1 n2 Q ws lv (pc + 3) rest) : G B M nL n1 n2 Q ws lv pc (.int (nI a) :: rest) :=
  g_if_ne X hdg ht (fun h => kt (Nat.pos_of_ne_zero (fun h2 => h (by rw [h2]; exact nI_0)))) (fun h => kf ((nI_eq ha (by omega)).mp (h.trans nI_0.symm)))
theorem g_if_gtN (X : CX B M cc nL own) {a : Nat} {off : Int} {tgt : Nat} (hdg : decode cc pc = .ok (.ifCond .gt off, 3)) (ht : (pc : Int) + off = (tgt : Int)) (ha : a < 2 ^ 31) (kt : 0 < a → G B M nL n1 n2 Q ws lv tgt rest) (kf : a = 0 → G B M nL n1 n2 Q ws lv (pc + 3) rest) : G B M nL n1 n2 Q ws lv pc (.int (nI a) :: rest) :=
  g_if_gt X hdg ht (fun h => kt (by rw [← nI_0] at h; exact (nI_ltI (by omega) ha).mp h)) (fun h => kf (Nat.eq_zero_of_not_pos (fun h2 => h (by rw [← nI_0]; exact (nI_ltI (by omega) ha).mpr h2))))
theorem g_if_leN (X : CX B M cc nL own) {a : Nat} {off : Int} {tgt : Nat} (hdg : decode cc pc = .ok (.ifCond .le off, 3)) (ht : (pc : Int) + off = (tgt : Int)) (ha : a < 2 ^ 31) (kt : a = 0 → G B M nL n1 n2 Q ws lv tgt rest) (kf : 0 < a → G B M nL n1 n2 Q ws lv (pc + 3) rest) : G B M nL n1 n2 Q ws lv pc (.int (nI a) :: rest) :=
  g_if_le X hdg ht (fun h => kt (Nat.le_zero.mp (by rw [← nI_0] at h; exact (nI_leI ha (by omega)).mp h))) (fun h => kf (Nat.pos_of_ne_zero (fun h2 => h (by rw [h2, nI_0]; exact Int32.le_refl _))))
theorem g_if_ltN (X : CX B M cc nL own) {a : Nat} {off : Int} {tgt : Nat} (hdg : decode cc pc = .ok (.ifCond .lt off, 3)) (ht : (pc : Int) + off = (tgt : Int)) (ha : a < 2 ^ 31) (kf : G B M nL n1 n2 Q ws lv (pc + 3) rest) : G B M nL n1 n2 Q ws lv pc (.int (nI a) :: rest) :=
  g_if_lt X hdg ht (fun h => absurd h (nI_pos ha)) (fun _ => kf)
theorem g_if_geN (X : CX B M cc nL own) {a : Nat} {off : Int} {tgt : Nat} (hdg : decode cc pc = .ok (.ifCond .ge off, 3)) (ht : (pc : Int) + off = (tgt : Int)) (ha : a < 2 ^ 31) (kt : G B M nL n1 n2 Q ws lv tgt rest) : G B M nL n1 n2 Q ws lv pc (.int (nI a) :: rest) :=
  g_if_ge X hdg ht (fun _ => kt) (fun h => absurd (nI_pos' ha) h)
end GN
end
